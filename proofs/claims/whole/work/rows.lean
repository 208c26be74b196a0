section
-- ===== PART A: goes FIRST, ahead of the names: the tables' words, and 'selects' of the private methods out of them =====
/-- a private method of a class that the tables say can be made, by its rows of tables_1 -/
def lw_okq (q : MethodName × Nat) : Prop := (q.1.cls ≠ "java/lang/invoke/MethodHandle" ∧ q.1.cls ≠ "java/lang/invoke/VarHandle") ∧ Cond.instantiable q.1.cls q.2 ∈ tables_1 ∧ Cond.privateMethod q.1 ∈ tables_1 ∧ Cond.instanceMethod q.1 ∈ tables_1
theorem lw_p0 : lw_okq (⟨"NotePress", "layText", "()Z"⟩, 5) := ⟨⟨by decide +kernel, by decide +kernel⟩, List.mem_of_getElem? (i := 16) (by decide +kernel), List.mem_of_getElem? (i := 216) (by decide +kernel), List.mem_of_getElem? (i := 217) (by decide +kernel)⟩
theorem lw_p1 : lw_okq (⟨"NotePress$Text", "readItem", "(LNotePress$Plan;)Z"⟩, 3) := ⟨⟨by decide +kernel, by decide +kernel⟩, List.mem_of_getElem? (i := 24) (by decide +kernel), List.mem_of_getElem? (i := 228) (by decide +kernel), List.mem_of_getElem? (i := 229) (by decide +kernel)⟩
theorem lw_p2 : lw_okq (⟨"NotePress$Text", "skip", "(I)Z"⟩, 3) := ⟨⟨by decide +kernel, by decide +kernel⟩, List.mem_of_getElem? (i := 24) (by decide +kernel), List.mem_of_getElem? (i := 232) (by decide +kernel), List.mem_of_getElem? (i := 233) (by decide +kernel)⟩
theorem lw_p3 : lw_okq (⟨"NotePress$Text", "readPress", "(LNotePress$Plan;)Z"⟩, 3) := ⟨⟨by decide +kernel, by decide +kernel⟩, List.mem_of_getElem? (i := 24) (by decide +kernel), List.mem_of_getElem? (i := 236) (by decide +kernel), List.mem_of_getElem? (i := 237) (by decide +kernel)⟩
theorem lw_p4 : lw_okq (⟨"NotePress$Text", "readNumber", "()I"⟩, 3) := ⟨⟨by decide +kernel, by decide +kernel⟩, List.mem_of_getElem? (i := 24) (by decide +kernel), List.mem_of_getElem? (i := 240) (by decide +kernel), List.mem_of_getElem? (i := 241) (by decide +kernel)⟩
theorem lw_p5 : lw_okq (⟨"NotePress$Text", "readFigure", "()I"⟩, 3) := ⟨⟨by decide +kernel, by decide +kernel⟩, List.mem_of_getElem? (i := 24) (by decide +kernel), List.mem_of_getElem? (i := 244) (by decide +kernel), List.mem_of_getElem? (i := 245) (by decide +kernel)⟩
theorem lw_p6 : lw_okq (⟨"NotePress$Text", "readSeries", "(LNotePress$Plan;)Z"⟩, 3) := ⟨⟨by decide +kernel, by decide +kernel⟩, List.mem_of_getElem? (i := 24) (by decide +kernel), List.mem_of_getElem? (i := 255) (by decide +kernel), List.mem_of_getElem? (i := 256) (by decide +kernel)⟩
theorem lw_p7 : lw_okq (⟨"NotePress$Text", "readLetter", "()I"⟩, 3) := ⟨⟨by decide +kernel, by decide +kernel⟩, List.mem_of_getElem? (i := 24) (by decide +kernel), List.mem_of_getElem? (i := 263) (by decide +kernel), List.mem_of_getElem? (i := 264) (by decide +kernel)⟩
theorem lw_p8 : lw_okq (⟨"NotePress$Text", "readStars", "(LNotePress$Plan;)Z"⟩, 3) := ⟨⟨by decide +kernel, by decide +kernel⟩, List.mem_of_getElem? (i := 24) (by decide +kernel), List.mem_of_getElem? (i := 287) (by decide +kernel), List.mem_of_getElem? (i := 288) (by decide +kernel)⟩
theorem lw_p9 : lw_okq (⟨"NotePress$Changes", "remember", "(LNotePress$Share;I)V"⟩, 3) := ⟨⟨by decide +kernel, by decide +kernel⟩, List.mem_of_getElem? (i := 63) (by decide +kernel), List.mem_of_getElem? (i := 366) (by decide +kernel), List.mem_of_getElem? (i := 367) (by decide +kernel)⟩
theorem lw_p10 : lw_okq (⟨"NotePress$Changes", "forgetOldest", "()V"⟩, 3) := ⟨⟨by decide +kernel, by decide +kernel⟩, List.mem_of_getElem? (i := 63) (by decide +kernel), List.mem_of_getElem? (i := 370) (by decide +kernel), List.mem_of_getElem? (i := 371) (by decide +kernel)⟩
theorem lw_p11 : lw_okq (⟨"NotePress", "unspoiledOfSheet", "(ILNotePress$Share;I)I"⟩, 5) := ⟨⟨by decide +kernel, by decide +kernel⟩, List.mem_of_getElem? (i := 16) (by decide +kernel), List.mem_of_getElem? (i := 429) (by decide +kernel), List.mem_of_getElem? (i := 430) (by decide +kernel)⟩
theorem lw_p12 : lw_okq (⟨"NotePress", "judgeStar", "(II)I"⟩, 5) := ⟨⟨by decide +kernel, by decide +kernel⟩, List.mem_of_getElem? (i := 16) (by decide +kernel), List.mem_of_getElem? (i := 577) (by decide +kernel), List.mem_of_getElem? (i := 578) (by decide +kernel)⟩
theorem lw_p13 : lw_okq (⟨"NotePress", "judgeNote", "(III)I"⟩, 5) := ⟨⟨by decide +kernel, by decide +kernel⟩, List.mem_of_getElem? (i := 16) (by decide +kernel), List.mem_of_getElem? (i := 581) (by decide +kernel), List.mem_of_getElem? (i := 582) (by decide +kernel)⟩
theorem lw_p14 : lw_okq (⟨"NotePressModel", "adds", "(IIII)V"⟩, 8) := ⟨⟨by decide +kernel, by decide +kernel⟩, List.mem_of_getElem? (i := 613) (by decide +kernel), List.mem_of_getElem? (i := 619) (by decide +kernel), List.mem_of_getElem? (i := 620) (by decide +kernel)⟩
theorem lw_p15 : lw_okq (⟨"NotePressModel", "item", "(I)Z"⟩, 8) := ⟨⟨by decide +kernel, by decide +kernel⟩, List.mem_of_getElem? (i := 613) (by decide +kernel), List.mem_of_getElem? (i := 665) (by decide +kernel), List.mem_of_getElem? (i := 666) (by decide +kernel)⟩
def lw_privs_1 : List (MethodName × Nat) := [(⟨"NotePress", "layText", "()Z"⟩, 5), (⟨"NotePress$Text", "readItem", "(LNotePress$Plan;)Z"⟩, 3), (⟨"NotePress$Text", "skip", "(I)Z"⟩, 3), (⟨"NotePress$Text", "readPress", "(LNotePress$Plan;)Z"⟩, 3), (⟨"NotePress$Text", "readNumber", "()I"⟩, 3), (⟨"NotePress$Text", "readFigure", "()I"⟩, 3), (⟨"NotePress$Text", "readSeries", "(LNotePress$Plan;)Z"⟩, 3), (⟨"NotePress$Text", "readLetter", "()I"⟩, 3), (⟨"NotePress$Text", "readStars", "(LNotePress$Plan;)Z"⟩, 3), (⟨"NotePress$Changes", "remember", "(LNotePress$Share;I)V"⟩, 3), (⟨"NotePress$Changes", "forgetOldest", "()V"⟩, 3), (⟨"NotePress", "unspoiledOfSheet", "(ILNotePress$Share;I)I"⟩, 5), (⟨"NotePress", "judgeStar", "(II)I"⟩, 5), (⟨"NotePress", "judgeNote", "(III)I"⟩, 5), (⟨"NotePressModel", "adds", "(IIII)V"⟩, 8), (⟨"NotePressModel", "item", "(I)Z"⟩, 8)]
theorem lw_r1 : ∀ q ∈ lw_privs_1, lw_okq q := List.forall_mem_cons.mpr ⟨lw_p0, List.forall_mem_cons.mpr ⟨lw_p1, List.forall_mem_cons.mpr ⟨lw_p2, List.forall_mem_cons.mpr ⟨lw_p3, List.forall_mem_cons.mpr ⟨lw_p4, List.forall_mem_cons.mpr ⟨lw_p5, List.forall_mem_cons.mpr ⟨lw_p6, List.forall_mem_cons.mpr ⟨lw_p7, List.forall_mem_cons.mpr ⟨lw_p8, List.forall_mem_cons.mpr ⟨lw_p9, List.forall_mem_cons.mpr ⟨lw_p10, List.forall_mem_cons.mpr ⟨lw_p11, List.forall_mem_cons.mpr ⟨lw_p12, List.forall_mem_cons.mpr ⟨lw_p13, List.forall_mem_cons.mpr ⟨lw_p14, List.forall_mem_cons.mpr ⟨lw_p15, fun _ h => absurd h List.not_mem_nil⟩⟩⟩⟩⟩⟩⟩⟩⟩⟩⟩⟩⟩⟩⟩⟩
theorem lw_p16 : lw_okq (⟨"NotePressModel", "number2", "(III)Z"⟩, 8) := ⟨⟨by decide +kernel, by decide +kernel⟩, List.mem_of_getElem? (i := 613) (by decide +kernel), List.mem_of_getElem? (i := 669) (by decide +kernel), List.mem_of_getElem? (i := 670) (by decide +kernel)⟩
theorem lw_p17 : lw_okq (⟨"NotePressModel", "byteAt", "(I)I"⟩, 8) := ⟨⟨by decide +kernel, by decide +kernel⟩, List.mem_of_getElem? (i := 613) (by decide +kernel), List.mem_of_getElem? (i := 673) (by decide +kernel), List.mem_of_getElem? (i := 674) (by decide +kernel)⟩
theorem lw_p18 : lw_okq (⟨"NotePressModel", "seriesItem", "()Z"⟩, 8) := ⟨⟨by decide +kernel, by decide +kernel⟩, List.mem_of_getElem? (i := 613) (by decide +kernel), List.mem_of_getElem? (i := 679) (by decide +kernel), List.mem_of_getElem? (i := 680) (by decide +kernel)⟩
theorem lw_p19 : lw_okq (⟨"NotePressModel", "gone", "(I)Z"⟩, 8) := ⟨⟨by decide +kernel, by decide +kernel⟩, List.mem_of_getElem? (i := 613) (by decide +kernel), List.mem_of_getElem? (i := 685) (by decide +kernel), List.mem_of_getElem? (i := 686) (by decide +kernel)⟩
theorem lw_p20 : lw_okq (⟨"NotePressModel", "isSeries", "(I)Z"⟩, 8) := ⟨⟨by decide +kernel, by decide +kernel⟩, List.mem_of_getElem? (i := 613) (by decide +kernel), List.mem_of_getElem? (i := 702) (by decide +kernel), List.mem_of_getElem? (i := 703) (by decide +kernel)⟩
theorem lw_p21 : lw_okq (⟨"NotePressModel", "checkIn", "(II)I"⟩, 8) := ⟨⟨by decide +kernel, by decide +kernel⟩, List.mem_of_getElem? (i := 613) (by decide +kernel), List.mem_of_getElem? (i := 706) (by decide +kernel), List.mem_of_getElem? (i := 707) (by decide +kernel)⟩
theorem lw_p22 : lw_okq (⟨"NotePressModel", "isPress", "(I)Z"⟩, 8) := ⟨⟨by decide +kernel, by decide +kernel⟩, List.mem_of_getElem? (i := 613) (by decide +kernel), List.mem_of_getElem? (i := 731) (by decide +kernel), List.mem_of_getElem? (i := 732) (by decide +kernel)⟩
theorem lw_p23 : lw_okq (⟨"NotePressModel", "sheets", "(II)I"⟩, 8) := ⟨⟨by decide +kernel, by decide +kernel⟩, List.mem_of_getElem? (i := 613) (by decide +kernel), List.mem_of_getElem? (i := 736) (by decide +kernel), List.mem_of_getElem? (i := 737) (by decide +kernel)⟩
theorem lw_p24 : lw_okq (⟨"NotePressModel", "note1", "()V"⟩, 8) := ⟨⟨by decide +kernel, by decide +kernel⟩, List.mem_of_getElem? (i := 613) (by decide +kernel), List.mem_of_getElem? (i := 740) (by decide +kernel), List.mem_of_getElem? (i := 741) (by decide +kernel)⟩
theorem lw_p25 : lw_okq (⟨"NotePressModel", "isNumber", "(II)Z"⟩, 8) := ⟨⟨by decide +kernel, by decide +kernel⟩, List.mem_of_getElem? (i := 613) (by decide +kernel), List.mem_of_getElem? (i := 748) (by decide +kernel), List.mem_of_getElem? (i := 749) (by decide +kernel)⟩
theorem lw_p26 : lw_okq (⟨"NotePressModel", "isPrinted", "(II)Z"⟩, 8) := ⟨⟨by decide +kernel, by decide +kernel⟩, List.mem_of_getElem? (i := 613) (by decide +kernel), List.mem_of_getElem? (i := 752) (by decide +kernel), List.mem_of_getElem? (i := 753) (by decide +kernel)⟩
theorem lw_p27 : lw_okq (⟨"NotePressModel", "sheetOf", "(II)I"⟩, 8) := ⟨⟨by decide +kernel, by decide +kernel⟩, List.mem_of_getElem? (i := 613) (by decide +kernel), List.mem_of_getElem? (i := 756) (by decide +kernel), List.mem_of_getElem? (i := 757) (by decide +kernel)⟩
theorem lw_p28 : lw_okq (⟨"NotePressModel", "pressOf", "(II)I"⟩, 8) := ⟨⟨by decide +kernel, by decide +kernel⟩, List.mem_of_getElem? (i := 613) (by decide +kernel), List.mem_of_getElem? (i := 760) (by decide +kernel), List.mem_of_getElem? (i := 761) (by decide +kernel)⟩
theorem lw_p29 : lw_okq (⟨"NotePressModel", "first", "(II)I"⟩, 8) := ⟨⟨by decide +kernel, by decide +kernel⟩, List.mem_of_getElem? (i := 613) (by decide +kernel), List.mem_of_getElem? (i := 764) (by decide +kernel), List.mem_of_getElem? (i := 765) (by decide +kernel)⟩
theorem lw_p30 : lw_okq (⟨"NotePressModel", "starAt", "(II)I"⟩, 8) := ⟨⟨by decide +kernel, by decide +kernel⟩, List.mem_of_getElem? (i := 613) (by decide +kernel), List.mem_of_getElem? (i := 768) (by decide +kernel), List.mem_of_getElem? (i := 769) (by decide +kernel)⟩
theorem lw_p31 : lw_okq (⟨"NotePressModel", "stands", "(II)I"⟩, 8) := ⟨⟨by decide +kernel, by decide +kernel⟩, List.mem_of_getElem? (i := 613) (by decide +kernel), List.mem_of_getElem? (i := 772) (by decide +kernel), List.mem_of_getElem? (i := 773) (by decide +kernel)⟩
def lw_privs_2 : List (MethodName × Nat) := [(⟨"NotePressModel", "number2", "(III)Z"⟩, 8), (⟨"NotePressModel", "byteAt", "(I)I"⟩, 8), (⟨"NotePressModel", "seriesItem", "()Z"⟩, 8), (⟨"NotePressModel", "gone", "(I)Z"⟩, 8), (⟨"NotePressModel", "isSeries", "(I)Z"⟩, 8), (⟨"NotePressModel", "checkIn", "(II)I"⟩, 8), (⟨"NotePressModel", "isPress", "(I)Z"⟩, 8), (⟨"NotePressModel", "sheets", "(II)I"⟩, 8), (⟨"NotePressModel", "note1", "()V"⟩, 8), (⟨"NotePressModel", "isNumber", "(II)Z"⟩, 8), (⟨"NotePressModel", "isPrinted", "(II)Z"⟩, 8), (⟨"NotePressModel", "sheetOf", "(II)I"⟩, 8), (⟨"NotePressModel", "pressOf", "(II)I"⟩, 8), (⟨"NotePressModel", "first", "(II)I"⟩, 8), (⟨"NotePressModel", "starAt", "(II)I"⟩, 8), (⟨"NotePressModel", "stands", "(II)I"⟩, 8)]
theorem lw_r2 : ∀ q ∈ lw_privs_2, lw_okq q := List.forall_mem_cons.mpr ⟨lw_p16, List.forall_mem_cons.mpr ⟨lw_p17, List.forall_mem_cons.mpr ⟨lw_p18, List.forall_mem_cons.mpr ⟨lw_p19, List.forall_mem_cons.mpr ⟨lw_p20, List.forall_mem_cons.mpr ⟨lw_p21, List.forall_mem_cons.mpr ⟨lw_p22, List.forall_mem_cons.mpr ⟨lw_p23, List.forall_mem_cons.mpr ⟨lw_p24, List.forall_mem_cons.mpr ⟨lw_p25, List.forall_mem_cons.mpr ⟨lw_p26, List.forall_mem_cons.mpr ⟨lw_p27, List.forall_mem_cons.mpr ⟨lw_p28, List.forall_mem_cons.mpr ⟨lw_p29, List.forall_mem_cons.mpr ⟨lw_p30, List.forall_mem_cons.mpr ⟨lw_p31, fun _ h => absurd h List.not_mem_nil⟩⟩⟩⟩⟩⟩⟩⟩⟩⟩⟩⟩⟩⟩⟩⟩
theorem lw_p32 : lw_okq (⟨"NotePressModel", "numberAt", "(IIII)I"⟩, 8) := ⟨⟨by decide +kernel, by decide +kernel⟩, List.mem_of_getElem? (i := 613) (by decide +kernel), List.mem_of_getElem? (i := 780) (by decide +kernel), List.mem_of_getElem? (i := 781) (by decide +kernel)⟩
theorem lw_p33 : lw_okq (⟨"NotePressModel", "printed", "(I)I"⟩, 8) := ⟨⟨by decide +kernel, by decide +kernel⟩, List.mem_of_getElem? (i := 613) (by decide +kernel), List.mem_of_getElem? (i := 789) (by decide +kernel), List.mem_of_getElem? (i := 790) (by decide +kernel)⟩
theorem lw_p34 : lw_okq (⟨"NotePressModel", "spoiled", "(I)I"⟩, 8) := ⟨⟨by decide +kernel, by decide +kernel⟩, List.mem_of_getElem? (i := 613) (by decide +kernel), List.mem_of_getElem? (i := 793) (by decide +kernel), List.mem_of_getElem? (i := 794) (by decide +kernel)⟩
theorem lw_p35 : lw_okq (⟨"NotePressModel", "leftOf", "(I)I"⟩, 8) := ⟨⟨by decide +kernel, by decide +kernel⟩, List.mem_of_getElem? (i := 613) (by decide +kernel), List.mem_of_getElem? (i := 797) (by decide +kernel), List.mem_of_getElem? (i := 798) (by decide +kernel)⟩
theorem lw_p36 : lw_okq (⟨"NotePressModel", "packs", "(I)I"⟩, 8) := ⟨⟨by decide +kernel, by decide +kernel⟩, List.mem_of_getElem? (i := 613) (by decide +kernel), List.mem_of_getElem? (i := 801) (by decide +kernel), List.mem_of_getElem? (i := 802) (by decide +kernel)⟩
theorem lw_p37 : lw_okq (⟨"NotePressModel", "wholes", "(I)I"⟩, 8) := ⟨⟨by decide +kernel, by decide +kernel⟩, List.mem_of_getElem? (i := 613) (by decide +kernel), List.mem_of_getElem? (i := 805) (by decide +kernel), List.mem_of_getElem? (i := 806) (by decide +kernel)⟩
theorem lw_p38 : lw_okq (⟨"NotePressModel", "isWhole", "(II)Z"⟩, 8) := ⟨⟨by decide +kernel, by decide +kernel⟩, List.mem_of_getElem? (i := 613) (by decide +kernel), List.mem_of_getElem? (i := 809) (by decide +kernel), List.mem_of_getElem? (i := 810) (by decide +kernel)⟩
theorem lw_p39 : lw_okq (⟨"NotePressModel", "judgeStar", "(II)I"⟩, 8) := ⟨⟨by decide +kernel, by decide +kernel⟩, List.mem_of_getElem? (i := 613) (by decide +kernel), List.mem_of_getElem? (i := 845) (by decide +kernel), List.mem_of_getElem? (i := 846) (by decide +kernel)⟩
def lw_privs_3 : List (MethodName × Nat) := [(⟨"NotePressModel", "numberAt", "(IIII)I"⟩, 8), (⟨"NotePressModel", "printed", "(I)I"⟩, 8), (⟨"NotePressModel", "spoiled", "(I)I"⟩, 8), (⟨"NotePressModel", "leftOf", "(I)I"⟩, 8), (⟨"NotePressModel", "packs", "(I)I"⟩, 8), (⟨"NotePressModel", "wholes", "(I)I"⟩, 8), (⟨"NotePressModel", "isWhole", "(II)Z"⟩, 8), (⟨"NotePressModel", "judgeStar", "(II)I"⟩, 8)]
theorem lw_r3 : ∀ q ∈ lw_privs_3, lw_okq q := List.forall_mem_cons.mpr ⟨lw_p32, List.forall_mem_cons.mpr ⟨lw_p33, List.forall_mem_cons.mpr ⟨lw_p34, List.forall_mem_cons.mpr ⟨lw_p35, List.forall_mem_cons.mpr ⟨lw_p36, List.forall_mem_cons.mpr ⟨lw_p37, List.forall_mem_cons.mpr ⟨lw_p38, List.forall_mem_cons.mpr ⟨lw_p39, fun _ h => absurd h List.not_mem_nil⟩⟩⟩⟩⟩⟩⟩⟩
def lw_privs : List (MethodName × Nat) := lw_privs_1 ++ (lw_privs_2 ++ (lw_privs_3))
def lw_tbl : List Cond := k2_sels lw_privs ++ tables_1
theorem lw_privs_ok : ∀ q ∈ lw_privs, lw_okq q := by
  show ∀ q ∈ lw_privs_1 ++ (lw_privs_2 ++ (lw_privs_3)), lw_okq q
  exact List.forall_mem_append.mpr ⟨lw_r1, List.forall_mem_append.mpr ⟨lw_r2, lw_r3⟩⟩
def RX0 : String := "NotePress$Changes"
def TX0 : u_T := fun k => match k with
  | 0 => ("NotePress$Changes", "shares", "[LNotePress$Share;", true)
  | 1 => ("NotePress$Changes", "amounts", "[I", true)
  | _ => ("NotePress$Changes", "kept", "I", false)
def tyX0 : Nat → FieldType := fun k => match k with
  | 0 => .array (.object "NotePress$Share")
  | 1 => .array .int
  | _ => .int
abbrev wsX00 : List Cond := u_ws RX0 TX0 3
theorem nmX0 : ∀ a, a < 3 → ∀ b, b < 3 → a ≠ b → (TX0 a).2.1 ≠ (TX0 b).2.1 := by decide +kernel
theorem tyX0_ok : ∀ k, k < 3 → parseFieldDescriptor (TX0 k).2.2.1 = some (tyX0 k) := by decide +kernel
abbrev cX0_init : ByteArray := prog_2_method_1_code
def yX0_init : MethodName := ⟨RX0, "<init>", "()V"⟩
abbrev cX0_clear : ByteArray := prog_2_method_2_code
def yX0_clear : MethodName := ⟨RX0, "clear", "()V"⟩
abbrev cX0_rememberRun : ByteArray := prog_2_method_3_code
def yX0_rememberRun : MethodName := ⟨RX0, "rememberRun", "(LNotePress$Share;I)V"⟩
abbrev cX0_rememberSpoiled : ByteArray := prog_2_method_4_code
def yX0_rememberSpoiled : MethodName := ⟨RX0, "rememberSpoiled", "(I)V"⟩
abbrev cX0_remember : ByteArray := prog_2_method_5_code
def yX0_remember : MethodName := ⟨RX0, "remember", "(LNotePress$Share;I)V"⟩
abbrev cX0_forgetOldest : ByteArray := prog_2_method_6_code
def yX0_forgetOldest : MethodName := ⟨RX0, "forgetOldest", "()V"⟩
abbrev cX0_latestShare : ByteArray := prog_2_method_7_code
def yX0_latestShare : MethodName := ⟨RX0, "latestShare", "()LNotePress$Share;"⟩
abbrev cX0_latestAmount : ByteArray := prog_2_method_8_code
def yX0_latestAmount : MethodName := ⟨RX0, "latestAmount", "()I"⟩
abbrev cX0_forgetLatest : ByteArray := prog_2_method_9_code
def yX0_forgetLatest : MethodName := ⟨RX0, "forgetLatest", "()V"⟩
def RX1 : String := "NotePress$Checks"
def TX1 : u_T := fun k => match k with
  | _ => ("", "", "", false)
def tyX1 : Nat → FieldType := fun k => match k with
  | _ => .int
abbrev wsX10 : List Cond := u_ws RX1 TX1 0
theorem nmX1 : ∀ a, a < 0 → ∀ b, b < 0 → a ≠ b → (TX1 a).2.1 ≠ (TX1 b).2.1 := by decide +kernel
theorem tyX1_ok : ∀ k, k < 0 → parseFieldDescriptor (TX1 k).2.2.1 = some (tyX1 k) := by decide +kernel
abbrev cX1_ofNumber : ByteArray := prog_3_method_2_code
def yX1_ofNumber : MethodName := ⟨RX1, "ofNumber", "(III)I"⟩
abbrev cX1_ofStar : ByteArray := prog_3_method_3_code
def yX1_ofStar : MethodName := ⟨RX1, "ofStar", "(I)I"⟩
abbrev cX1_missedFigures : ByteArray := prog_3_method_4_code
def yX1_missedFigures : MethodName := ⟨RX1, "missedFigures", "(III)I"⟩
abbrev cX1_missedSwaps : ByteArray := prog_3_method_5_code
def yX1_missedSwaps : MethodName := ⟨RX1, "missedSwaps", "(III)I"⟩
abbrev cX1_ofFigures : ByteArray := prog_3_method_6_code
def yX1_ofFigures : MethodName := ⟨RX1, "ofFigures", "(IIIII)I"⟩
abbrev cX1_byTurns : ByteArray := prog_3_method_7_code
def yX1_byTurns : MethodName := ⟨RX1, "byTurns", "(IIII)I"⟩
abbrev cX1_make : ByteArray := prog_3_method_8_code
def yX1_make : MethodName := ⟨RX1, "make", "(II)I"⟩
abbrev cX1_turned : ByteArray := prog_3_method_9_code
def yX1_turned : MethodName := ⟨RX1, "turned", "(II)I"⟩
def RX2 : String := "NotePress$Plan"
def TX2 : u_T := fun k => match k with
  | 0 => ("NotePress$Plan", "places", "[I", true)
  | 1 => ("NotePress$Plan", "rows", "[LNotePress$Series;", true)
  | 2 => ("NotePress$Plan", "pressesTold", "I", false)
  | 3 => ("NotePress$Plan", "seriesTold", "I", false)
  | _ => ("NotePress$Plan", "starsTold", "I", false)
def tyX2 : Nat → FieldType := fun k => match k with
  | 0 => .array .int
  | 1 => .array (.object "NotePress$Series")
  | 2 => .int
  | 3 => .int
  | _ => .int
abbrev wsX20 : List Cond := u_ws RX2 TX2 5
theorem nmX2 : ∀ a, a < 5 → ∀ b, b < 5 → a ≠ b → (TX2 a).2.1 ≠ (TX2 b).2.1 := by decide +kernel
theorem tyX2_ok : ∀ k, k < 5 → parseFieldDescriptor (TX2 k).2.2.1 = some (tyX2 k) := by decide +kernel
abbrev cX2_init : ByteArray := prog_4_method_1_code
def yX2_init : MethodName := ⟨RX2, "<init>", "()V"⟩
abbrev cX2_clear : ByteArray := prog_4_method_2_code
def yX2_clear : MethodName := ⟨RX2, "clear", "()V"⟩
abbrev cX2_addPress : ByteArray := prog_4_method_3_code
def yX2_addPress : MethodName := ⟨RX2, "addPress", "(I)Z"⟩
abbrev cX2_nextSeries : ByteArray := prog_4_method_4_code
def yX2_nextSeries : MethodName := ⟨RX2, "nextSeries", "()LNotePress$Series;"⟩
abbrev cX2_keepNextSeries : ByteArray := prog_4_method_5_code
def yX2_keepNextSeries : MethodName := ⟨RX2, "keepNextSeries", "()V"⟩
abbrev cX2_seriesAt : ByteArray := prog_4_method_6_code
def yX2_seriesAt : MethodName := ⟨RX2, "seriesAt", "(I)LNotePress$Series;"⟩
abbrev cX2_shareAt : ByteArray := prog_4_method_7_code
def yX2_shareAt : MethodName := ⟨RX2, "shareAt", "(II)LNotePress$Share;"⟩
abbrev cX2_seriesOfLetter : ByteArray := prog_4_method_8_code
def yX2_seriesOfLetter : MethodName := ⟨RX2, "seriesOfLetter", "(I)I"⟩
abbrev cX2_notesPrinted : ByteArray := prog_4_method_9_code
def yX2_notesPrinted : MethodName := ⟨RX2, "notesPrinted", "()I"⟩
abbrev cX2_sheetsRun : ByteArray := prog_4_method_10_code
def yX2_sheetsRun : MethodName := ⟨RX2, "sheetsRun", "()I"⟩
abbrev cX2_wholePacks : ByteArray := prog_4_method_11_code
def yX2_wholePacks : MethodName := ⟨RX2, "wholePacks", "()I"⟩
def RX3 : String := "NotePress$Series"
def TX3 : u_T := fun k => match k with
  | 0 => ("NotePress$Series", "shares", "[LNotePress$Share;", true)
  | 1 => ("NotePress$Series", "presses", "I", false)
  | 2 => ("NotePress$Series", "letter", "I", false)
  | 3 => ("NotePress$Series", "kind", "I", false)
  | _ => ("NotePress$Series", "notes", "I", false)
def tyX3 : Nat → FieldType := fun k => match k with
  | 0 => .array (.object "NotePress$Share")
  | 1 => .int
  | 2 => .int
  | 3 => .int
  | _ => .int
abbrev wsX30 : List Cond := u_ws RX3 TX3 5
theorem nmX3 : ∀ a, a < 5 → ∀ b, b < 5 → a ≠ b → (TX3 a).2.1 ≠ (TX3 b).2.1 := by decide +kernel
theorem tyX3_ok : ∀ k, k < 5 → parseFieldDescriptor (TX3 k).2.2.1 = some (tyX3 k) := by decide +kernel
abbrev cX3_init : ByteArray := prog_5_method_1_code
def yX3_init : MethodName := ⟨RX3, "<init>", "()V"⟩
abbrev cX3_begin : ByteArray := prog_5_method_2_code
def yX3_begin : MethodName := ⟨RX3, "begin", "(II)V"⟩
abbrev cX3_addShare : ByteArray := prog_5_method_3_code
def yX3_addShare : MethodName := ⟨RX3, "addShare", "(II)V"⟩
abbrev cX3_shareAt : ByteArray := prog_5_method_4_code
def yX3_shareAt : MethodName := ⟨RX3, "shareAt", "(I)LNotePress$Share;"⟩
abbrev cX3_hasNumber : ByteArray := prog_5_method_5_code
def yX3_hasNumber : MethodName := ⟨RX3, "hasNumber", "(I)Z"⟩
abbrev cX3_pressOf : ByteArray := prog_5_method_6_code
def yX3_pressOf : MethodName := ⟨RX3, "pressOf", "(I)I"⟩
abbrev cX3_isPrinted : ByteArray := prog_5_method_7_code
def yX3_isPrinted : MethodName := ⟨RX3, "isPrinted", "(I)Z"⟩
abbrev cX3_notesPrinted : ByteArray := prog_5_method_8_code
def yX3_notesPrinted : MethodName := ⟨RX3, "notesPrinted", "()I"⟩
abbrev cX3_sheetsRun : ByteArray := prog_5_method_9_code
def yX3_sheetsRun : MethodName := ⟨RX3, "sheetsRun", "()I"⟩
abbrev cX3_sheetsLeft : ByteArray := prog_5_method_10_code
def yX3_sheetsLeft : MethodName := ⟨RX3, "sheetsLeft", "()I"⟩
abbrev cX3_packs : ByteArray := prog_5_method_11_code
def yX3_packs : MethodName := ⟨RX3, "packs", "()I"⟩
abbrev cX3_isWhole : ByteArray := prog_5_method_12_code
def yX3_isWhole : MethodName := ⟨RX3, "isWhole", "(I)Z"⟩
abbrev cX3_wholePacks : ByteArray := prog_5_method_13_code
def yX3_wholePacks : MethodName := ⟨RX3, "wholePacks", "()I"⟩
def RX4 : String := "NotePress$Share"
def TX4 : u_T := fun k => match k with
  | 0 => ("NotePress$Share", "places", "I", false)
  | 1 => ("NotePress$Share", "sheets", "I", false)
  | 2 => ("NotePress$Share", "first", "I", false)
  | _ => ("NotePress$Share", "sheetsRun", "I", false)
def tyX4 : Nat → FieldType := fun k => match k with
  | 0 => .int
  | 1 => .int
  | 2 => .int
  | _ => .int
abbrev wsX40 : List Cond := u_ws RX4 TX4 4
theorem nmX4 : ∀ a, a < 4 → ∀ b, b < 4 → a ≠ b → (TX4 a).2.1 ≠ (TX4 b).2.1 := by decide +kernel
theorem tyX4_ok : ∀ k, k < 4 → parseFieldDescriptor (TX4 k).2.2.1 = some (tyX4 k) := by decide +kernel
abbrev cX4_init : ByteArray := prog_6_method_1_code
def yX4_init : MethodName := ⟨RX4, "<init>", "()V"⟩
abbrev cX4_begin : ByteArray := prog_6_method_2_code
def yX4_begin : MethodName := ⟨RX4, "begin", "(III)V"⟩
abbrev cX4_sheetsLeft : ByteArray := prog_6_method_3_code
def yX4_sheetsLeft : MethodName := ⟨RX4, "sheetsLeft", "()I"⟩
abbrev cX4_hasSheet : ByteArray := prog_6_method_4_code
def yX4_hasSheet : MethodName := ⟨RX4, "hasSheet", "(I)Z"⟩
abbrev cX4_hasNumber : ByteArray := prog_6_method_5_code
def yX4_hasNumber : MethodName := ⟨RX4, "hasNumber", "(I)Z"⟩
abbrev cX4_numberAt : ByteArray := prog_6_method_6_code
def yX4_numberAt : MethodName := ⟨RX4, "numberAt", "(II)I"⟩
abbrev cX4_sheetOf : ByteArray := prog_6_method_7_code
def yX4_sheetOf : MethodName := ⟨RX4, "sheetOf", "(I)I"⟩
abbrev cX4_placeOf : ByteArray := prog_6_method_8_code
def yX4_placeOf : MethodName := ⟨RX4, "placeOf", "(I)I"⟩
def RX5 : String := "NotePress$Stars"
def TX5 : u_T := fun k => match k with
  | 0 => ("NotePress$Stars", "series", "[I", true)
  | 1 => ("NotePress$Stars", "numbers", "[I", true)
  | 2 => ("NotePress$Stars", "told", "I", false)
  | _ => ("NotePress$Stars", "standing", "I", false)
def tyX5 : Nat → FieldType := fun k => match k with
  | 0 => .array .int
  | 1 => .array .int
  | 2 => .int
  | _ => .int
abbrev wsX50 : List Cond := u_ws RX5 TX5 4
theorem nmX5 : ∀ a, a < 4 → ∀ b, b < 4 → a ≠ b → (TX5 a).2.1 ≠ (TX5 b).2.1 := by decide +kernel
theorem tyX5_ok : ∀ k, k < 4 → parseFieldDescriptor (TX5 k).2.2.1 = some (tyX5 k) := by decide +kernel
abbrev cX5_init : ByteArray := prog_7_method_1_code
def yX5_init : MethodName := ⟨RX5, "<init>", "()V"⟩
abbrev cX5_begin : ByteArray := prog_7_method_2_code
def yX5_begin : MethodName := ⟨RX5, "begin", "(I)V"⟩
abbrev cX5_left : ByteArray := prog_7_method_3_code
def yX5_left : MethodName := ⟨RX5, "left", "()I"⟩
abbrev cX5_standFor : ByteArray := prog_7_method_4_code
def yX5_standFor : MethodName := ⟨RX5, "standFor", "(II)V"⟩
abbrev cX5_takeBack : ByteArray := prog_7_method_5_code
def yX5_takeBack : MethodName := ⟨RX5, "takeBack", "(I)V"⟩
abbrev cX5_seriesOf : ByteArray := prog_7_method_6_code
def yX5_seriesOf : MethodName := ⟨RX5, "seriesOf", "(I)I"⟩
abbrev cX5_numberOf : ByteArray := prog_7_method_7_code
def yX5_numberOf : MethodName := ⟨RX5, "numberOf", "(I)I"⟩
abbrev cX5_standingFor : ByteArray := prog_7_method_8_code
def yX5_standingFor : MethodName := ⟨RX5, "standingFor", "(II)I"⟩
abbrev cX5_standsFor : ByteArray := prog_7_method_9_code
def yX5_standsFor : MethodName := ⟨RX5, "standsFor", "(II)Z"⟩
abbrev cX5_standingForSeries : ByteArray := prog_7_method_10_code
def yX5_standingForSeries : MethodName := ⟨RX5, "standingForSeries", "(I)I"⟩
def RX6 : String := "NotePress$Text"
def TX6 : u_T := fun k => match k with
  | 0 => ("NotePress$Text", "letters", "[I", true)
  | 1 => ("NotePress$Text", "length", "I", false)
  | _ => ("NotePress$Text", "at", "I", false)
def tyX6 : Nat → FieldType := fun k => match k with
  | 0 => .array .int
  | 1 => .int
  | _ => .int
abbrev wsX60 : List Cond := u_ws RX6 TX6 3
theorem nmX6 : ∀ a, a < 3 → ∀ b, b < 3 → a ≠ b → (TX6 a).2.1 ≠ (TX6 b).2.1 := by decide +kernel
theorem tyX6_ok : ∀ k, k < 3 → parseFieldDescriptor (TX6 k).2.2.1 = some (tyX6 k) := by decide +kernel
abbrev cX6_init : ByteArray := prog_8_method_1_code
def yX6_init : MethodName := ⟨RX6, "<init>", "()V"⟩
abbrev cX6_append : ByteArray := prog_8_method_2_code
def yX6_append : MethodName := ⟨RX6, "append", "(I)Z"⟩
abbrev cX6_clear : ByteArray := prog_8_method_3_code
def yX6_clear : MethodName := ⟨RX6, "clear", "()V"⟩
abbrev cX6_readInto : ByteArray := prog_8_method_4_code
def yX6_readInto : MethodName := ⟨RX6, "readInto", "(LNotePress$Plan;)I"⟩
abbrev cX6_readItem : ByteArray := prog_8_method_5_code
def yX6_readItem : MethodName := ⟨RX6, "readItem", "(LNotePress$Plan;)Z"⟩
abbrev cX6_readPress : ByteArray := prog_8_method_6_code
def yX6_readPress : MethodName := ⟨RX6, "readPress", "(LNotePress$Plan;)Z"⟩
abbrev cX6_readStars : ByteArray := prog_8_method_7_code
def yX6_readStars : MethodName := ⟨RX6, "readStars", "(LNotePress$Plan;)Z"⟩
abbrev cX6_readSeries : ByteArray := prog_8_method_8_code
def yX6_readSeries : MethodName := ⟨RX6, "readSeries", "(LNotePress$Plan;)Z"⟩
abbrev cX6_skip : ByteArray := prog_8_method_9_code
def yX6_skip : MethodName := ⟨RX6, "skip", "(I)Z"⟩
abbrev cX6_readLetter : ByteArray := prog_8_method_10_code
def yX6_readLetter : MethodName := ⟨RX6, "readLetter", "()I"⟩
abbrev cX6_readNumber : ByteArray := prog_8_method_11_code
def yX6_readNumber : MethodName := ⟨RX6, "readNumber", "()I"⟩
abbrev cX6_readFigure : ByteArray := prog_8_method_12_code
def yX6_readFigure : MethodName := ⟨RX6, "readFigure", "()I"⟩
def RX7 : String := "NotePress"
def TX7 : u_T := fun k => match k with
  | 0 => ("NotePress", "text", "LNotePress$Text;", true)
  | 1 => ("NotePress", "stars", "LNotePress$Stars;", true)
  | 2 => ("NotePress", "changes", "LNotePress$Changes;", true)
  | 3 => ("NotePress", "laid", "LNotePress$Plan;", false)
  | _ => ("NotePress", "draft", "LNotePress$Plan;", false)
def tyX7 : Nat → FieldType := fun k => match k with
  | 0 => .object "NotePress$Text"
  | 1 => .object "NotePress$Stars"
  | 2 => .object "NotePress$Changes"
  | 3 => .object "NotePress$Plan"
  | _ => .object "NotePress$Plan"
abbrev wsX70 : List Cond := u_ws RX7 TX7 5
theorem nmX7 : ∀ a, a < 5 → ∀ b, b < 5 → a ≠ b → (TX7 a).2.1 ≠ (TX7 b).2.1 := by decide +kernel
theorem tyX7_ok : ∀ k, k < 5 → parseFieldDescriptor (TX7 k).2.2.1 = some (tyX7 k) := by decide +kernel
abbrev cX7_init : ByteArray := prog_1_method_1_code
def yX7_init : MethodName := ⟨RX7, "<init>", "()V"⟩
abbrev cX7_write : ByteArray := prog_1_method_2_code
def yX7_write : MethodName := ⟨RX7, "write", "(I)I"⟩
abbrev cX7_wipe : ByteArray := prog_1_method_3_code
def yX7_wipe : MethodName := ⟨RX7, "wipe", "()I"⟩
abbrev cX7_fault : ByteArray := prog_1_method_4_code
def yX7_fault : MethodName := ⟨RX7, "fault", "()I"⟩
abbrev cX7_lay : ByteArray := prog_1_method_5_code
def yX7_lay : MethodName := ⟨RX7, "lay", "()I"⟩
abbrev cX7_run : ByteArray := prog_1_method_6_code
def yX7_run : MethodName := ⟨RX7, "run", "(III)I"⟩
abbrev cX7_spoil : ByteArray := prog_1_method_7_code
def yX7_spoil : MethodName := ⟨RX7, "spoil", "(II)I"⟩
abbrev cX7_spoilSheet : ByteArray := prog_1_method_8_code
def yX7_spoilSheet : MethodName := ⟨RX7, "spoilSheet", "(III)I"⟩
abbrev cX7_undo : ByteArray := prog_1_method_9_code
def yX7_undo : MethodName := ⟨RX7, "undo", "()I"⟩
abbrev cX7_series : ByteArray := prog_1_method_10_code
def yX7_series : MethodName := ⟨RX7, "series", "(II)I"⟩
abbrev cX7_share : ByteArray := prog_1_method_11_code
def yX7_share : MethodName := ⟨RX7, "share", "(III)I"⟩
abbrev cX7_where : ByteArray := prog_1_method_12_code
def yX7_where : MethodName := ⟨RX7, "where", "(III)I"⟩
abbrev cX7_number : ByteArray := prog_1_method_13_code
def yX7_number : MethodName := ⟨RX7, "number", "(IIII)I"⟩
abbrev cX7_check : ByteArray := prog_1_method_14_code
def yX7_check : MethodName := ⟨RX7, "check", "(II)I"⟩
abbrev cX7_missed : ByteArray := prog_1_method_15_code
def yX7_missed : MethodName := ⟨RX7, "missed", "(III)I"⟩
abbrev cX7_note : ByteArray := prog_1_method_16_code
def yX7_note : MethodName := ⟨RX7, "note", "(II)I"⟩
abbrev cX7_star : ByteArray := prog_1_method_17_code
def yX7_star : MethodName := ⟨RX7, "star", "(II)I"⟩
abbrev cX7_starOf : ByteArray := prog_1_method_18_code
def yX7_starOf : MethodName := ⟨RX7, "starOf", "(II)I"⟩
abbrev cX7_judge : ByteArray := prog_1_method_19_code
def yX7_judge : MethodName := ⟨RX7, "judge", "(III)I"⟩
abbrev cX7_pack : ByteArray := prog_1_method_20_code
def yX7_pack : MethodName := ⟨RX7, "pack", "(III)I"⟩
abbrev cX7_count : ByteArray := prog_1_method_21_code
def yX7_count : MethodName := ⟨RX7, "count", "(I)I"⟩
abbrev cX7_isFromTo : ByteArray := prog_1_method_22_code
def yX7_isFromTo : MethodName := ⟨RX7, "isFromTo", "(III)Z"⟩
abbrev cX7_layText : ByteArray := prog_1_method_23_code
def yX7_layText : MethodName := ⟨RX7, "layText", "()Z"⟩
abbrev cX7_unspoiledOfSheet : ByteArray := prog_1_method_24_code
def yX7_unspoiledOfSheet : MethodName := ⟨RX7, "unspoiledOfSheet", "(ILNotePress$Share;I)I"⟩
abbrev cX7_judgeStar : ByteArray := prog_1_method_25_code
def yX7_judgeStar : MethodName := ⟨RX7, "judgeStar", "(II)I"⟩
abbrev cX7_judgeNote : ByteArray := prog_1_method_26_code
def yX7_judgeNote : MethodName := ⟨RX7, "judgeNote", "(III)I"⟩
def RX8 : String := "NotePressModel"
def TX8 : u_T := fun k => match k with
  | 0 => ("NotePressModel", "length", "I", false)
  | 1 => ("NotePressModel", "text", "[I", true)
  | 2 => ("NotePressModel", "spot", "I", false)
  | 3 => ("NotePressModel", "told", "[I", true)
  | 4 => ("NotePressModel", "read", "[I", true)
  | 5 => ("NotePressModel", "s", "[I", true)
  | 6 => ("NotePressModel", "before", "[I", true)
  | _ => ("NotePressModel", "undoMany", "I", false)
def tyX8 : Nat → FieldType := fun k => match k with
  | 0 => .int
  | 1 => .array .int
  | 2 => .int
  | 3 => .array .int
  | 4 => .array .int
  | 5 => .array .int
  | 6 => .array .int
  | _ => .int
abbrev wsX80 : List Cond := u_ws RX8 TX8 8
theorem nmX8 : ∀ a, a < 8 → ∀ b, b < 8 → a ≠ b → (TX8 a).2.1 ≠ (TX8 b).2.1 := by decide +kernel
theorem tyX8_ok : ∀ k, k < 8 → parseFieldDescriptor (TX8 k).2.2.1 = some (tyX8 k) := by decide +kernel
abbrev cX8_init : ByteArray := prog_10_method_1_code
def yX8_init : MethodName := ⟨RX8, "<init>", "()V"⟩
abbrev cX8_adds : ByteArray := prog_10_method_2_code
def yX8_adds : MethodName := ⟨RX8, "adds", "(IIII)V"⟩
abbrev cX8_in : ByteArray := prog_10_method_3_code
def yX8_in : MethodName := ⟨RX8, "in", "(JJJ)Z"⟩
abbrev cX8_write : ByteArray := prog_10_method_4_code
def yX8_write : MethodName := ⟨RX8, "write", "(I)I"⟩
abbrev cX8_wipe : ByteArray := prog_10_method_5_code
def yX8_wipe : MethodName := ⟨RX8, "wipe", "()I"⟩
abbrev cX8_byteAt : ByteArray := prog_10_method_6_code
def yX8_byteAt : MethodName := ⟨RX8, "byteAt", "(I)I"⟩
abbrev cX8_gone : ByteArray := prog_10_method_7_code
def yX8_gone : MethodName := ⟨RX8, "gone", "(I)Z"⟩
abbrev cX8_number2 : ByteArray := prog_10_method_8_code
def yX8_number2 : MethodName := ⟨RX8, "number2", "(III)Z"⟩
abbrev cX8_whole : ByteArray := prog_10_method_9_code
def yX8_whole : MethodName := ⟨RX8, "whole", "([II)I"⟩
abbrev cX8_seriesItem : ByteArray := prog_10_method_10_code
def yX8_seriesItem : MethodName := ⟨RX8, "seriesItem", "()Z"⟩
abbrev cX8_item : ByteArray := prog_10_method_11_code
def yX8_item : MethodName := ⟨RX8, "item", "(I)Z"⟩
abbrev cX8_fault : ByteArray := prog_10_method_12_code
def yX8_fault : MethodName := ⟨RX8, "fault", "()I"⟩
abbrev cX8_lay : ByteArray := prog_10_method_13_code
def yX8_lay : MethodName := ⟨RX8, "lay", "()I"⟩
abbrev cX8_isSeries : ByteArray := prog_10_method_14_code
def yX8_isSeries : MethodName := ⟨RX8, "isSeries", "(I)Z"⟩
abbrev cX8_isPress : ByteArray := prog_10_method_15_code
def yX8_isPress : MethodName := ⟨RX8, "isPress", "(I)Z"⟩
abbrev cX8_sheets : ByteArray := prog_10_method_16_code
def yX8_sheets : MethodName := ⟨RX8, "sheets", "(II)I"⟩
abbrev cX8_isNumber : ByteArray := prog_10_method_17_code
def yX8_isNumber : MethodName := ⟨RX8, "isNumber", "(II)Z"⟩
abbrev cX8_first : ByteArray := prog_10_method_18_code
def yX8_first : MethodName := ⟨RX8, "first", "(II)I"⟩
abbrev cX8_pressOf : ByteArray := prog_10_method_19_code
def yX8_pressOf : MethodName := ⟨RX8, "pressOf", "(II)I"⟩
abbrev cX8_sheetOf : ByteArray := prog_10_method_20_code
def yX8_sheetOf : MethodName := ⟨RX8, "sheetOf", "(II)I"⟩
abbrev cX8_isPrinted : ByteArray := prog_10_method_21_code
def yX8_isPrinted : MethodName := ⟨RX8, "isPrinted", "(II)Z"⟩
abbrev cX8_starAt : ByteArray := prog_10_method_22_code
def yX8_starAt : MethodName := ⟨RX8, "starAt", "(II)I"⟩
abbrev cX8_turned : ByteArray := prog_10_method_23_code
def yX8_turned : MethodName := ⟨RX8, "turned", "(I)I"⟩
abbrev cX8_make : ByteArray := prog_10_method_24_code
def yX8_make : MethodName := ⟨RX8, "make", "(II)I"⟩
abbrev cX8_checkOf : ByteArray := prog_10_method_25_code
def yX8_checkOf : MethodName := ⟨RX8, "checkOf", "(III)I"⟩
abbrev cX8_checkIn : ByteArray := prog_10_method_26_code
def yX8_checkIn : MethodName := ⟨RX8, "checkIn", "(II)I"⟩
abbrev cX8_check : ByteArray := prog_10_method_27_code
def yX8_check : MethodName := ⟨RX8, "check", "(II)I"⟩
abbrev cX8_missed : ByteArray := prog_10_method_28_code
def yX8_missed : MethodName := ⟨RX8, "missed", "(III)I"⟩
abbrev cX8_note1 : ByteArray := prog_10_method_29_code
def yX8_note1 : MethodName := ⟨RX8, "note1", "()V"⟩
abbrev cX8_undo : ByteArray := prog_10_method_30_code
def yX8_undo : MethodName := ⟨RX8, "undo", "()I"⟩
abbrev cX8_run : ByteArray := prog_10_method_31_code
def yX8_run : MethodName := ⟨RX8, "run", "(III)I"⟩
abbrev cX8_stands : ByteArray := prog_10_method_32_code
def yX8_stands : MethodName := ⟨RX8, "stands", "(II)I"⟩
abbrev cX8_spoil : ByteArray := prog_10_method_33_code
def yX8_spoil : MethodName := ⟨RX8, "spoil", "(II)I"⟩
abbrev cX8_numberAt : ByteArray := prog_10_method_34_code
def yX8_numberAt : MethodName := ⟨RX8, "numberAt", "(IIII)I"⟩
abbrev cX8_spoilSheet : ByteArray := prog_10_method_35_code
def yX8_spoilSheet : MethodName := ⟨RX8, "spoilSheet", "(III)I"⟩
abbrev cX8_printed : ByteArray := prog_10_method_36_code
def yX8_printed : MethodName := ⟨RX8, "printed", "(I)I"⟩
abbrev cX8_spoiled : ByteArray := prog_10_method_37_code
def yX8_spoiled : MethodName := ⟨RX8, "spoiled", "(I)I"⟩
abbrev cX8_leftOf : ByteArray := prog_10_method_38_code
def yX8_leftOf : MethodName := ⟨RX8, "leftOf", "(I)I"⟩
abbrev cX8_packs : ByteArray := prog_10_method_39_code
def yX8_packs : MethodName := ⟨RX8, "packs", "(I)I"⟩
abbrev cX8_isWhole : ByteArray := prog_10_method_40_code
def yX8_isWhole : MethodName := ⟨RX8, "isWhole", "(II)Z"⟩
abbrev cX8_wholes : ByteArray := prog_10_method_41_code
def yX8_wholes : MethodName := ⟨RX8, "wholes", "(I)I"⟩
abbrev cX8_series : ByteArray := prog_10_method_42_code
def yX8_series : MethodName := ⟨RX8, "series", "(II)I"⟩
abbrev cX8_share : ByteArray := prog_10_method_43_code
def yX8_share : MethodName := ⟨RX8, "share", "(III)I"⟩
abbrev cX8_where : ByteArray := prog_10_method_44_code
def yX8_where : MethodName := ⟨RX8, "where", "(III)I"⟩
abbrev cX8_number : ByteArray := prog_10_method_45_code
def yX8_number : MethodName := ⟨RX8, "number", "(IIII)I"⟩
abbrev cX8_note : ByteArray := prog_10_method_46_code
def yX8_note : MethodName := ⟨RX8, "note", "(II)I"⟩
abbrev cX8_star : ByteArray := prog_10_method_47_code
def yX8_star : MethodName := ⟨RX8, "star", "(II)I"⟩
abbrev cX8_starOf : ByteArray := prog_10_method_48_code
def yX8_starOf : MethodName := ⟨RX8, "starOf", "(II)I"⟩
abbrev cX8_judgeStar : ByteArray := prog_10_method_49_code
def yX8_judgeStar : MethodName := ⟨RX8, "judgeStar", "(II)I"⟩
abbrev cX8_judge : ByteArray := prog_10_method_50_code
def yX8_judge : MethodName := ⟨RX8, "judge", "(III)I"⟩
abbrev cX8_pack : ByteArray := prog_10_method_51_code
def yX8_pack : MethodName := ⟨RX8, "pack", "(III)I"⟩
abbrev cX8_count : ByteArray := prog_10_method_52_code
def yX8_count : MethodName := ⟨RX8, "count", "(I)I"⟩
def RJ9 : String := "java/lang/Math"
def TJ9 : u_T := fun k => match k with
  | _ => ("", "", "", false)
def tyJ9 : Nat → FieldType := fun k => match k with
  | _ => .int
abbrev wsJ90 : List Cond := u_ws RJ9 TJ9 0
theorem nmJ9 : ∀ a, a < 0 → ∀ b, b < 0 → a ≠ b → (TJ9 a).2.1 ≠ (TJ9 b).2.1 := by decide +kernel
theorem tyJ9_ok : ∀ k, k < 0 → parseFieldDescriptor (TJ9 k).2.2.1 = some (tyJ9 k) := by decide +kernel
abbrev cJ9_floorMod_7cf53 : ByteArray := prog_11_method_50_code
def yJ9_floorMod_7cf53 : MethodName := ⟨RJ9, "floorMod", "(II)I"⟩
abbrev cJ9_max_7cf53 : ByteArray := prog_11_method_65_code
def yJ9_max_7cf53 : MethodName := ⟨RJ9, "max", "(II)I"⟩
abbrev cJ9_min_7cf53 : ByteArray := prog_11_method_69_code
def yJ9_min_7cf53 : MethodName := ⟨RJ9, "min", "(II)I"⟩
def RJ0 : String := "java/lang/String"
def TJ0 : u_T := fun k => match k with
  | _ => ("", "", "", false)
def tyJ0 : Nat → FieldType := fun k => match k with
  | _ => .int
abbrev wsJ00 : List Cond := u_ws RJ0 TJ0 0
theorem nmJ0 : ∀ a, a < 0 → ∀ b, b < 0 → a ≠ b → (TJ0 a).2.1 ≠ (TJ0 b).2.1 := by decide +kernel
theorem tyJ0_ok : ∀ k, k < 0 → parseFieldDescriptor (TJ0 k).2.2.1 = some (tyJ0 k) := by decide +kernel
abbrev cJ0_length_8abf5 : ByteArray := prog_12_method_54_code
def yJ0_length_8abf5 : MethodName := ⟨RJ0, "length", "()I"⟩
abbrev cJ0_charAt_5068e : ByteArray := prog_12_method_56_code
def yJ0_charAt_5068e : MethodName := ⟨RJ0, "charAt", "(I)C"⟩
abbrev cJ0_coder_7d493 : ByteArray := prog_12_method_152_code
def yJ0_coder_7d493 : MethodName := ⟨RJ0, "coder", "()B"⟩
abbrev cJ0_isLatin1_aae02 : ByteArray := prog_12_method_154_code
def yJ0_isLatin1_aae02 : MethodName := ⟨RJ0, "isLatin1", "()Z"⟩
abbrev cJ0_checkIndex_df160 : ByteArray := prog_12_method_155_code
def yJ0_checkIndex_df160 : MethodName := ⟨RJ0, "checkIndex", "(II)V"⟩
def RJ1 : String := "java/lang/StringLatin1"
def TJ1 : u_T := fun k => match k with
  | _ => ("", "", "", false)
def tyJ1 : Nat → FieldType := fun k => match k with
  | _ => .int
abbrev wsJ10 : List Cond := u_ws RJ1 TJ1 0
theorem nmJ1 : ∀ a, a < 0 → ∀ b, b < 0 → a ≠ b → (TJ1 a).2.1 ≠ (TJ1 b).2.1 := by decide +kernel
theorem tyJ1_ok : ∀ k, k < 0 → parseFieldDescriptor (TJ1 k).2.2.1 = some (tyJ1 k) := by decide +kernel
abbrev cJ1_charAt_3b067 : ByteArray := prog_13_method_2_code
def yJ1_charAt_3b067 : MethodName := ⟨RJ1, "charAt", "([BI)C"⟩
def RJ2 : String := "java/lang/StringUTF16"
def TJ2 : u_T := fun k => match k with
  | _ => ("", "", "", false)
def tyJ2 : Nat → FieldType := fun k => match k with
  | _ => .int
abbrev wsJ20 : List Cond := u_ws RJ2 TJ2 0
theorem nmJ2 : ∀ a, a < 0 → ∀ b, b < 0 → a ≠ b → (TJ2 a).2.1 ≠ (TJ2 b).2.1 := by decide +kernel
theorem tyJ2_ok : ∀ k, k < 0 → parseFieldDescriptor (TJ2 k).2.2.1 = some (tyJ2 k) := by decide +kernel
abbrev cJ2_getChar_3b067 : ByteArray := prog_14_method_5_code
def yJ2_getChar_3b067 : MethodName := ⟨RJ2, "getChar", "([BI)C"⟩
abbrev cJ2_length_9d52b : ByteArray := prog_14_method_6_code
def yJ2_length_9d52b : MethodName := ⟨RJ2, "length", "([B)I"⟩
abbrev cJ2_charAt_3b067 : ByteArray := prog_14_method_83_code
def yJ2_charAt_3b067 : MethodName := ⟨RJ2, "charAt", "([BI)C"⟩
abbrev cJ2_checkIndex_2214a : ByteArray := prog_14_method_91_code
def yJ2_checkIndex_2214a : MethodName := ⟨RJ2, "checkIndex", "(I[B)V"⟩
def RJ3 : String := "jdk/internal/util/Preconditions"
def TJ3 : u_T := fun k => match k with
  | _ => ("", "", "", false)
def tyJ3 : Nat → FieldType := fun k => match k with
  | _ => .int
abbrev wsJ30 : List Cond := u_ws RJ3 TJ3 0
theorem nmJ3 : ∀ a, a < 0 → ∀ b, b < 0 → a ≠ b → (TJ3 a).2.1 ≠ (TJ3 b).2.1 := by decide +kernel
theorem tyJ3_ok : ∀ k, k < 0 → parseFieldDescriptor (TJ3 k).2.2.1 = some (tyJ3 k) := by decide +kernel
abbrev cJ3_checkIndex_8e157 : ByteArray := prog_15_method_11_code
def yJ3_checkIndex_8e157 : MethodName := ⟨RJ3, "checkIndex", "(IILjava/util/function/BiFunction;)I"⟩
def RL : String := "NotePressLaw"
abbrev cL_law : ByteArray := code
def yL_law : MethodName := ⟨RL, "law", "([I)Z"⟩
abbrev vwCl : List vw_C := [(RX0, TX0, 3), (RX2, TX2, 5), (RX3, TX3, 5), (RX4, TX4, 4), (RX5, TX5, 4), (RX6, TX6, 3), (RX7, TX7, 5), (RX8, TX8, 8)]
end
section
/-- the tables' words that any method may hold -/
def tB : List Cond := lw_tbl.filter goodWord
theorem tB_of {w : Cond} (h : w ∈ lw_tbl) (g : goodWord w = true) : w ∈ tB := List.mem_filter.mpr ⟨h, g⟩
theorem tB_1 {w : Cond} (i : Nat) (h : tables_1_1[i]? = some w) (g : goodWord w = true) : w ∈ tB := tB_of (List.mem_append_right _ (List.mem_append_left _ (List.mem_of_getElem? h))) g
theorem tB_2 {w : Cond} (i : Nat) (h : tables_1_2[i]? = some w) (g : goodWord w = true) : w ∈ tB := tB_of (List.mem_append_right _ (List.mem_append_right _ (List.mem_append_left _ (List.mem_of_getElem? h)))) g
theorem tB_3 {w : Cond} (i : Nat) (h : tables_1_3[i]? = some w) (g : goodWord w = true) : w ∈ tB := tB_of (List.mem_append_right _ (List.mem_append_right _ (List.mem_append_right _ (List.mem_append_left _ (List.mem_of_getElem? h))))) g
theorem tB_4 {w : Cond} (i : Nat) (h : tables_1_4[i]? = some w) (g : goodWord w = true) : w ∈ tB := tB_of (List.mem_append_right _ (List.mem_append_right _ (List.mem_append_right _ (List.mem_append_right _ (List.mem_of_getElem? h))))) g
theorem tB_s {w : Cond} (i : Nat) (h : (k2_sels lw_privs)[i]? = some w) (g : goodWord w = true) : w ∈ tB := tB_of (List.mem_append_left _ (List.mem_of_getElem? h)) g
theorem tB_good : ∀ w ∈ tB, goodWord w = true := fun _ h => (List.mem_filter.mp h).2
theorem tB_in (y : MethodName) (b : ByteArray) (n : Nat) (r : Option FieldType) (h : Cond.code y b n r ∈ tB) (z : Cond) : GoodIn (z :: tB) (Cond.code y b n r :: tB) := fun w hw => by
  rcases List.mem_cons.mp hw with e | hw
  · rw [e]; exact ⟨List.mem_cons_of_mem _ h, good_of_word (tB_good _ h)⟩
  · exact ⟨List.mem_cons_of_mem _ hw, good_of_word (tB_good _ hw)⟩

theorem tw_0 : (Jvm.Cond.initialized "NotePressLaw") ∈ tB := tB_1 0 rfl rfl
theorem tw_1 : (Jvm.Cond.initialized "NotePress") ∈ tB := tB_1 1 rfl rfl
theorem tw_2 : (Jvm.Cond.initialized "NotePress$Text") ∈ tB := tB_1 2 rfl rfl
theorem tw_3 : (Jvm.Cond.initialized "NotePress$Stars") ∈ tB := tB_1 3 rfl rfl
theorem tw_4 : (Jvm.Cond.initialized "NotePress$Changes") ∈ tB := tB_1 4 rfl rfl
theorem tw_5 : (Jvm.Cond.initialized "NotePress$Plan") ∈ tB := tB_1 5 rfl rfl
theorem tw_6 : (Jvm.Cond.initialized "NotePress$Series") ∈ tB := tB_1 6 rfl rfl
theorem tw_7 : (Jvm.Cond.initialized "NotePress$Share") ∈ tB := tB_1 7 rfl rfl
theorem tw_8 : (Jvm.Cond.initialized "java/lang/String") ∈ tB := tB_1 8 rfl rfl
theorem tw_9 : (Jvm.Cond.initialized "java/lang/StringLatin1") ∈ tB := tB_1 9 rfl rfl
theorem tw_10 : (Jvm.Cond.initialized "jdk/internal/util/Preconditions") ∈ tB := tB_1 10 rfl rfl
theorem tw_11 : (Jvm.Cond.initialized "java/lang/StringUTF16") ∈ tB := tB_1 11 rfl rfl
theorem tw_12 : (Jvm.Cond.initialized "java/lang/Math") ∈ tB := tB_1 12 rfl rfl
theorem tw_13 : (Jvm.Cond.initialized "NotePressModel") ∈ tB := tB_1 13 rfl rfl
theorem tw_14 : (Jvm.Cond.initialized "NotePress$Checks") ∈ tB := tB_1 14 rfl rfl
theorem tw_15 : (Jvm.Cond.classLink "NotePressLaw" (7 : Nat) "NotePress") ∈ tB := tB_1 15 rfl rfl
theorem tw_16 : (Jvm.Cond.instantiable "NotePress" (5 : Nat)) ∈ tB := tB_1 16 rfl rfl
theorem tw_17 : (Jvm.Cond.methodLink "NotePressLaw" (9 : Nat) ({ cls := "NotePress", name := "<init>", desc := "()V" } : Jvm.MethodName)) ∈ tB := tB_1 17 rfl rfl
theorem tw_18 : (Jvm.Cond.instanceMethod ({ cls := "NotePress", name := "<init>", desc := "()V" } : Jvm.MethodName)) ∈ tB := tB_1 18 rfl rfl
theorem tw_19 : (Jvm.Cond.code ({ cls := "NotePress", name := "<init>", desc := "()V" } : Jvm.MethodName) prog_1_method_1_code (2 : Nat) (Option.none : Option Jvm.ClassFile.FieldType)) ∈ tB := tB_1 19 rfl rfl
theorem tw_20 : (Jvm.Cond.methodLink "NotePress" (1 : Nat) ({ cls := "java/lang/Object", name := "<init>", desc := "()V" } : Jvm.MethodName)) ∈ tB := tB_1 20 rfl rfl
theorem tw_21 : (Jvm.Cond.instanceMethod ({ cls := "java/lang/Object", name := "<init>", desc := "()V" } : Jvm.MethodName)) ∈ tB := tB_1 21 rfl rfl
theorem tw_22 : (Jvm.Cond.code ({ cls := "java/lang/Object", name := "<init>", desc := "()V" } : Jvm.MethodName) object_method_1_code (1 : Nat) (Option.none : Option Jvm.ClassFile.FieldType)) ∈ tB := tB_1 22 rfl rfl
theorem tw_23 : (Jvm.Cond.classLink "NotePress" (7 : Nat) "NotePress$Text") ∈ tB := tB_1 23 rfl rfl
theorem tw_24 : (Jvm.Cond.instantiable "NotePress$Text" (3 : Nat)) ∈ tB := tB_1 24 rfl rfl
theorem tw_26 : (Jvm.Cond.instanceMethod ({ cls := "NotePress$Text", name := "<init>", desc := "()V" } : Jvm.MethodName)) ∈ tB := tB_1 26 rfl rfl
theorem tw_27 : (Jvm.Cond.code ({ cls := "NotePress$Text", name := "<init>", desc := "()V" } : Jvm.MethodName) prog_8_method_1_code (1 : Nat) (Option.none : Option Jvm.ClassFile.FieldType)) ∈ tB := tB_1 27 rfl rfl
theorem tw_28 : (Jvm.Cond.methodLink "NotePress$Text" (3 : Nat) ({ cls := "java/lang/Object", name := "<init>", desc := "()V" } : Jvm.MethodName)) ∈ tB := tB_1 28 rfl rfl
theorem tw_29 : (Jvm.Cond.fieldLink "NotePress$Text" (9 : Nat) "NotePress$Text" "letters" "[I") ∈ tB := tB_1 29 rfl rfl
theorem tw_30 : (Jvm.Cond.fieldLink "NotePress$Text" (15 : Nat) "NotePress$Text" "length" "I") ∈ tB := tB_1 30 rfl rfl
theorem tw_32 : (Jvm.Cond.fieldLink "NotePress$Text" (24 : Nat) "NotePress$Text" "at" "I") ∈ tB := tB_1 32 rfl rfl
theorem tw_33 : (Jvm.Cond.laysFinal "NotePress$Text" "NotePress$Text" "letters" "[I") ∈ tB := tB_1 33 rfl rfl
theorem tw_35 : (Jvm.Cond.lays "NotePress$Text" "NotePress$Text" "length" "I") ∈ tB := tB_1 35 rfl rfl
theorem tw_37 : (Jvm.Cond.lays "NotePress$Text" "NotePress$Text" "at" "I") ∈ tB := tB_1 37 rfl rfl
theorem tw_40 : (Jvm.Cond.arrayClass Jvm.ClassFile.FieldType.int) ∈ tB := tB_1 40 rfl rfl
theorem tw_41 : (Jvm.Cond.classLink "NotePress" (16 : Nat) "NotePress$Stars") ∈ tB := tB_1 41 rfl rfl
theorem tw_42 : (Jvm.Cond.instantiable "NotePress$Stars" (4 : Nat)) ∈ tB := tB_1 42 rfl rfl
theorem tw_44 : (Jvm.Cond.instanceMethod ({ cls := "NotePress$Stars", name := "<init>", desc := "()V" } : Jvm.MethodName)) ∈ tB := tB_1 44 rfl rfl
theorem tw_45 : (Jvm.Cond.code ({ cls := "NotePress$Stars", name := "<init>", desc := "()V" } : Jvm.MethodName) prog_7_method_1_code (1 : Nat) (Option.none : Option Jvm.ClassFile.FieldType)) ∈ tB := tB_1 45 rfl rfl
theorem tw_46 : (Jvm.Cond.methodLink "NotePress$Stars" (3 : Nat) ({ cls := "java/lang/Object", name := "<init>", desc := "()V" } : Jvm.MethodName)) ∈ tB := tB_1 46 rfl rfl
theorem tw_47 : (Jvm.Cond.fieldLink "NotePress$Stars" (9 : Nat) "NotePress$Stars" "series" "[I") ∈ tB := tB_1 47 rfl rfl
theorem tw_48 : (Jvm.Cond.fieldLink "NotePress$Stars" (15 : Nat) "NotePress$Stars" "numbers" "[I") ∈ tB := tB_1 48 rfl rfl
theorem tw_49 : (Jvm.Cond.fieldLink "NotePress$Stars" (24 : Nat) "NotePress$Stars" "told" "I") ∈ tB := tB_1 49 rfl rfl
theorem tw_51 : (Jvm.Cond.fieldLink "NotePress$Stars" (28 : Nat) "NotePress$Stars" "standing" "I") ∈ tB := tB_1 51 rfl rfl
theorem tw_53 : (Jvm.Cond.laysFinal "NotePress$Stars" "NotePress$Stars" "series" "[I") ∈ tB := tB_1 53 rfl rfl
theorem tw_55 : (Jvm.Cond.laysFinal "NotePress$Stars" "NotePress$Stars" "numbers" "[I") ∈ tB := tB_1 55 rfl rfl
theorem tw_57 : (Jvm.Cond.lays "NotePress$Stars" "NotePress$Stars" "told" "I") ∈ tB := tB_1 57 rfl rfl
theorem tw_59 : (Jvm.Cond.lays "NotePress$Stars" "NotePress$Stars" "standing" "I") ∈ tB := tB_1 59 rfl rfl
theorem tw_62 : (Jvm.Cond.classLink "NotePress" (23 : Nat) "NotePress$Changes") ∈ tB := tB_1 62 rfl rfl
theorem tw_63 : (Jvm.Cond.instantiable "NotePress$Changes" (3 : Nat)) ∈ tB := tB_1 63 rfl rfl
theorem tw_65 : (Jvm.Cond.instanceMethod ({ cls := "NotePress$Changes", name := "<init>", desc := "()V" } : Jvm.MethodName)) ∈ tB := tB_1 65 rfl rfl
theorem tw_66 : (Jvm.Cond.code ({ cls := "NotePress$Changes", name := "<init>", desc := "()V" } : Jvm.MethodName) prog_2_method_1_code (1 : Nat) (Option.none : Option Jvm.ClassFile.FieldType)) ∈ tB := tB_1 66 rfl rfl
theorem tw_67 : (Jvm.Cond.methodLink "NotePress$Changes" (3 : Nat) ({ cls := "java/lang/Object", name := "<init>", desc := "()V" } : Jvm.MethodName)) ∈ tB := tB_1 67 rfl rfl
theorem tw_68 : (Jvm.Cond.classLink "NotePress$Changes" (9 : Nat) "NotePress$Share") ∈ tB := tB_1 68 rfl rfl
theorem tw_70 : (Jvm.Cond.fieldLink "NotePress$Changes" (11 : Nat) "NotePress$Changes" "shares" "[LNotePress$Share;") ∈ tB := tB_1 70 rfl rfl
theorem tw_71 : (Jvm.Cond.fieldLink "NotePress$Changes" (17 : Nat) "NotePress$Changes" "amounts" "[I") ∈ tB := tB_1 71 rfl rfl
theorem tw_72 : (Jvm.Cond.fieldLink "NotePress$Changes" (21 : Nat) "NotePress$Changes" "kept" "I") ∈ tB := tB_1 72 rfl rfl
theorem tw_74 : (Jvm.Cond.laysFinal "NotePress$Changes" "NotePress$Changes" "shares" "[LNotePress$Share;") ∈ tB := tB_1 74 rfl rfl
theorem tw_76 : (Jvm.Cond.laysFinal "NotePress$Changes" "NotePress$Changes" "amounts" "[I") ∈ tB := tB_1 76 rfl rfl
theorem tw_78 : (Jvm.Cond.lays "NotePress$Changes" "NotePress$Changes" "kept" "I") ∈ tB := tB_1 78 rfl rfl
theorem tw_81 : (Jvm.Cond.classLink "NotePress" (30 : Nat) "NotePress$Plan") ∈ tB := tB_1 81 rfl rfl
theorem tw_82 : (Jvm.Cond.instantiable "NotePress$Plan" (5 : Nat)) ∈ tB := tB_1 82 rfl rfl
theorem tw_83 : (Jvm.Cond.methodLink "NotePress" (32 : Nat) ({ cls := "NotePress$Plan", name := "<init>", desc := "()V" } : Jvm.MethodName)) ∈ tB := tB_1 83 rfl rfl
theorem tw_84 : (Jvm.Cond.instanceMethod ({ cls := "NotePress$Plan", name := "<init>", desc := "()V" } : Jvm.MethodName)) ∈ tB := tB_1 84 rfl rfl
theorem tw_85 : (Jvm.Cond.code ({ cls := "NotePress$Plan", name := "<init>", desc := "()V" } : Jvm.MethodName) prog_4_method_1_code (2 : Nat) (Option.none : Option Jvm.ClassFile.FieldType)) ∈ tB := tB_1 85 rfl rfl
theorem tw_86 : (Jvm.Cond.methodLink "NotePress$Plan" (3 : Nat) ({ cls := "java/lang/Object", name := "<init>", desc := "()V" } : Jvm.MethodName)) ∈ tB := tB_1 86 rfl rfl
theorem tw_87 : (Jvm.Cond.classLink "NotePress$Plan" (15 : Nat) "NotePress$Series") ∈ tB := tB_1 87 rfl rfl
theorem tw_89 : (Jvm.Cond.instantiable "NotePress$Series" (5 : Nat)) ∈ tB := tB_1 89 rfl rfl
theorem tw_90 : (Jvm.Cond.methodLink "NotePress$Plan" (21 : Nat) ({ cls := "NotePress$Series", name := "<init>", desc := "()V" } : Jvm.MethodName)) ∈ tB := tB_1 90 rfl rfl
theorem tw_91 : (Jvm.Cond.instanceMethod ({ cls := "NotePress$Series", name := "<init>", desc := "()V" } : Jvm.MethodName)) ∈ tB := tB_1 91 rfl rfl
theorem tw_92 : (Jvm.Cond.code ({ cls := "NotePress$Series", name := "<init>", desc := "()V" } : Jvm.MethodName) prog_5_method_1_code (2 : Nat) (Option.none : Option Jvm.ClassFile.FieldType)) ∈ tB := tB_1 92 rfl rfl
theorem tw_93 : (Jvm.Cond.methodLink "NotePress$Series" (3 : Nat) ({ cls := "java/lang/Object", name := "<init>", desc := "()V" } : Jvm.MethodName)) ∈ tB := tB_1 93 rfl rfl
theorem tw_94 : (Jvm.Cond.classLink "NotePress$Series" (9 : Nat) "NotePress$Share") ∈ tB := tB_1 94 rfl rfl
theorem tw_95 : (Jvm.Cond.instantiable "NotePress$Share" (4 : Nat)) ∈ tB := tB_1 95 rfl rfl
theorem tw_97 : (Jvm.Cond.instanceMethod ({ cls := "NotePress$Share", name := "<init>", desc := "()V" } : Jvm.MethodName)) ∈ tB := tB_1 97 rfl rfl
theorem tw_98 : (Jvm.Cond.code ({ cls := "NotePress$Share", name := "<init>", desc := "()V" } : Jvm.MethodName) prog_6_method_1_code (1 : Nat) (Option.none : Option Jvm.ClassFile.FieldType)) ∈ tB := tB_1 98 rfl rfl
theorem tw_99 : (Jvm.Cond.methodLink "NotePress$Share" (3 : Nat) ({ cls := "java/lang/Object", name := "<init>", desc := "()V" } : Jvm.MethodName)) ∈ tB := tB_1 99 rfl rfl
theorem tw_100 : (Jvm.Cond.fieldLink "NotePress$Share" (9 : Nat) "NotePress$Share" "places" "I") ∈ tB := tB_1 100 rfl rfl
theorem tw_103 : (Jvm.Cond.fieldLink "NotePress$Share" (15 : Nat) "NotePress$Share" "sheets" "I") ∈ tB := tB_1 103 rfl rfl
theorem tw_105 : (Jvm.Cond.fieldLink "NotePress$Share" (18 : Nat) "NotePress$Share" "first" "I") ∈ tB := tB_1 105 rfl rfl
theorem tw_107 : (Jvm.Cond.fieldLink "NotePress$Share" (21 : Nat) "NotePress$Share" "sheetsRun" "I") ∈ tB := tB_1 107 rfl rfl
theorem tw_110 : (Jvm.Cond.lays "NotePress$Share" "NotePress$Share" "places" "I") ∈ tB := tB_1 110 rfl rfl
theorem tw_112 : (Jvm.Cond.lays "NotePress$Share" "NotePress$Share" "sheets" "I") ∈ tB := tB_1 112 rfl rfl
theorem tw_114 : (Jvm.Cond.lays "NotePress$Share" "NotePress$Share" "first" "I") ∈ tB := tB_1 114 rfl rfl
theorem tw_116 : (Jvm.Cond.lays "NotePress$Share" "NotePress$Share" "sheetsRun" "I") ∈ tB := tB_1 116 rfl rfl
theorem tw_119 : (Jvm.Cond.fieldLink "NotePress$Series" (11 : Nat) "NotePress$Series" "shares" "[LNotePress$Share;") ∈ tB := tB_1 119 rfl rfl
theorem tw_120 : (Jvm.Cond.fieldLink "NotePress$Series" (25 : Nat) "NotePress$Series" "presses" "I") ∈ tB := tB_1 120 rfl rfl
theorem tw_121 : (Jvm.Cond.fieldLink "NotePress$Series" (18 : Nat) "NotePress$Series" "letter" "I") ∈ tB := tB_1 121 rfl rfl
theorem tw_124 : (Jvm.Cond.fieldLink "NotePress$Series" (22 : Nat) "NotePress$Series" "kind" "I") ∈ tB := tB_1 124 rfl rfl
theorem tw_126 : (Jvm.Cond.fieldLink "NotePress$Series" (28 : Nat) "NotePress$Series" "notes" "I") ∈ tB := tB_1 126 rfl rfl
theorem tw_129 : (Jvm.Cond.laysFinal "NotePress$Series" "NotePress$Series" "shares" "[LNotePress$Share;") ∈ tB := tB_1 129 rfl rfl
theorem tw_131 : (Jvm.Cond.lays "NotePress$Series" "NotePress$Series" "presses" "I") ∈ tB := tB_1 131 rfl rfl
theorem tw_133 : (Jvm.Cond.lays "NotePress$Series" "NotePress$Series" "letter" "I") ∈ tB := tB_1 133 rfl rfl
theorem tw_135 : (Jvm.Cond.lays "NotePress$Series" "NotePress$Series" "kind" "I") ∈ tB := tB_1 135 rfl rfl
theorem tw_137 : (Jvm.Cond.lays "NotePress$Series" "NotePress$Series" "notes" "I") ∈ tB := tB_1 137 rfl rfl
theorem tw_140 : (Jvm.Cond.fieldLink "NotePress$Plan" (9 : Nat) "NotePress$Plan" "places" "[I") ∈ tB := tB_1 140 rfl rfl
theorem tw_142 : (Jvm.Cond.fieldLink "NotePress$Plan" (17 : Nat) "NotePress$Plan" "rows" "[LNotePress$Series;") ∈ tB := tB_1 142 rfl rfl
theorem tw_143 : (Jvm.Cond.fieldLink "NotePress$Plan" (22 : Nat) "NotePress$Plan" "pressesTold" "I") ∈ tB := tB_1 143 rfl rfl
theorem tw_146 : (Jvm.Cond.fieldLink "NotePress$Plan" (26 : Nat) "NotePress$Plan" "seriesTold" "I") ∈ tB := tB_1 146 rfl rfl
theorem tw_148 : (Jvm.Cond.fieldLink "NotePress$Plan" (29 : Nat) "NotePress$Plan" "starsTold" "I") ∈ tB := tB_1 148 rfl rfl
theorem tw_151 : (Jvm.Cond.laysFinal "NotePress$Plan" "NotePress$Plan" "places" "[I") ∈ tB := tB_1 151 rfl rfl
theorem tw_153 : (Jvm.Cond.laysFinal "NotePress$Plan" "NotePress$Plan" "rows" "[LNotePress$Series;") ∈ tB := tB_1 153 rfl rfl
theorem tw_155 : (Jvm.Cond.lays "NotePress$Plan" "NotePress$Plan" "pressesTold" "I") ∈ tB := tB_1 155 rfl rfl
theorem tw_157 : (Jvm.Cond.lays "NotePress$Plan" "NotePress$Plan" "seriesTold" "I") ∈ tB := tB_1 157 rfl rfl
theorem tw_159 : (Jvm.Cond.lays "NotePress$Plan" "NotePress$Plan" "starsTold" "I") ∈ tB := tB_1 159 rfl rfl
theorem tw_163 : (Jvm.Cond.methodLink "NotePress" (42 : Nat) ({ cls := "java/lang/String", name := "length", desc := "()I" } : Jvm.MethodName)) ∈ tB := tB_1 163 rfl rfl
theorem tw_164 : (Jvm.Cond.instanceMethod ({ cls := "java/lang/String", name := "length", desc := "()I" } : Jvm.MethodName)) ∈ tB := tB_1 164 rfl rfl
theorem tw_165 : (Jvm.Cond.selects "java/lang/String" ({ cls := "java/lang/String", name := "length", desc := "()I" } : Jvm.MethodName) ({ cls := "java/lang/String", name := "length", desc := "()I" } : Jvm.MethodName)) ∈ tB := tB_1 165 rfl rfl
theorem tw_166 : (Jvm.Cond.code ({ cls := "java/lang/String", name := "length", desc := "()I" } : Jvm.MethodName) prog_12_method_54_code (1 : Nat) (Option.some Jvm.ClassFile.FieldType.int)) ∈ tB := tB_1 166 rfl rfl
theorem tw_167 : (Jvm.Cond.methodLink "java/lang/String" (335 : Nat) ({ cls := "java/lang/String", name := "coder", desc := "()B" } : Jvm.MethodName)) ∈ tB := tB_1 167 rfl rfl
theorem tw_168 : (Jvm.Cond.instanceMethod ({ cls := "java/lang/String", name := "coder", desc := "()B" } : Jvm.MethodName)) ∈ tB := tB_1 168 rfl rfl
theorem tw_169 : (Jvm.Cond.selects "java/lang/String" ({ cls := "java/lang/String", name := "coder", desc := "()B" } : Jvm.MethodName) ({ cls := "java/lang/String", name := "coder", desc := "()B" } : Jvm.MethodName)) ∈ tB := tB_1 169 rfl rfl
theorem tw_170 : (Jvm.Cond.code ({ cls := "java/lang/String", name := "coder", desc := "()B" } : Jvm.MethodName) prog_12_method_152_code (1 : Nat) (Option.some Jvm.ClassFile.FieldType.byte)) ∈ tB := tB_1 170 rfl rfl
theorem tw_171 : (Jvm.Cond.fieldLink "java/lang/String" (38 : Nat) "java/lang/String" "COMPACT_STRINGS" "Z") ∈ tB := tB_1 171 rfl rfl
theorem tw_173 : (Jvm.Cond.methodLink "NotePress" (48 : Nat) ({ cls := "java/lang/String", name := "charAt", desc := "(I)C" } : Jvm.MethodName)) ∈ tB := tB_1 173 rfl rfl
theorem tw_174 : (Jvm.Cond.instanceMethod ({ cls := "java/lang/String", name := "charAt", desc := "(I)C" } : Jvm.MethodName)) ∈ tB := tB_1 174 rfl rfl
theorem tw_175 : (Jvm.Cond.selects "java/lang/String" ({ cls := "java/lang/String", name := "charAt", desc := "(I)C" } : Jvm.MethodName) ({ cls := "java/lang/String", name := "charAt", desc := "(I)C" } : Jvm.MethodName)) ∈ tB := tB_1 175 rfl rfl
theorem tw_176 : (Jvm.Cond.code ({ cls := "java/lang/String", name := "charAt", desc := "(I)C" } : Jvm.MethodName) prog_12_method_56_code (2 : Nat) (Option.some Jvm.ClassFile.FieldType.char)) ∈ tB := tB_1 176 rfl rfl
theorem tw_177 : (Jvm.Cond.methodLink "java/lang/String" (492 : Nat) ({ cls := "java/lang/String", name := "isLatin1", desc := "()Z" } : Jvm.MethodName)) ∈ tB := tB_1 177 rfl rfl
theorem tw_178 : (Jvm.Cond.instanceMethod ({ cls := "java/lang/String", name := "isLatin1", desc := "()Z" } : Jvm.MethodName)) ∈ tB := tB_1 178 rfl rfl
theorem tw_179 : (Jvm.Cond.selects "java/lang/String" ({ cls := "java/lang/String", name := "isLatin1", desc := "()Z" } : Jvm.MethodName) ({ cls := "java/lang/String", name := "isLatin1", desc := "()Z" } : Jvm.MethodName)) ∈ tB := tB_1 179 rfl rfl
theorem tw_180 : (Jvm.Cond.code ({ cls := "java/lang/String", name := "isLatin1", desc := "()Z" } : Jvm.MethodName) prog_12_method_154_code (1 : Nat) (Option.some Jvm.ClassFile.FieldType.boolean)) ∈ tB := tB_1 180 rfl rfl
theorem tw_181 : (Jvm.Cond.methodLink "java/lang/String" (495 : Nat) ({ cls := "java/lang/StringLatin1", name := "charAt", desc := "([BI)C" } : Jvm.MethodName)) ∈ tB := tB_1 181 rfl rfl
theorem tw_182 : (Jvm.Cond.static ({ cls := "java/lang/StringLatin1", name := "charAt", desc := "([BI)C" } : Jvm.MethodName)) ∈ tB := tB_1 182 rfl rfl
theorem tw_183 : (Jvm.Cond.code ({ cls := "java/lang/StringLatin1", name := "charAt", desc := "([BI)C" } : Jvm.MethodName) prog_13_method_2_code (2 : Nat) (Option.some Jvm.ClassFile.FieldType.char)) ∈ tB := tB_1 183 rfl rfl
theorem tw_184 : (Jvm.Cond.methodLink "java/lang/StringLatin1" (9 : Nat) ({ cls := "java/lang/String", name := "checkIndex", desc := "(II)V" } : Jvm.MethodName)) ∈ tB := tB_1 184 rfl rfl
theorem tw_185 : (Jvm.Cond.static ({ cls := "java/lang/String", name := "checkIndex", desc := "(II)V" } : Jvm.MethodName)) ∈ tB := tB_1 185 rfl rfl
theorem tw_186 : (Jvm.Cond.code ({ cls := "java/lang/String", name := "checkIndex", desc := "(II)V" } : Jvm.MethodName) prog_12_method_155_code (2 : Nat) (Option.none : Option Jvm.ClassFile.FieldType)) ∈ tB := tB_1 186 rfl rfl
theorem tw_187 : (Jvm.Cond.fieldLink "java/lang/String" (1053 : Nat) "jdk/internal/util/Preconditions" "SIOOBE_FORMATTER" "Ljava/util/function/BiFunction;") ∈ tB := tB_1 187 rfl rfl
theorem tw_189 : (Jvm.Cond.methodLink "java/lang/String" (1059 : Nat) ({ cls := "jdk/internal/util/Preconditions", name := "checkIndex", desc := "(IILjava/util/function/BiFunction;)I" } : Jvm.MethodName)) ∈ tB := tB_1 189 rfl rfl
theorem tw_190 : (Jvm.Cond.static ({ cls := "jdk/internal/util/Preconditions", name := "checkIndex", desc := "(IILjava/util/function/BiFunction;)I" } : Jvm.MethodName)) ∈ tB := tB_1 190 rfl rfl
theorem tw_191 : (Jvm.Cond.code ({ cls := "jdk/internal/util/Preconditions", name := "checkIndex", desc := "(IILjava/util/function/BiFunction;)I" } : Jvm.MethodName) prog_15_method_11_code (3 : Nat) (Option.some Jvm.ClassFile.FieldType.int)) ∈ tB := tB_1 191 rfl rfl
theorem tw_192 : (Jvm.Cond.methodLink "java/lang/String" (498 : Nat) ({ cls := "java/lang/StringUTF16", name := "charAt", desc := "([BI)C" } : Jvm.MethodName)) ∈ tB := tB_1 192 rfl rfl
theorem tw_193 : (Jvm.Cond.static ({ cls := "java/lang/StringUTF16", name := "charAt", desc := "([BI)C" } : Jvm.MethodName)) ∈ tB := tB_1 193 rfl rfl
theorem tw_194 : (Jvm.Cond.code ({ cls := "java/lang/StringUTF16", name := "charAt", desc := "([BI)C" } : Jvm.MethodName) prog_14_method_83_code (2 : Nat) (Option.some Jvm.ClassFile.FieldType.char)) ∈ tB := tB_1 194 rfl rfl
theorem tw_195 : (Jvm.Cond.methodLink "java/lang/StringUTF16" (67 : Nat) ({ cls := "java/lang/StringUTF16", name := "checkIndex", desc := "(I[B)V" } : Jvm.MethodName)) ∈ tB := tB_1 195 rfl rfl
theorem tw_196 : (Jvm.Cond.static ({ cls := "java/lang/StringUTF16", name := "checkIndex", desc := "(I[B)V" } : Jvm.MethodName)) ∈ tB := tB_1 196 rfl rfl
theorem tw_197 : (Jvm.Cond.code ({ cls := "java/lang/StringUTF16", name := "checkIndex", desc := "(I[B)V" } : Jvm.MethodName) prog_14_method_91_code (2 : Nat) (Option.none : Option Jvm.ClassFile.FieldType)) ∈ tB := tB_1 197 rfl rfl
theorem tw_198 : (Jvm.Cond.methodLink "java/lang/StringUTF16" (48 : Nat) ({ cls := "java/lang/StringUTF16", name := "length", desc := "([B)I" } : Jvm.MethodName)) ∈ tB := tB_1 198 rfl rfl
theorem tw_199 : (Jvm.Cond.static ({ cls := "java/lang/StringUTF16", name := "length", desc := "([B)I" } : Jvm.MethodName)) ∈ tB := tB_1 199 rfl rfl
theorem tw_200 : (Jvm.Cond.code ({ cls := "java/lang/StringUTF16", name := "length", desc := "([B)I" } : Jvm.MethodName) prog_14_method_6_code (1 : Nat) (Option.some Jvm.ClassFile.FieldType.int)) ∈ tB := tB_1 200 rfl rfl
theorem tw_201 : (Jvm.Cond.methodLink "java/lang/StringUTF16" (414 : Nat) ({ cls := "java/lang/String", name := "checkIndex", desc := "(II)V" } : Jvm.MethodName)) ∈ tB := tB_1 201 rfl rfl
theorem tw_202 : (Jvm.Cond.methodLink "java/lang/StringUTF16" (71 : Nat) ({ cls := "java/lang/StringUTF16", name := "getChar", desc := "([BI)C" } : Jvm.MethodName)) ∈ tB := tB_1 202 rfl rfl
theorem tw_203 : (Jvm.Cond.static ({ cls := "java/lang/StringUTF16", name := "getChar", desc := "([BI)C" } : Jvm.MethodName)) ∈ tB := tB_1 203 rfl rfl
theorem tw_204 : (Jvm.Cond.code ({ cls := "java/lang/StringUTF16", name := "getChar", desc := "([BI)C" } : Jvm.MethodName) prog_14_method_5_code (2 : Nat) (Option.some Jvm.ClassFile.FieldType.char)) ∈ tB := tB_1 204 rfl rfl
theorem tw_205 : (Jvm.Cond.fieldLink "java/lang/StringUTF16" (44 : Nat) "java/lang/StringUTF16" "$assertionsDisabled" "Z") ∈ tB := tB_1 205 rfl rfl
theorem tw_207 : (Jvm.Cond.fieldLink "java/lang/StringUTF16" (59 : Nat) "java/lang/StringUTF16" "HI_BYTE_SHIFT" "I") ∈ tB := tB_1 207 rfl rfl
theorem tw_209 : (Jvm.Cond.fieldLink "java/lang/StringUTF16" (63 : Nat) "java/lang/StringUTF16" "LO_BYTE_SHIFT" "I") ∈ tB := tB_1 209 rfl rfl
theorem tw_211 : (Jvm.Cond.methodLink "NotePress" (52 : Nat) ({ cls := "NotePress$Text", name := "append", desc := "(I)Z" } : Jvm.MethodName)) ∈ tB := tB_1 211 rfl rfl
theorem tw_212 : (Jvm.Cond.instanceMethod ({ cls := "NotePress$Text", name := "append", desc := "(I)Z" } : Jvm.MethodName)) ∈ tB := tB_1 212 rfl rfl
theorem tw_213 : (Jvm.Cond.selects "NotePress$Text" ({ cls := "NotePress$Text", name := "append", desc := "(I)Z" } : Jvm.MethodName) ({ cls := "NotePress$Text", name := "append", desc := "(I)Z" } : Jvm.MethodName)) ∈ tB := tB_1 213 rfl rfl
theorem tw_214 : (Jvm.Cond.code ({ cls := "NotePress$Text", name := "append", desc := "(I)Z" } : Jvm.MethodName) prog_8_method_2_code (2 : Nat) (Option.some Jvm.ClassFile.FieldType.boolean)) ∈ tB := tB_1 214 rfl rfl
theorem tw_215 : (Jvm.Cond.methodLink "NotePress" (56 : Nat) ({ cls := "NotePress", name := "layText", desc := "()Z" } : Jvm.MethodName)) ∈ tB := tB_1 215 rfl rfl
theorem tw_217 : (Jvm.Cond.instanceMethod ({ cls := "NotePress", name := "layText", desc := "()Z" } : Jvm.MethodName)) ∈ tB := tB_1 217 rfl rfl
theorem tw_218 : (Jvm.Cond.code ({ cls := "NotePress", name := "layText", desc := "()Z" } : Jvm.MethodName) prog_1_method_23_code (2 : Nat) (Option.some Jvm.ClassFile.FieldType.boolean)) ∈ tB := tB_1 218 rfl rfl
theorem tw_219 : (Jvm.Cond.methodLink "NotePress" (70 : Nat) ({ cls := "NotePress$Text", name := "readInto", desc := "(LNotePress$Plan;)I" } : Jvm.MethodName)) ∈ tB := tB_1 219 rfl rfl
theorem tw_220 : (Jvm.Cond.instanceMethod ({ cls := "NotePress$Text", name := "readInto", desc := "(LNotePress$Plan;)I" } : Jvm.MethodName)) ∈ tB := tB_1 220 rfl rfl
theorem tw_221 : (Jvm.Cond.selects "NotePress$Text" ({ cls := "NotePress$Text", name := "readInto", desc := "(LNotePress$Plan;)I" } : Jvm.MethodName) ({ cls := "NotePress$Text", name := "readInto", desc := "(LNotePress$Plan;)I" } : Jvm.MethodName)) ∈ tB := tB_1 221 rfl rfl
theorem tw_222 : (Jvm.Cond.code ({ cls := "NotePress$Text", name := "readInto", desc := "(LNotePress$Plan;)I" } : Jvm.MethodName) prog_8_method_4_code (4 : Nat) (Option.some Jvm.ClassFile.FieldType.int)) ∈ tB := tB_1 222 rfl rfl
theorem tw_223 : (Jvm.Cond.methodLink "NotePress$Text" (19 : Nat) ({ cls := "NotePress$Plan", name := "clear", desc := "()V" } : Jvm.MethodName)) ∈ tB := tB_1 223 rfl rfl
theorem tw_224 : (Jvm.Cond.instanceMethod ({ cls := "NotePress$Plan", name := "clear", desc := "()V" } : Jvm.MethodName)) ∈ tB := tB_1 224 rfl rfl
theorem tw_225 : (Jvm.Cond.selects "NotePress$Plan" ({ cls := "NotePress$Plan", name := "clear", desc := "()V" } : Jvm.MethodName) ({ cls := "NotePress$Plan", name := "clear", desc := "()V" } : Jvm.MethodName)) ∈ tB := tB_1 225 rfl rfl
theorem tw_226 : (Jvm.Cond.code ({ cls := "NotePress$Plan", name := "clear", desc := "()V" } : Jvm.MethodName) prog_4_method_2_code (1 : Nat) (Option.none : Option Jvm.ClassFile.FieldType)) ∈ tB := tB_1 226 rfl rfl
theorem tw_227 : (Jvm.Cond.methodLink "NotePress$Text" (27 : Nat) ({ cls := "NotePress$Text", name := "readItem", desc := "(LNotePress$Plan;)Z" } : Jvm.MethodName)) ∈ tB := tB_1 227 rfl rfl
theorem tw_229 : (Jvm.Cond.instanceMethod ({ cls := "NotePress$Text", name := "readItem", desc := "(LNotePress$Plan;)Z" } : Jvm.MethodName)) ∈ tB := tB_1 229 rfl rfl
theorem tw_230 : (Jvm.Cond.code ({ cls := "NotePress$Text", name := "readItem", desc := "(LNotePress$Plan;)Z" } : Jvm.MethodName) prog_8_method_5_code (2 : Nat) (Option.some Jvm.ClassFile.FieldType.boolean)) ∈ tB := tB_1 230 rfl rfl
theorem tw_231 : (Jvm.Cond.methodLink "NotePress$Text" (31 : Nat) ({ cls := "NotePress$Text", name := "skip", desc := "(I)Z" } : Jvm.MethodName)) ∈ tB := tB_1 231 rfl rfl
theorem tw_233 : (Jvm.Cond.instanceMethod ({ cls := "NotePress$Text", name := "skip", desc := "(I)Z" } : Jvm.MethodName)) ∈ tB := tB_1 233 rfl rfl
theorem tw_234 : (Jvm.Cond.code ({ cls := "NotePress$Text", name := "skip", desc := "(I)Z" } : Jvm.MethodName) prog_8_method_9_code (2 : Nat) (Option.some Jvm.ClassFile.FieldType.boolean)) ∈ tB := tB_1 234 rfl rfl
theorem tw_235 : (Jvm.Cond.methodLink "NotePress$Text" (35 : Nat) ({ cls := "NotePress$Text", name := "readPress", desc := "(LNotePress$Plan;)Z" } : Jvm.MethodName)) ∈ tB := tB_1 235 rfl rfl
theorem tw_237 : (Jvm.Cond.instanceMethod ({ cls := "NotePress$Text", name := "readPress", desc := "(LNotePress$Plan;)Z" } : Jvm.MethodName)) ∈ tB := tB_1 237 rfl rfl
theorem tw_238 : (Jvm.Cond.code ({ cls := "NotePress$Text", name := "readPress", desc := "(LNotePress$Plan;)Z" } : Jvm.MethodName) prog_8_method_6_code (3 : Nat) (Option.some Jvm.ClassFile.FieldType.boolean)) ∈ tB := tB_1 238 rfl rfl
theorem tw_239 : (Jvm.Cond.methodLink "NotePress$Text" (44 : Nat) ({ cls := "NotePress$Text", name := "readNumber", desc := "()I" } : Jvm.MethodName)) ∈ tB := tB_1 239 rfl rfl
theorem tw_241 : (Jvm.Cond.instanceMethod ({ cls := "NotePress$Text", name := "readNumber", desc := "()I" } : Jvm.MethodName)) ∈ tB := tB_2 1 rfl rfl
theorem tw_242 : (Jvm.Cond.code ({ cls := "NotePress$Text", name := "readNumber", desc := "()I" } : Jvm.MethodName) prog_8_method_11_code (3 : Nat) (Option.some Jvm.ClassFile.FieldType.int)) ∈ tB := tB_2 2 rfl rfl
theorem tw_243 : (Jvm.Cond.methodLink "NotePress$Text" (90 : Nat) ({ cls := "NotePress$Text", name := "readFigure", desc := "()I" } : Jvm.MethodName)) ∈ tB := tB_2 3 rfl rfl
theorem tw_245 : (Jvm.Cond.instanceMethod ({ cls := "NotePress$Text", name := "readFigure", desc := "()I" } : Jvm.MethodName)) ∈ tB := tB_2 5 rfl rfl
theorem tw_246 : (Jvm.Cond.code ({ cls := "NotePress$Text", name := "readFigure", desc := "()I" } : Jvm.MethodName) prog_8_method_12_code (1 : Nat) (Option.some Jvm.ClassFile.FieldType.int)) ∈ tB := tB_2 6 rfl rfl
theorem tw_248 : (Jvm.Cond.static ({ cls := "NotePress", name := "isFromTo", desc := "(III)Z" } : Jvm.MethodName)) ∈ tB := tB_2 8 rfl rfl
theorem tw_249 : (Jvm.Cond.code ({ cls := "NotePress", name := "isFromTo", desc := "(III)Z" } : Jvm.MethodName) prog_1_method_22_code (3 : Nat) (Option.some Jvm.ClassFile.FieldType.boolean)) ∈ tB := tB_2 9 rfl rfl
theorem tw_250 : (Jvm.Cond.methodLink "NotePress$Text" (52 : Nat) ({ cls := "NotePress$Plan", name := "addPress", desc := "(I)Z" } : Jvm.MethodName)) ∈ tB := tB_2 10 rfl rfl
theorem tw_251 : (Jvm.Cond.instanceMethod ({ cls := "NotePress$Plan", name := "addPress", desc := "(I)Z" } : Jvm.MethodName)) ∈ tB := tB_2 11 rfl rfl
theorem tw_252 : (Jvm.Cond.selects "NotePress$Plan" ({ cls := "NotePress$Plan", name := "addPress", desc := "(I)Z" } : Jvm.MethodName) ({ cls := "NotePress$Plan", name := "addPress", desc := "(I)Z" } : Jvm.MethodName)) ∈ tB := tB_2 12 rfl rfl
theorem tw_253 : (Jvm.Cond.code ({ cls := "NotePress$Plan", name := "addPress", desc := "(I)Z" } : Jvm.MethodName) prog_4_method_3_code (2 : Nat) (Option.some Jvm.ClassFile.FieldType.boolean)) ∈ tB := tB_2 13 rfl rfl
theorem tw_254 : (Jvm.Cond.methodLink "NotePress$Text" (38 : Nat) ({ cls := "NotePress$Text", name := "readSeries", desc := "(LNotePress$Plan;)Z" } : Jvm.MethodName)) ∈ tB := tB_2 14 rfl rfl
theorem tw_256 : (Jvm.Cond.instanceMethod ({ cls := "NotePress$Text", name := "readSeries", desc := "(LNotePress$Plan;)Z" } : Jvm.MethodName)) ∈ tB := tB_2 16 rfl rfl
theorem tw_257 : (Jvm.Cond.code ({ cls := "NotePress$Text", name := "readSeries", desc := "(LNotePress$Plan;)Z" } : Jvm.MethodName) prog_8_method_8_code (7 : Nat) (Option.some Jvm.ClassFile.FieldType.boolean)) ∈ tB := tB_2 17 rfl rfl
theorem tw_258 : (Jvm.Cond.methodLink "NotePress$Text" (58 : Nat) ({ cls := "NotePress$Plan", name := "nextSeries", desc := "()LNotePress$Series;" } : Jvm.MethodName)) ∈ tB := tB_2 18 rfl rfl
theorem tw_259 : (Jvm.Cond.instanceMethod ({ cls := "NotePress$Plan", name := "nextSeries", desc := "()LNotePress$Series;" } : Jvm.MethodName)) ∈ tB := tB_2 19 rfl rfl
theorem tw_260 : (Jvm.Cond.selects "NotePress$Plan" ({ cls := "NotePress$Plan", name := "nextSeries", desc := "()LNotePress$Series;" } : Jvm.MethodName) ({ cls := "NotePress$Plan", name := "nextSeries", desc := "()LNotePress$Series;" } : Jvm.MethodName)) ∈ tB := tB_2 20 rfl rfl
theorem tw_261 : (Jvm.Cond.code ({ cls := "NotePress$Plan", name := "nextSeries", desc := "()LNotePress$Series;" } : Jvm.MethodName) prog_4_method_4_code (1 : Nat) (Option.some (Jvm.ClassFile.FieldType.object "NotePress$Series"))) ∈ tB := tB_2 21 rfl rfl
theorem tw_262 : (Jvm.Cond.methodLink "NotePress$Text" (62 : Nat) ({ cls := "NotePress$Text", name := "readLetter", desc := "()I" } : Jvm.MethodName)) ∈ tB := tB_2 22 rfl rfl
theorem tw_264 : (Jvm.Cond.instanceMethod ({ cls := "NotePress$Text", name := "readLetter", desc := "()I" } : Jvm.MethodName)) ∈ tB := tB_2 24 rfl rfl
theorem tw_265 : (Jvm.Cond.code ({ cls := "NotePress$Text", name := "readLetter", desc := "()I" } : Jvm.MethodName) prog_8_method_10_code (1 : Nat) (Option.some Jvm.ClassFile.FieldType.int)) ∈ tB := tB_2 25 rfl rfl
theorem tw_266 : (Jvm.Cond.methodLink "NotePress$Text" (65 : Nat) ({ cls := "NotePress$Plan", name := "seriesOfLetter", desc := "(I)I" } : Jvm.MethodName)) ∈ tB := tB_2 26 rfl rfl
theorem tw_267 : (Jvm.Cond.instanceMethod ({ cls := "NotePress$Plan", name := "seriesOfLetter", desc := "(I)I" } : Jvm.MethodName)) ∈ tB := tB_2 27 rfl rfl
theorem tw_268 : (Jvm.Cond.selects "NotePress$Plan" ({ cls := "NotePress$Plan", name := "seriesOfLetter", desc := "(I)I" } : Jvm.MethodName) ({ cls := "NotePress$Plan", name := "seriesOfLetter", desc := "(I)I" } : Jvm.MethodName)) ∈ tB := tB_2 28 rfl rfl
theorem tw_269 : (Jvm.Cond.code ({ cls := "NotePress$Plan", name := "seriesOfLetter", desc := "(I)I" } : Jvm.MethodName) prog_4_method_8_code (3 : Nat) (Option.some Jvm.ClassFile.FieldType.int)) ∈ tB := tB_2 29 rfl rfl
theorem tw_270 : (Jvm.Cond.methodLink "NotePress$Text" (69 : Nat) ({ cls := "NotePress$Series", name := "begin", desc := "(II)V" } : Jvm.MethodName)) ∈ tB := tB_2 30 rfl rfl
theorem tw_271 : (Jvm.Cond.instanceMethod ({ cls := "NotePress$Series", name := "begin", desc := "(II)V" } : Jvm.MethodName)) ∈ tB := tB_2 31 rfl rfl
theorem tw_272 : (Jvm.Cond.selects "NotePress$Series" ({ cls := "NotePress$Series", name := "begin", desc := "(II)V" } : Jvm.MethodName) ({ cls := "NotePress$Series", name := "begin", desc := "(II)V" } : Jvm.MethodName)) ∈ tB := tB_2 32 rfl rfl
theorem tw_273 : (Jvm.Cond.code ({ cls := "NotePress$Series", name := "begin", desc := "(II)V" } : Jvm.MethodName) prog_5_method_2_code (3 : Nat) (Option.none : Option Jvm.ClassFile.FieldType)) ∈ tB := tB_2 33 rfl rfl
theorem tw_274 : (Jvm.Cond.methodLink "NotePress$Text" (81 : Nat) ({ cls := "NotePress$Series", name := "addShare", desc := "(II)V" } : Jvm.MethodName)) ∈ tB := tB_2 34 rfl rfl
theorem tw_275 : (Jvm.Cond.instanceMethod ({ cls := "NotePress$Series", name := "addShare", desc := "(II)V" } : Jvm.MethodName)) ∈ tB := tB_2 35 rfl rfl
theorem tw_276 : (Jvm.Cond.selects "NotePress$Series" ({ cls := "NotePress$Series", name := "addShare", desc := "(II)V" } : Jvm.MethodName) ({ cls := "NotePress$Series", name := "addShare", desc := "(II)V" } : Jvm.MethodName)) ∈ tB := tB_2 36 rfl rfl
theorem tw_277 : (Jvm.Cond.code ({ cls := "NotePress$Series", name := "addShare", desc := "(II)V" } : Jvm.MethodName) prog_5_method_3_code (3 : Nat) (Option.none : Option Jvm.ClassFile.FieldType)) ∈ tB := tB_2 37 rfl rfl
theorem tw_278 : (Jvm.Cond.methodLink "NotePress$Series" (31 : Nat) ({ cls := "NotePress$Share", name := "begin", desc := "(III)V" } : Jvm.MethodName)) ∈ tB := tB_2 38 rfl rfl
theorem tw_279 : (Jvm.Cond.instanceMethod ({ cls := "NotePress$Share", name := "begin", desc := "(III)V" } : Jvm.MethodName)) ∈ tB := tB_2 39 rfl rfl
theorem tw_280 : (Jvm.Cond.selects "NotePress$Share" ({ cls := "NotePress$Share", name := "begin", desc := "(III)V" } : Jvm.MethodName) ({ cls := "NotePress$Share", name := "begin", desc := "(III)V" } : Jvm.MethodName)) ∈ tB := tB_2 40 rfl rfl
theorem tw_281 : (Jvm.Cond.code ({ cls := "NotePress$Share", name := "begin", desc := "(III)V" } : Jvm.MethodName) prog_6_method_2_code (4 : Nat) (Option.none : Option Jvm.ClassFile.FieldType)) ∈ tB := tB_2 41 rfl rfl
theorem tw_282 : (Jvm.Cond.methodLink "NotePress$Text" (87 : Nat) ({ cls := "NotePress$Plan", name := "keepNextSeries", desc := "()V" } : Jvm.MethodName)) ∈ tB := tB_2 42 rfl rfl
theorem tw_283 : (Jvm.Cond.instanceMethod ({ cls := "NotePress$Plan", name := "keepNextSeries", desc := "()V" } : Jvm.MethodName)) ∈ tB := tB_2 43 rfl rfl
theorem tw_284 : (Jvm.Cond.selects "NotePress$Plan" ({ cls := "NotePress$Plan", name := "keepNextSeries", desc := "()V" } : Jvm.MethodName) ({ cls := "NotePress$Plan", name := "keepNextSeries", desc := "()V" } : Jvm.MethodName)) ∈ tB := tB_2 44 rfl rfl
theorem tw_285 : (Jvm.Cond.code ({ cls := "NotePress$Plan", name := "keepNextSeries", desc := "()V" } : Jvm.MethodName) prog_4_method_5_code (1 : Nat) (Option.none : Option Jvm.ClassFile.FieldType)) ∈ tB := tB_2 45 rfl rfl
theorem tw_286 : (Jvm.Cond.methodLink "NotePress$Text" (41 : Nat) ({ cls := "NotePress$Text", name := "readStars", desc := "(LNotePress$Plan;)Z" } : Jvm.MethodName)) ∈ tB := tB_2 46 rfl rfl
theorem tw_288 : (Jvm.Cond.instanceMethod ({ cls := "NotePress$Text", name := "readStars", desc := "(LNotePress$Plan;)Z" } : Jvm.MethodName)) ∈ tB := tB_2 48 rfl rfl
theorem tw_289 : (Jvm.Cond.code ({ cls := "NotePress$Text", name := "readStars", desc := "(LNotePress$Plan;)Z" } : Jvm.MethodName) prog_8_method_7_code (3 : Nat) (Option.some Jvm.ClassFile.FieldType.boolean)) ∈ tB := tB_2 49 rfl rfl
theorem tw_290 : (Jvm.Cond.methodLink "NotePress" (240 : Nat) ({ cls := "NotePress$Stars", name := "begin", desc := "(I)V" } : Jvm.MethodName)) ∈ tB := tB_2 50 rfl rfl
theorem tw_291 : (Jvm.Cond.instanceMethod ({ cls := "NotePress$Stars", name := "begin", desc := "(I)V" } : Jvm.MethodName)) ∈ tB := tB_2 51 rfl rfl
theorem tw_292 : (Jvm.Cond.selects "NotePress$Stars" ({ cls := "NotePress$Stars", name := "begin", desc := "(I)V" } : Jvm.MethodName) ({ cls := "NotePress$Stars", name := "begin", desc := "(I)V" } : Jvm.MethodName)) ∈ tB := tB_2 52 rfl rfl
theorem tw_293 : (Jvm.Cond.code ({ cls := "NotePress$Stars", name := "begin", desc := "(I)V" } : Jvm.MethodName) prog_7_method_2_code (2 : Nat) (Option.none : Option Jvm.ClassFile.FieldType)) ∈ tB := tB_2 53 rfl rfl
theorem tw_294 : (Jvm.Cond.methodLink "NotePress$Stars" (18 : Nat) ({ cls := "java/lang/Math", name := "min", desc := "(II)I" } : Jvm.MethodName)) ∈ tB := tB_2 54 rfl rfl
theorem tw_295 : (Jvm.Cond.static ({ cls := "java/lang/Math", name := "min", desc := "(II)I" } : Jvm.MethodName)) ∈ tB := tB_2 55 rfl rfl
theorem tw_296 : (Jvm.Cond.code ({ cls := "java/lang/Math", name := "min", desc := "(II)I" } : Jvm.MethodName) prog_11_method_69_code (2 : Nat) (Option.some Jvm.ClassFile.FieldType.int)) ∈ tB := tB_2 56 rfl rfl
theorem tw_297 : (Jvm.Cond.methodLink "NotePress" (243 : Nat) ({ cls := "NotePress$Changes", name := "clear", desc := "()V" } : Jvm.MethodName)) ∈ tB := tB_2 57 rfl rfl
theorem tw_298 : (Jvm.Cond.instanceMethod ({ cls := "NotePress$Changes", name := "clear", desc := "()V" } : Jvm.MethodName)) ∈ tB := tB_2 58 rfl rfl
theorem tw_299 : (Jvm.Cond.selects "NotePress$Changes" ({ cls := "NotePress$Changes", name := "clear", desc := "()V" } : Jvm.MethodName) ({ cls := "NotePress$Changes", name := "clear", desc := "()V" } : Jvm.MethodName)) ∈ tB := tB_2 59 rfl rfl
theorem tw_300 : (Jvm.Cond.code ({ cls := "NotePress$Changes", name := "clear", desc := "()V" } : Jvm.MethodName) prog_2_method_2_code (1 : Nat) (Option.none : Option Jvm.ClassFile.FieldType)) ∈ tB := tB_2 60 rfl rfl
theorem tw_301 : (Jvm.Cond.methodLink "NotePress" (60 : Nat) ({ cls := "NotePress$Text", name := "clear", desc := "()V" } : Jvm.MethodName)) ∈ tB := tB_2 61 rfl rfl
theorem tw_302 : (Jvm.Cond.instanceMethod ({ cls := "NotePress$Text", name := "clear", desc := "()V" } : Jvm.MethodName)) ∈ tB := tB_2 62 rfl rfl
theorem tw_303 : (Jvm.Cond.selects "NotePress$Text" ({ cls := "NotePress$Text", name := "clear", desc := "()V" } : Jvm.MethodName) ({ cls := "NotePress$Text", name := "clear", desc := "()V" } : Jvm.MethodName)) ∈ tB := tB_2 63 rfl rfl
theorem tw_304 : (Jvm.Cond.code ({ cls := "NotePress$Text", name := "clear", desc := "()V" } : Jvm.MethodName) prog_8_method_3_code (1 : Nat) (Option.none : Option Jvm.ClassFile.FieldType)) ∈ tB := tB_2 64 rfl rfl
theorem tw_305 : (Jvm.Cond.fieldLink "NotePress" (10 : Nat) "NotePress" "text" "LNotePress$Text;") ∈ tB := tB_2 65 rfl rfl
theorem tw_306 : (Jvm.Cond.fieldLink "NotePress" (19 : Nat) "NotePress" "stars" "LNotePress$Stars;") ∈ tB := tB_2 66 rfl rfl
theorem tw_307 : (Jvm.Cond.fieldLink "NotePress" (26 : Nat) "NotePress" "changes" "LNotePress$Changes;") ∈ tB := tB_2 67 rfl rfl
theorem tw_308 : (Jvm.Cond.fieldLink "NotePress" (33 : Nat) "NotePress" "laid" "LNotePress$Plan;") ∈ tB := tB_2 68 rfl rfl
theorem tw_309 : (Jvm.Cond.fieldLink "NotePress" (37 : Nat) "NotePress" "draft" "LNotePress$Plan;") ∈ tB := tB_2 69 rfl rfl
theorem tw_310 : (Jvm.Cond.laysFinal "NotePress" "NotePress" "text" "LNotePress$Text;") ∈ tB := tB_2 70 rfl rfl
theorem tw_312 : (Jvm.Cond.laysFinal "NotePress" "NotePress" "stars" "LNotePress$Stars;") ∈ tB := tB_2 72 rfl rfl
theorem tw_314 : (Jvm.Cond.laysFinal "NotePress" "NotePress" "changes" "LNotePress$Changes;") ∈ tB := tB_2 74 rfl rfl
theorem tw_316 : (Jvm.Cond.lays "NotePress" "NotePress" "laid" "LNotePress$Plan;") ∈ tB := tB_2 76 rfl rfl
theorem tw_318 : (Jvm.Cond.lays "NotePress" "NotePress" "draft" "LNotePress$Plan;") ∈ tB := tB_2 78 rfl rfl
theorem tw_321 : (Jvm.Cond.arrayClass Jvm.ClassFile.FieldType.byte) ∈ tB := tB_2 81 rfl rfl
theorem tw_322 : (Jvm.Cond.methodLink "NotePressLaw" (13 : Nat) ({ cls := "NotePress", name := "write", desc := "(I)I" } : Jvm.MethodName)) ∈ tB := tB_2 82 rfl rfl
theorem tw_323 : (Jvm.Cond.instanceMethod ({ cls := "NotePress", name := "write", desc := "(I)I" } : Jvm.MethodName)) ∈ tB := tB_2 83 rfl rfl
theorem tw_324 : (Jvm.Cond.selects "NotePress" ({ cls := "NotePress", name := "write", desc := "(I)I" } : Jvm.MethodName) ({ cls := "NotePress", name := "write", desc := "(I)I" } : Jvm.MethodName)) ∈ tB := tB_2 84 rfl rfl
theorem tw_325 : (Jvm.Cond.code ({ cls := "NotePress", name := "write", desc := "(I)I" } : Jvm.MethodName) prog_1_method_2_code (2 : Nat) (Option.some Jvm.ClassFile.FieldType.int)) ∈ tB := tB_2 85 rfl rfl
theorem tw_326 : (Jvm.Cond.methodLink "NotePress" (63 : Nat) ({ cls := "NotePress", name := "isFromTo", desc := "(III)Z" } : Jvm.MethodName)) ∈ tB := tB_2 86 rfl rfl
theorem tw_327 : (Jvm.Cond.methodLink "NotePressLaw" (18 : Nat) ({ cls := "NotePress", name := "wipe", desc := "()I" } : Jvm.MethodName)) ∈ tB := tB_2 87 rfl rfl
theorem tw_328 : (Jvm.Cond.instanceMethod ({ cls := "NotePress", name := "wipe", desc := "()I" } : Jvm.MethodName)) ∈ tB := tB_2 88 rfl rfl
theorem tw_329 : (Jvm.Cond.selects "NotePress" ({ cls := "NotePress", name := "wipe", desc := "()I" } : Jvm.MethodName) ({ cls := "NotePress", name := "wipe", desc := "()I" } : Jvm.MethodName)) ∈ tB := tB_2 89 rfl rfl
theorem tw_330 : (Jvm.Cond.code ({ cls := "NotePress", name := "wipe", desc := "()I" } : Jvm.MethodName) prog_1_method_3_code (2 : Nat) (Option.some Jvm.ClassFile.FieldType.int)) ∈ tB := tB_2 90 rfl rfl
theorem tw_331 : (Jvm.Cond.methodLink "NotePressLaw" (23 : Nat) ({ cls := "NotePress", name := "fault", desc := "()I" } : Jvm.MethodName)) ∈ tB := tB_2 91 rfl rfl
theorem tw_332 : (Jvm.Cond.instanceMethod ({ cls := "NotePress", name := "fault", desc := "()I" } : Jvm.MethodName)) ∈ tB := tB_2 92 rfl rfl
theorem tw_333 : (Jvm.Cond.selects "NotePress" ({ cls := "NotePress", name := "fault", desc := "()I" } : Jvm.MethodName) ({ cls := "NotePress", name := "fault", desc := "()I" } : Jvm.MethodName)) ∈ tB := tB_2 93 rfl rfl
theorem tw_334 : (Jvm.Cond.code ({ cls := "NotePress", name := "fault", desc := "()I" } : Jvm.MethodName) prog_1_method_4_code (1 : Nat) (Option.some Jvm.ClassFile.FieldType.int)) ∈ tB := tB_2 94 rfl rfl
theorem tw_335 : (Jvm.Cond.methodLink "NotePressLaw" (27 : Nat) ({ cls := "NotePress", name := "lay", desc := "()I" } : Jvm.MethodName)) ∈ tB := tB_2 95 rfl rfl
theorem tw_336 : (Jvm.Cond.instanceMethod ({ cls := "NotePress", name := "lay", desc := "()I" } : Jvm.MethodName)) ∈ tB := tB_2 96 rfl rfl
theorem tw_337 : (Jvm.Cond.selects "NotePress" ({ cls := "NotePress", name := "lay", desc := "()I" } : Jvm.MethodName) ({ cls := "NotePress", name := "lay", desc := "()I" } : Jvm.MethodName)) ∈ tB := tB_2 97 rfl rfl
theorem tw_338 : (Jvm.Cond.code ({ cls := "NotePress", name := "lay", desc := "()I" } : Jvm.MethodName) prog_1_method_5_code (1 : Nat) (Option.some Jvm.ClassFile.FieldType.int)) ∈ tB := tB_2 98 rfl rfl
theorem tw_339 : (Jvm.Cond.methodLink "NotePressLaw" (31 : Nat) ({ cls := "NotePress", name := "run", desc := "(III)I" } : Jvm.MethodName)) ∈ tB := tB_2 99 rfl rfl
theorem tw_340 : (Jvm.Cond.instanceMethod ({ cls := "NotePress", name := "run", desc := "(III)I" } : Jvm.MethodName)) ∈ tB := tB_2 100 rfl rfl
theorem tw_341 : (Jvm.Cond.selects "NotePress" ({ cls := "NotePress", name := "run", desc := "(III)I" } : Jvm.MethodName) ({ cls := "NotePress", name := "run", desc := "(III)I" } : Jvm.MethodName)) ∈ tB := tB_2 101 rfl rfl
theorem tw_342 : (Jvm.Cond.code ({ cls := "NotePress", name := "run", desc := "(III)I" } : Jvm.MethodName) prog_1_method_6_code (5 : Nat) (Option.some Jvm.ClassFile.FieldType.int)) ∈ tB := tB_2 102 rfl rfl
theorem tw_343 : (Jvm.Cond.methodLink "NotePress" (77 : Nat) ({ cls := "NotePress$Plan", name := "shareAt", desc := "(II)LNotePress$Share;" } : Jvm.MethodName)) ∈ tB := tB_2 103 rfl rfl
theorem tw_344 : (Jvm.Cond.instanceMethod ({ cls := "NotePress$Plan", name := "shareAt", desc := "(II)LNotePress$Share;" } : Jvm.MethodName)) ∈ tB := tB_2 104 rfl rfl
theorem tw_345 : (Jvm.Cond.selects "NotePress$Plan" ({ cls := "NotePress$Plan", name := "shareAt", desc := "(II)LNotePress$Share;" } : Jvm.MethodName) ({ cls := "NotePress$Plan", name := "shareAt", desc := "(II)LNotePress$Share;" } : Jvm.MethodName)) ∈ tB := tB_2 105 rfl rfl
theorem tw_346 : (Jvm.Cond.code ({ cls := "NotePress$Plan", name := "shareAt", desc := "(II)LNotePress$Share;" } : Jvm.MethodName) prog_4_method_7_code (4 : Nat) (Option.some (Jvm.ClassFile.FieldType.object "NotePress$Share"))) ∈ tB := tB_2 106 rfl rfl
theorem tw_347 : (Jvm.Cond.methodLink "NotePress$Plan" (36 : Nat) ({ cls := "NotePress$Plan", name := "seriesAt", desc := "(I)LNotePress$Series;" } : Jvm.MethodName)) ∈ tB := tB_2 107 rfl rfl
theorem tw_348 : (Jvm.Cond.instanceMethod ({ cls := "NotePress$Plan", name := "seriesAt", desc := "(I)LNotePress$Series;" } : Jvm.MethodName)) ∈ tB := tB_2 108 rfl rfl
theorem tw_349 : (Jvm.Cond.selects "NotePress$Plan" ({ cls := "NotePress$Plan", name := "seriesAt", desc := "(I)LNotePress$Series;" } : Jvm.MethodName) ({ cls := "NotePress$Plan", name := "seriesAt", desc := "(I)LNotePress$Series;" } : Jvm.MethodName)) ∈ tB := tB_2 109 rfl rfl
theorem tw_350 : (Jvm.Cond.code ({ cls := "NotePress$Plan", name := "seriesAt", desc := "(I)LNotePress$Series;" } : Jvm.MethodName) prog_4_method_6_code (2 : Nat) (Option.some (Jvm.ClassFile.FieldType.object "NotePress$Series"))) ∈ tB := tB_2 110 rfl rfl
theorem tw_352 : (Jvm.Cond.methodLink "NotePress$Plan" (40 : Nat) ({ cls := "NotePress$Series", name := "shareAt", desc := "(I)LNotePress$Share;" } : Jvm.MethodName)) ∈ tB := tB_2 112 rfl rfl
theorem tw_353 : (Jvm.Cond.instanceMethod ({ cls := "NotePress$Series", name := "shareAt", desc := "(I)LNotePress$Share;" } : Jvm.MethodName)) ∈ tB := tB_2 113 rfl rfl
theorem tw_354 : (Jvm.Cond.selects "NotePress$Series" ({ cls := "NotePress$Series", name := "shareAt", desc := "(I)LNotePress$Share;" } : Jvm.MethodName) ({ cls := "NotePress$Series", name := "shareAt", desc := "(I)LNotePress$Share;" } : Jvm.MethodName)) ∈ tB := tB_2 114 rfl rfl
theorem tw_355 : (Jvm.Cond.code ({ cls := "NotePress$Series", name := "shareAt", desc := "(I)LNotePress$Share;" } : Jvm.MethodName) prog_5_method_4_code (2 : Nat) (Option.some (Jvm.ClassFile.FieldType.object "NotePress$Share"))) ∈ tB := tB_2 115 rfl rfl
theorem tw_357 : (Jvm.Cond.methodLink "NotePress" (81 : Nat) ({ cls := "NotePress$Share", name := "sheetsLeft", desc := "()I" } : Jvm.MethodName)) ∈ tB := tB_2 117 rfl rfl
theorem tw_358 : (Jvm.Cond.instanceMethod ({ cls := "NotePress$Share", name := "sheetsLeft", desc := "()I" } : Jvm.MethodName)) ∈ tB := tB_2 118 rfl rfl
theorem tw_359 : (Jvm.Cond.selects "NotePress$Share" ({ cls := "NotePress$Share", name := "sheetsLeft", desc := "()I" } : Jvm.MethodName) ({ cls := "NotePress$Share", name := "sheetsLeft", desc := "()I" } : Jvm.MethodName)) ∈ tB := tB_2 119 rfl rfl
theorem tw_360 : (Jvm.Cond.code ({ cls := "NotePress$Share", name := "sheetsLeft", desc := "()I" } : Jvm.MethodName) prog_6_method_3_code (1 : Nat) (Option.some Jvm.ClassFile.FieldType.int)) ∈ tB := tB_2 120 rfl rfl
theorem tw_361 : (Jvm.Cond.methodLink "NotePress" (89 : Nat) ({ cls := "NotePress$Changes", name := "rememberRun", desc := "(LNotePress$Share;I)V" } : Jvm.MethodName)) ∈ tB := tB_2 121 rfl rfl
theorem tw_362 : (Jvm.Cond.instanceMethod ({ cls := "NotePress$Changes", name := "rememberRun", desc := "(LNotePress$Share;I)V" } : Jvm.MethodName)) ∈ tB := tB_2 122 rfl rfl
theorem tw_363 : (Jvm.Cond.selects "NotePress$Changes" ({ cls := "NotePress$Changes", name := "rememberRun", desc := "(LNotePress$Share;I)V" } : Jvm.MethodName) ({ cls := "NotePress$Changes", name := "rememberRun", desc := "(LNotePress$Share;I)V" } : Jvm.MethodName)) ∈ tB := tB_2 123 rfl rfl
theorem tw_364 : (Jvm.Cond.code ({ cls := "NotePress$Changes", name := "rememberRun", desc := "(LNotePress$Share;I)V" } : Jvm.MethodName) prog_2_method_3_code (3 : Nat) (Option.none : Option Jvm.ClassFile.FieldType)) ∈ tB := tB_2 124 rfl rfl
theorem tw_365 : (Jvm.Cond.methodLink "NotePress$Changes" (25 : Nat) ({ cls := "NotePress$Changes", name := "remember", desc := "(LNotePress$Share;I)V" } : Jvm.MethodName)) ∈ tB := tB_2 125 rfl rfl
theorem tw_367 : (Jvm.Cond.instanceMethod ({ cls := "NotePress$Changes", name := "remember", desc := "(LNotePress$Share;I)V" } : Jvm.MethodName)) ∈ tB := tB_2 127 rfl rfl
theorem tw_368 : (Jvm.Cond.code ({ cls := "NotePress$Changes", name := "remember", desc := "(LNotePress$Share;I)V" } : Jvm.MethodName) prog_2_method_5_code (3 : Nat) (Option.none : Option Jvm.ClassFile.FieldType)) ∈ tB := tB_2 128 rfl rfl
theorem tw_369 : (Jvm.Cond.methodLink "NotePress$Changes" (29 : Nat) ({ cls := "NotePress$Changes", name := "forgetOldest", desc := "()V" } : Jvm.MethodName)) ∈ tB := tB_2 129 rfl rfl
theorem tw_371 : (Jvm.Cond.instanceMethod ({ cls := "NotePress$Changes", name := "forgetOldest", desc := "()V" } : Jvm.MethodName)) ∈ tB := tB_2 131 rfl rfl
theorem tw_372 : (Jvm.Cond.code ({ cls := "NotePress$Changes", name := "forgetOldest", desc := "()V" } : Jvm.MethodName) prog_2_method_6_code (2 : Nat) (Option.none : Option Jvm.ClassFile.FieldType)) ∈ tB := tB_2 132 rfl rfl
theorem tw_373 : (Jvm.Cond.methodLink "NotePressLaw" (36 : Nat) ({ cls := "NotePress", name := "spoil", desc := "(II)I" } : Jvm.MethodName)) ∈ tB := tB_2 133 rfl rfl
theorem tw_374 : (Jvm.Cond.instanceMethod ({ cls := "NotePress", name := "spoil", desc := "(II)I" } : Jvm.MethodName)) ∈ tB := tB_2 134 rfl rfl
theorem tw_375 : (Jvm.Cond.selects "NotePress" ({ cls := "NotePress", name := "spoil", desc := "(II)I" } : Jvm.MethodName) ({ cls := "NotePress", name := "spoil", desc := "(II)I" } : Jvm.MethodName)) ∈ tB := tB_2 135 rfl rfl
theorem tw_376 : (Jvm.Cond.code ({ cls := "NotePress", name := "spoil", desc := "(II)I" } : Jvm.MethodName) prog_1_method_7_code (4 : Nat) (Option.some Jvm.ClassFile.FieldType.int)) ∈ tB := tB_2 136 rfl rfl
theorem tw_377 : (Jvm.Cond.methodLink "NotePress" (96 : Nat) ({ cls := "NotePress$Plan", name := "seriesAt", desc := "(I)LNotePress$Series;" } : Jvm.MethodName)) ∈ tB := tB_2 137 rfl rfl
theorem tw_378 : (Jvm.Cond.methodLink "NotePress" (100 : Nat) ({ cls := "NotePress$Series", name := "hasNumber", desc := "(I)Z" } : Jvm.MethodName)) ∈ tB := tB_2 138 rfl rfl
theorem tw_379 : (Jvm.Cond.instanceMethod ({ cls := "NotePress$Series", name := "hasNumber", desc := "(I)Z" } : Jvm.MethodName)) ∈ tB := tB_2 139 rfl rfl
theorem tw_380 : (Jvm.Cond.selects "NotePress$Series" ({ cls := "NotePress$Series", name := "hasNumber", desc := "(I)Z" } : Jvm.MethodName) ({ cls := "NotePress$Series", name := "hasNumber", desc := "(I)Z" } : Jvm.MethodName)) ∈ tB := tB_2 140 rfl rfl
theorem tw_381 : (Jvm.Cond.code ({ cls := "NotePress$Series", name := "hasNumber", desc := "(I)Z" } : Jvm.MethodName) prog_5_method_5_code (2 : Nat) (Option.some Jvm.ClassFile.FieldType.boolean)) ∈ tB := tB_2 141 rfl rfl
theorem tw_382 : (Jvm.Cond.methodLink "NotePress" (105 : Nat) ({ cls := "NotePress$Series", name := "isPrinted", desc := "(I)Z" } : Jvm.MethodName)) ∈ tB := tB_2 142 rfl rfl
theorem tw_383 : (Jvm.Cond.instanceMethod ({ cls := "NotePress$Series", name := "isPrinted", desc := "(I)Z" } : Jvm.MethodName)) ∈ tB := tB_2 143 rfl rfl
theorem tw_384 : (Jvm.Cond.selects "NotePress$Series" ({ cls := "NotePress$Series", name := "isPrinted", desc := "(I)Z" } : Jvm.MethodName) ({ cls := "NotePress$Series", name := "isPrinted", desc := "(I)Z" } : Jvm.MethodName)) ∈ tB := tB_2 144 rfl rfl
theorem tw_385 : (Jvm.Cond.code ({ cls := "NotePress$Series", name := "isPrinted", desc := "(I)Z" } : Jvm.MethodName) prog_5_method_7_code (3 : Nat) (Option.some Jvm.ClassFile.FieldType.boolean)) ∈ tB := tB_2 145 rfl rfl
theorem tw_386 : (Jvm.Cond.methodLink "NotePress$Series" (43 : Nat) ({ cls := "NotePress$Series", name := "pressOf", desc := "(I)I" } : Jvm.MethodName)) ∈ tB := tB_2 146 rfl rfl
theorem tw_387 : (Jvm.Cond.instanceMethod ({ cls := "NotePress$Series", name := "pressOf", desc := "(I)I" } : Jvm.MethodName)) ∈ tB := tB_2 147 rfl rfl
theorem tw_388 : (Jvm.Cond.selects "NotePress$Series" ({ cls := "NotePress$Series", name := "pressOf", desc := "(I)I" } : Jvm.MethodName) ({ cls := "NotePress$Series", name := "pressOf", desc := "(I)I" } : Jvm.MethodName)) ∈ tB := tB_2 148 rfl rfl
theorem tw_389 : (Jvm.Cond.code ({ cls := "NotePress$Series", name := "pressOf", desc := "(I)I" } : Jvm.MethodName) prog_5_method_6_code (3 : Nat) (Option.some Jvm.ClassFile.FieldType.int)) ∈ tB := tB_2 149 rfl rfl
theorem tw_390 : (Jvm.Cond.methodLink "NotePress$Series" (39 : Nat) ({ cls := "NotePress$Share", name := "hasNumber", desc := "(I)Z" } : Jvm.MethodName)) ∈ tB := tB_2 150 rfl rfl
theorem tw_391 : (Jvm.Cond.instanceMethod ({ cls := "NotePress$Share", name := "hasNumber", desc := "(I)Z" } : Jvm.MethodName)) ∈ tB := tB_2 151 rfl rfl
theorem tw_392 : (Jvm.Cond.selects "NotePress$Share" ({ cls := "NotePress$Share", name := "hasNumber", desc := "(I)Z" } : Jvm.MethodName) ({ cls := "NotePress$Share", name := "hasNumber", desc := "(I)Z" } : Jvm.MethodName)) ∈ tB := tB_2 152 rfl rfl
theorem tw_393 : (Jvm.Cond.code ({ cls := "NotePress$Share", name := "hasNumber", desc := "(I)Z" } : Jvm.MethodName) prog_6_method_5_code (2 : Nat) (Option.some Jvm.ClassFile.FieldType.boolean)) ∈ tB := tB_2 153 rfl rfl
theorem tw_394 : (Jvm.Cond.methodLink "NotePress$Series" (47 : Nat) ({ cls := "NotePress$Series", name := "shareAt", desc := "(I)LNotePress$Share;" } : Jvm.MethodName)) ∈ tB := tB_2 154 rfl rfl
theorem tw_395 : (Jvm.Cond.methodLink "NotePress$Series" (51 : Nat) ({ cls := "NotePress$Share", name := "sheetOf", desc := "(I)I" } : Jvm.MethodName)) ∈ tB := tB_2 155 rfl rfl
theorem tw_396 : (Jvm.Cond.instanceMethod ({ cls := "NotePress$Share", name := "sheetOf", desc := "(I)I" } : Jvm.MethodName)) ∈ tB := tB_2 156 rfl rfl
theorem tw_397 : (Jvm.Cond.selects "NotePress$Share" ({ cls := "NotePress$Share", name := "sheetOf", desc := "(I)I" } : Jvm.MethodName) ({ cls := "NotePress$Share", name := "sheetOf", desc := "(I)I" } : Jvm.MethodName)) ∈ tB := tB_2 157 rfl rfl
theorem tw_398 : (Jvm.Cond.code ({ cls := "NotePress$Share", name := "sheetOf", desc := "(I)I" } : Jvm.MethodName) prog_6_method_7_code (2 : Nat) (Option.some Jvm.ClassFile.FieldType.int)) ∈ tB := tB_2 158 rfl rfl
theorem tw_399 : (Jvm.Cond.methodLink "NotePress" (108 : Nat) ({ cls := "NotePress$Stars", name := "standsFor", desc := "(II)Z" } : Jvm.MethodName)) ∈ tB := tB_2 159 rfl rfl
theorem tw_400 : (Jvm.Cond.instanceMethod ({ cls := "NotePress$Stars", name := "standsFor", desc := "(II)Z" } : Jvm.MethodName)) ∈ tB := tB_2 160 rfl rfl
theorem tw_401 : (Jvm.Cond.selects "NotePress$Stars" ({ cls := "NotePress$Stars", name := "standsFor", desc := "(II)Z" } : Jvm.MethodName) ({ cls := "NotePress$Stars", name := "standsFor", desc := "(II)Z" } : Jvm.MethodName)) ∈ tB := tB_2 161 rfl rfl
theorem tw_402 : (Jvm.Cond.code ({ cls := "NotePress$Stars", name := "standsFor", desc := "(II)Z" } : Jvm.MethodName) prog_7_method_9_code (3 : Nat) (Option.some Jvm.ClassFile.FieldType.boolean)) ∈ tB := tB_2 162 rfl rfl
theorem tw_403 : (Jvm.Cond.methodLink "NotePress$Stars" (38 : Nat) ({ cls := "NotePress$Stars", name := "standingFor", desc := "(II)I" } : Jvm.MethodName)) ∈ tB := tB_2 163 rfl rfl
theorem tw_404 : (Jvm.Cond.instanceMethod ({ cls := "NotePress$Stars", name := "standingFor", desc := "(II)I" } : Jvm.MethodName)) ∈ tB := tB_2 164 rfl rfl
theorem tw_405 : (Jvm.Cond.selects "NotePress$Stars" ({ cls := "NotePress$Stars", name := "standingFor", desc := "(II)I" } : Jvm.MethodName) ({ cls := "NotePress$Stars", name := "standingFor", desc := "(II)I" } : Jvm.MethodName)) ∈ tB := tB_2 165 rfl rfl
theorem tw_406 : (Jvm.Cond.code ({ cls := "NotePress$Stars", name := "standingFor", desc := "(II)I" } : Jvm.MethodName) prog_7_method_8_code (4 : Nat) (Option.some Jvm.ClassFile.FieldType.int)) ∈ tB := tB_2 166 rfl rfl
theorem tw_407 : (Jvm.Cond.methodLink "NotePress" (112 : Nat) ({ cls := "NotePress$Stars", name := "left", desc := "()I" } : Jvm.MethodName)) ∈ tB := tB_2 167 rfl rfl
theorem tw_408 : (Jvm.Cond.instanceMethod ({ cls := "NotePress$Stars", name := "left", desc := "()I" } : Jvm.MethodName)) ∈ tB := tB_2 168 rfl rfl
theorem tw_409 : (Jvm.Cond.selects "NotePress$Stars" ({ cls := "NotePress$Stars", name := "left", desc := "()I" } : Jvm.MethodName) ({ cls := "NotePress$Stars", name := "left", desc := "()I" } : Jvm.MethodName)) ∈ tB := tB_2 169 rfl rfl
theorem tw_410 : (Jvm.Cond.code ({ cls := "NotePress$Stars", name := "left", desc := "()I" } : Jvm.MethodName) prog_7_method_3_code (1 : Nat) (Option.some Jvm.ClassFile.FieldType.int)) ∈ tB := tB_2 170 rfl rfl
theorem tw_411 : (Jvm.Cond.methodLink "NotePress" (115 : Nat) ({ cls := "NotePress$Stars", name := "standFor", desc := "(II)V" } : Jvm.MethodName)) ∈ tB := tB_2 171 rfl rfl
theorem tw_412 : (Jvm.Cond.instanceMethod ({ cls := "NotePress$Stars", name := "standFor", desc := "(II)V" } : Jvm.MethodName)) ∈ tB := tB_2 172 rfl rfl
theorem tw_413 : (Jvm.Cond.selects "NotePress$Stars" ({ cls := "NotePress$Stars", name := "standFor", desc := "(II)V" } : Jvm.MethodName) ({ cls := "NotePress$Stars", name := "standFor", desc := "(II)V" } : Jvm.MethodName)) ∈ tB := tB_2 173 rfl rfl
theorem tw_414 : (Jvm.Cond.code ({ cls := "NotePress$Stars", name := "standFor", desc := "(II)V" } : Jvm.MethodName) prog_7_method_4_code (3 : Nat) (Option.none : Option Jvm.ClassFile.FieldType)) ∈ tB := tB_2 174 rfl rfl
theorem tw_415 : (Jvm.Cond.methodLink "NotePress" (119 : Nat) ({ cls := "NotePress$Changes", name := "rememberSpoiled", desc := "(I)V" } : Jvm.MethodName)) ∈ tB := tB_2 175 rfl rfl
theorem tw_416 : (Jvm.Cond.instanceMethod ({ cls := "NotePress$Changes", name := "rememberSpoiled", desc := "(I)V" } : Jvm.MethodName)) ∈ tB := tB_2 176 rfl rfl
theorem tw_417 : (Jvm.Cond.selects "NotePress$Changes" ({ cls := "NotePress$Changes", name := "rememberSpoiled", desc := "(I)V" } : Jvm.MethodName) ({ cls := "NotePress$Changes", name := "rememberSpoiled", desc := "(I)V" } : Jvm.MethodName)) ∈ tB := tB_2 177 rfl rfl
theorem tw_418 : (Jvm.Cond.code ({ cls := "NotePress$Changes", name := "rememberSpoiled", desc := "(I)V" } : Jvm.MethodName) prog_2_method_4_code (2 : Nat) (Option.none : Option Jvm.ClassFile.FieldType)) ∈ tB := tB_2 178 rfl rfl
theorem tw_419 : (Jvm.Cond.methodLink "NotePressLaw" (41 : Nat) ({ cls := "NotePress", name := "spoilSheet", desc := "(III)I" } : Jvm.MethodName)) ∈ tB := tB_2 179 rfl rfl
theorem tw_420 : (Jvm.Cond.instanceMethod ({ cls := "NotePress", name := "spoilSheet", desc := "(III)I" } : Jvm.MethodName)) ∈ tB := tB_2 180 rfl rfl
theorem tw_421 : (Jvm.Cond.selects "NotePress" ({ cls := "NotePress", name := "spoilSheet", desc := "(III)I" } : Jvm.MethodName) ({ cls := "NotePress", name := "spoilSheet", desc := "(III)I" } : Jvm.MethodName)) ∈ tB := tB_2 181 rfl rfl
theorem tw_422 : (Jvm.Cond.code ({ cls := "NotePress", name := "spoilSheet", desc := "(III)I" } : Jvm.MethodName) prog_1_method_8_code (8 : Nat) (Option.some Jvm.ClassFile.FieldType.int)) ∈ tB := tB_2 182 rfl rfl
theorem tw_423 : (Jvm.Cond.methodLink "NotePress" (126 : Nat) ({ cls := "NotePress$Share", name := "hasSheet", desc := "(I)Z" } : Jvm.MethodName)) ∈ tB := tB_2 183 rfl rfl
theorem tw_424 : (Jvm.Cond.instanceMethod ({ cls := "NotePress$Share", name := "hasSheet", desc := "(I)Z" } : Jvm.MethodName)) ∈ tB := tB_2 184 rfl rfl
theorem tw_425 : (Jvm.Cond.selects "NotePress$Share" ({ cls := "NotePress$Share", name := "hasSheet", desc := "(I)Z" } : Jvm.MethodName) ({ cls := "NotePress$Share", name := "hasSheet", desc := "(I)Z" } : Jvm.MethodName)) ∈ tB := tB_2 185 rfl rfl
theorem tw_426 : (Jvm.Cond.code ({ cls := "NotePress$Share", name := "hasSheet", desc := "(I)Z" } : Jvm.MethodName) prog_6_method_4_code (2 : Nat) (Option.some Jvm.ClassFile.FieldType.boolean)) ∈ tB := tB_2 186 rfl rfl
theorem tw_428 : (Jvm.Cond.methodLink "NotePress" (129 : Nat) ({ cls := "NotePress", name := "unspoiledOfSheet", desc := "(ILNotePress$Share;I)I" } : Jvm.MethodName)) ∈ tB := tB_2 188 rfl rfl
theorem tw_430 : (Jvm.Cond.instanceMethod ({ cls := "NotePress", name := "unspoiledOfSheet", desc := "(ILNotePress$Share;I)I" } : Jvm.MethodName)) ∈ tB := tB_2 190 rfl rfl
theorem tw_431 : (Jvm.Cond.code ({ cls := "NotePress", name := "unspoiledOfSheet", desc := "(ILNotePress$Share;I)I" } : Jvm.MethodName) prog_1_method_24_code (6 : Nat) (Option.some Jvm.ClassFile.FieldType.int)) ∈ tB := tB_2 191 rfl rfl
theorem tw_432 : (Jvm.Cond.methodLink "NotePress" (133 : Nat) ({ cls := "NotePress$Share", name := "numberAt", desc := "(II)I" } : Jvm.MethodName)) ∈ tB := tB_2 192 rfl rfl
theorem tw_433 : (Jvm.Cond.instanceMethod ({ cls := "NotePress$Share", name := "numberAt", desc := "(II)I" } : Jvm.MethodName)) ∈ tB := tB_2 193 rfl rfl
theorem tw_434 : (Jvm.Cond.selects "NotePress$Share" ({ cls := "NotePress$Share", name := "numberAt", desc := "(II)I" } : Jvm.MethodName) ({ cls := "NotePress$Share", name := "numberAt", desc := "(II)I" } : Jvm.MethodName)) ∈ tB := tB_2 194 rfl rfl
theorem tw_435 : (Jvm.Cond.code ({ cls := "NotePress$Share", name := "numberAt", desc := "(II)I" } : Jvm.MethodName) prog_6_method_6_code (3 : Nat) (Option.some Jvm.ClassFile.FieldType.int)) ∈ tB := tB_2 195 rfl rfl
theorem tw_436 : (Jvm.Cond.methodLink "NotePressLaw" (45 : Nat) ({ cls := "NotePress", name := "undo", desc := "()I" } : Jvm.MethodName)) ∈ tB := tB_2 196 rfl rfl
theorem tw_437 : (Jvm.Cond.instanceMethod ({ cls := "NotePress", name := "undo", desc := "()I" } : Jvm.MethodName)) ∈ tB := tB_2 197 rfl rfl
theorem tw_438 : (Jvm.Cond.selects "NotePress" ({ cls := "NotePress", name := "undo", desc := "()I" } : Jvm.MethodName) ({ cls := "NotePress", name := "undo", desc := "()I" } : Jvm.MethodName)) ∈ tB := tB_2 198 rfl rfl
theorem tw_439 : (Jvm.Cond.code ({ cls := "NotePress", name := "undo", desc := "()I" } : Jvm.MethodName) prog_1_method_9_code (3 : Nat) (Option.some Jvm.ClassFile.FieldType.int)) ∈ tB := tB_2 199 rfl rfl
theorem tw_440 : (Jvm.Cond.methodLink "NotePress" (140 : Nat) ({ cls := "NotePress$Changes", name := "latestShare", desc := "()LNotePress$Share;" } : Jvm.MethodName)) ∈ tB := tB_2 200 rfl rfl
theorem tw_441 : (Jvm.Cond.instanceMethod ({ cls := "NotePress$Changes", name := "latestShare", desc := "()LNotePress$Share;" } : Jvm.MethodName)) ∈ tB := tB_2 201 rfl rfl
theorem tw_442 : (Jvm.Cond.selects "NotePress$Changes" ({ cls := "NotePress$Changes", name := "latestShare", desc := "()LNotePress$Share;" } : Jvm.MethodName) ({ cls := "NotePress$Changes", name := "latestShare", desc := "()LNotePress$Share;" } : Jvm.MethodName)) ∈ tB := tB_2 202 rfl rfl
theorem tw_443 : (Jvm.Cond.code ({ cls := "NotePress$Changes", name := "latestShare", desc := "()LNotePress$Share;" } : Jvm.MethodName) prog_2_method_7_code (1 : Nat) (Option.some (Jvm.ClassFile.FieldType.object "NotePress$Share"))) ∈ tB := tB_2 203 rfl rfl
theorem tw_444 : (Jvm.Cond.methodLink "NotePress" (144 : Nat) ({ cls := "NotePress$Changes", name := "latestAmount", desc := "()I" } : Jvm.MethodName)) ∈ tB := tB_2 204 rfl rfl
theorem tw_445 : (Jvm.Cond.instanceMethod ({ cls := "NotePress$Changes", name := "latestAmount", desc := "()I" } : Jvm.MethodName)) ∈ tB := tB_2 205 rfl rfl
theorem tw_446 : (Jvm.Cond.selects "NotePress$Changes" ({ cls := "NotePress$Changes", name := "latestAmount", desc := "()I" } : Jvm.MethodName) ({ cls := "NotePress$Changes", name := "latestAmount", desc := "()I" } : Jvm.MethodName)) ∈ tB := tB_2 206 rfl rfl
theorem tw_447 : (Jvm.Cond.code ({ cls := "NotePress$Changes", name := "latestAmount", desc := "()I" } : Jvm.MethodName) prog_2_method_8_code (1 : Nat) (Option.some Jvm.ClassFile.FieldType.int)) ∈ tB := tB_2 207 rfl rfl
theorem tw_448 : (Jvm.Cond.methodLink "NotePress" (147 : Nat) ({ cls := "NotePress$Stars", name := "takeBack", desc := "(I)V" } : Jvm.MethodName)) ∈ tB := tB_2 208 rfl rfl
theorem tw_449 : (Jvm.Cond.instanceMethod ({ cls := "NotePress$Stars", name := "takeBack", desc := "(I)V" } : Jvm.MethodName)) ∈ tB := tB_2 209 rfl rfl
theorem tw_450 : (Jvm.Cond.selects "NotePress$Stars" ({ cls := "NotePress$Stars", name := "takeBack", desc := "(I)V" } : Jvm.MethodName) ({ cls := "NotePress$Stars", name := "takeBack", desc := "(I)V" } : Jvm.MethodName)) ∈ tB := tB_2 210 rfl rfl
theorem tw_451 : (Jvm.Cond.code ({ cls := "NotePress$Stars", name := "takeBack", desc := "(I)V" } : Jvm.MethodName) prog_7_method_5_code (2 : Nat) (Option.none : Option Jvm.ClassFile.FieldType)) ∈ tB := tB_2 211 rfl rfl
theorem tw_452 : (Jvm.Cond.methodLink "NotePress$Stars" (31 : Nat) ({ cls := "java/lang/Math", name := "max", desc := "(II)I" } : Jvm.MethodName)) ∈ tB := tB_2 212 rfl rfl
theorem tw_453 : (Jvm.Cond.static ({ cls := "java/lang/Math", name := "max", desc := "(II)I" } : Jvm.MethodName)) ∈ tB := tB_2 213 rfl rfl
theorem tw_454 : (Jvm.Cond.code ({ cls := "java/lang/Math", name := "max", desc := "(II)I" } : Jvm.MethodName) prog_11_method_65_code (2 : Nat) (Option.some Jvm.ClassFile.FieldType.int)) ∈ tB := tB_2 214 rfl rfl
theorem tw_455 : (Jvm.Cond.methodLink "NotePress" (150 : Nat) ({ cls := "NotePress$Changes", name := "forgetLatest", desc := "()V" } : Jvm.MethodName)) ∈ tB := tB_2 215 rfl rfl
theorem tw_456 : (Jvm.Cond.instanceMethod ({ cls := "NotePress$Changes", name := "forgetLatest", desc := "()V" } : Jvm.MethodName)) ∈ tB := tB_2 216 rfl rfl
theorem tw_457 : (Jvm.Cond.selects "NotePress$Changes" ({ cls := "NotePress$Changes", name := "forgetLatest", desc := "()V" } : Jvm.MethodName) ({ cls := "NotePress$Changes", name := "forgetLatest", desc := "()V" } : Jvm.MethodName)) ∈ tB := tB_2 217 rfl rfl
theorem tw_458 : (Jvm.Cond.code ({ cls := "NotePress$Changes", name := "forgetLatest", desc := "()V" } : Jvm.MethodName) prog_2_method_9_code (1 : Nat) (Option.none : Option Jvm.ClassFile.FieldType)) ∈ tB := tB_2 218 rfl rfl
theorem tw_459 : (Jvm.Cond.methodLink "NotePress$Changes" (32 : Nat) ({ cls := "java/lang/Math", name := "max", desc := "(II)I" } : Jvm.MethodName)) ∈ tB := tB_2 219 rfl rfl
theorem tw_460 : (Jvm.Cond.methodLink "NotePressLaw" (49 : Nat) ({ cls := "NotePress", name := "series", desc := "(II)I" } : Jvm.MethodName)) ∈ tB := tB_2 220 rfl rfl
theorem tw_461 : (Jvm.Cond.instanceMethod ({ cls := "NotePress", name := "series", desc := "(II)I" } : Jvm.MethodName)) ∈ tB := tB_2 221 rfl rfl
theorem tw_462 : (Jvm.Cond.selects "NotePress" ({ cls := "NotePress", name := "series", desc := "(II)I" } : Jvm.MethodName) ({ cls := "NotePress", name := "series", desc := "(II)I" } : Jvm.MethodName)) ∈ tB := tB_2 222 rfl rfl
theorem tw_463 : (Jvm.Cond.code ({ cls := "NotePress", name := "series", desc := "(II)I" } : Jvm.MethodName) prog_1_method_10_code (4 : Nat) (Option.some Jvm.ClassFile.FieldType.int)) ∈ tB := tB_2 223 rfl rfl
theorem tw_464 : (Jvm.Cond.methodLink "NotePress" (162 : Nat) ({ cls := "NotePress$Series", name := "notesPrinted", desc := "()I" } : Jvm.MethodName)) ∈ tB := tB_2 224 rfl rfl
theorem tw_465 : (Jvm.Cond.instanceMethod ({ cls := "NotePress$Series", name := "notesPrinted", desc := "()I" } : Jvm.MethodName)) ∈ tB := tB_2 225 rfl rfl
theorem tw_466 : (Jvm.Cond.selects "NotePress$Series" ({ cls := "NotePress$Series", name := "notesPrinted", desc := "()I" } : Jvm.MethodName) ({ cls := "NotePress$Series", name := "notesPrinted", desc := "()I" } : Jvm.MethodName)) ∈ tB := tB_2 226 rfl rfl
theorem tw_467 : (Jvm.Cond.code ({ cls := "NotePress$Series", name := "notesPrinted", desc := "()I" } : Jvm.MethodName) prog_5_method_8_code (3 : Nat) (Option.some Jvm.ClassFile.FieldType.int)) ∈ tB := tB_2 227 rfl rfl
theorem tw_468 : (Jvm.Cond.methodLink "NotePress" (165 : Nat) ({ cls := "NotePress$Stars", name := "standingForSeries", desc := "(I)I" } : Jvm.MethodName)) ∈ tB := tB_2 228 rfl rfl
theorem tw_469 : (Jvm.Cond.instanceMethod ({ cls := "NotePress$Stars", name := "standingForSeries", desc := "(I)I" } : Jvm.MethodName)) ∈ tB := tB_2 229 rfl rfl
theorem tw_470 : (Jvm.Cond.selects "NotePress$Stars" ({ cls := "NotePress$Stars", name := "standingForSeries", desc := "(I)I" } : Jvm.MethodName) ({ cls := "NotePress$Stars", name := "standingForSeries", desc := "(I)I" } : Jvm.MethodName)) ∈ tB := tB_2 230 rfl rfl
theorem tw_471 : (Jvm.Cond.code ({ cls := "NotePress$Stars", name := "standingForSeries", desc := "(I)I" } : Jvm.MethodName) prog_7_method_10_code (4 : Nat) (Option.some Jvm.ClassFile.FieldType.int)) ∈ tB := tB_2 231 rfl rfl
theorem tw_472 : (Jvm.Cond.methodLink "NotePress" (169 : Nat) ({ cls := "NotePress$Series", name := "sheetsLeft", desc := "()I" } : Jvm.MethodName)) ∈ tB := tB_2 232 rfl rfl
theorem tw_473 : (Jvm.Cond.instanceMethod ({ cls := "NotePress$Series", name := "sheetsLeft", desc := "()I" } : Jvm.MethodName)) ∈ tB := tB_2 233 rfl rfl
theorem tw_474 : (Jvm.Cond.selects "NotePress$Series" ({ cls := "NotePress$Series", name := "sheetsLeft", desc := "()I" } : Jvm.MethodName) ({ cls := "NotePress$Series", name := "sheetsLeft", desc := "()I" } : Jvm.MethodName)) ∈ tB := tB_2 234 rfl rfl
theorem tw_475 : (Jvm.Cond.code ({ cls := "NotePress$Series", name := "sheetsLeft", desc := "()I" } : Jvm.MethodName) prog_5_method_10_code (3 : Nat) (Option.some Jvm.ClassFile.FieldType.int)) ∈ tB := tB_2 235 rfl rfl
theorem tw_476 : (Jvm.Cond.methodLink "NotePress$Series" (60 : Nat) ({ cls := "NotePress$Share", name := "sheetsLeft", desc := "()I" } : Jvm.MethodName)) ∈ tB := tB_2 236 rfl rfl
theorem tw_477 : (Jvm.Cond.methodLink "NotePress" (170 : Nat) ({ cls := "NotePress$Series", name := "packs", desc := "()I" } : Jvm.MethodName)) ∈ tB := tB_2 237 rfl rfl
theorem tw_478 : (Jvm.Cond.instanceMethod ({ cls := "NotePress$Series", name := "packs", desc := "()I" } : Jvm.MethodName)) ∈ tB := tB_2 238 rfl rfl
theorem tw_479 : (Jvm.Cond.selects "NotePress$Series" ({ cls := "NotePress$Series", name := "packs", desc := "()I" } : Jvm.MethodName) ({ cls := "NotePress$Series", name := "packs", desc := "()I" } : Jvm.MethodName)) ∈ tB := tB_2 239 rfl rfl
theorem tw_480 : (Jvm.Cond.code ({ cls := "NotePress$Series", name := "packs", desc := "()I" } : Jvm.MethodName) prog_5_method_11_code (1 : Nat) (Option.some Jvm.ClassFile.FieldType.int)) ∈ tB := tB_3 0 rfl rfl
theorem tw_481 : (Jvm.Cond.methodLink "NotePress" (173 : Nat) ({ cls := "NotePress$Series", name := "wholePacks", desc := "()I" } : Jvm.MethodName)) ∈ tB := tB_3 1 rfl rfl
theorem tw_482 : (Jvm.Cond.instanceMethod ({ cls := "NotePress$Series", name := "wholePacks", desc := "()I" } : Jvm.MethodName)) ∈ tB := tB_3 2 rfl rfl
theorem tw_483 : (Jvm.Cond.selects "NotePress$Series" ({ cls := "NotePress$Series", name := "wholePacks", desc := "()I" } : Jvm.MethodName) ({ cls := "NotePress$Series", name := "wholePacks", desc := "()I" } : Jvm.MethodName)) ∈ tB := tB_3 3 rfl rfl
theorem tw_484 : (Jvm.Cond.code ({ cls := "NotePress$Series", name := "wholePacks", desc := "()I" } : Jvm.MethodName) prog_5_method_13_code (3 : Nat) (Option.some Jvm.ClassFile.FieldType.int)) ∈ tB := tB_3 4 rfl rfl
theorem tw_485 : (Jvm.Cond.methodLink "NotePress$Series" (73 : Nat) ({ cls := "NotePress$Series", name := "packs", desc := "()I" } : Jvm.MethodName)) ∈ tB := tB_3 5 rfl rfl
theorem tw_486 : (Jvm.Cond.methodLink "NotePress$Series" (76 : Nat) ({ cls := "NotePress$Series", name := "isWhole", desc := "(I)Z" } : Jvm.MethodName)) ∈ tB := tB_3 6 rfl rfl
theorem tw_487 : (Jvm.Cond.instanceMethod ({ cls := "NotePress$Series", name := "isWhole", desc := "(I)Z" } : Jvm.MethodName)) ∈ tB := tB_3 7 rfl rfl
theorem tw_488 : (Jvm.Cond.selects "NotePress$Series" ({ cls := "NotePress$Series", name := "isWhole", desc := "(I)Z" } : Jvm.MethodName) ({ cls := "NotePress$Series", name := "isWhole", desc := "(I)Z" } : Jvm.MethodName)) ∈ tB := tB_3 8 rfl rfl
theorem tw_489 : (Jvm.Cond.code ({ cls := "NotePress$Series", name := "isWhole", desc := "(I)Z" } : Jvm.MethodName) prog_5_method_12_code (4 : Nat) (Option.some Jvm.ClassFile.FieldType.boolean)) ∈ tB := tB_3 9 rfl rfl
theorem tw_490 : (Jvm.Cond.methodLink "NotePress$Series" (64 : Nat) ({ cls := "java/lang/Math", name := "min", desc := "(II)I" } : Jvm.MethodName)) ∈ tB := tB_3 10 rfl rfl
theorem tw_491 : (Jvm.Cond.methodLink "NotePress$Series" (70 : Nat) ({ cls := "NotePress$Series", name := "isPrinted", desc := "(I)Z" } : Jvm.MethodName)) ∈ tB := tB_3 11 rfl rfl
theorem tw_492 : (Jvm.Cond.methodLink "NotePressLaw" (53 : Nat) ({ cls := "NotePress", name := "share", desc := "(III)I" } : Jvm.MethodName)) ∈ tB := tB_3 12 rfl rfl
theorem tw_493 : (Jvm.Cond.instanceMethod ({ cls := "NotePress", name := "share", desc := "(III)I" } : Jvm.MethodName)) ∈ tB := tB_3 13 rfl rfl
theorem tw_494 : (Jvm.Cond.selects "NotePress" ({ cls := "NotePress", name := "share", desc := "(III)I" } : Jvm.MethodName) ({ cls := "NotePress", name := "share", desc := "(III)I" } : Jvm.MethodName)) ∈ tB := tB_3 14 rfl rfl
theorem tw_495 : (Jvm.Cond.code ({ cls := "NotePress", name := "share", desc := "(III)I" } : Jvm.MethodName) prog_1_method_11_code (5 : Nat) (Option.some Jvm.ClassFile.FieldType.int)) ∈ tB := tB_3 15 rfl rfl
theorem tw_496 : (Jvm.Cond.methodLink "NotePressLaw" (57 : Nat) ({ cls := "NotePress", name := "where", desc := "(III)I" } : Jvm.MethodName)) ∈ tB := tB_3 16 rfl rfl
theorem tw_497 : (Jvm.Cond.instanceMethod ({ cls := "NotePress", name := "where", desc := "(III)I" } : Jvm.MethodName)) ∈ tB := tB_3 17 rfl rfl
theorem tw_498 : (Jvm.Cond.selects "NotePress" ({ cls := "NotePress", name := "where", desc := "(III)I" } : Jvm.MethodName) ({ cls := "NotePress", name := "where", desc := "(III)I" } : Jvm.MethodName)) ∈ tB := tB_3 18 rfl rfl
theorem tw_499 : (Jvm.Cond.code ({ cls := "NotePress", name := "where", desc := "(III)I" } : Jvm.MethodName) prog_1_method_12_code (7 : Nat) (Option.some Jvm.ClassFile.FieldType.int)) ∈ tB := tB_3 19 rfl rfl
theorem tw_500 : (Jvm.Cond.methodLink "NotePress" (182 : Nat) ({ cls := "NotePress$Series", name := "pressOf", desc := "(I)I" } : Jvm.MethodName)) ∈ tB := tB_3 20 rfl rfl
theorem tw_501 : (Jvm.Cond.methodLink "NotePress" (185 : Nat) ({ cls := "NotePress$Series", name := "shareAt", desc := "(I)LNotePress$Share;" } : Jvm.MethodName)) ∈ tB := tB_3 21 rfl rfl
theorem tw_502 : (Jvm.Cond.methodLink "NotePress" (188 : Nat) ({ cls := "NotePress$Share", name := "sheetOf", desc := "(I)I" } : Jvm.MethodName)) ∈ tB := tB_3 22 rfl rfl
theorem tw_503 : (Jvm.Cond.methodLink "NotePress" (191 : Nat) ({ cls := "NotePress$Share", name := "placeOf", desc := "(I)I" } : Jvm.MethodName)) ∈ tB := tB_3 23 rfl rfl
theorem tw_504 : (Jvm.Cond.instanceMethod ({ cls := "NotePress$Share", name := "placeOf", desc := "(I)I" } : Jvm.MethodName)) ∈ tB := tB_3 24 rfl rfl
theorem tw_505 : (Jvm.Cond.selects "NotePress$Share" ({ cls := "NotePress$Share", name := "placeOf", desc := "(I)I" } : Jvm.MethodName) ({ cls := "NotePress$Share", name := "placeOf", desc := "(I)I" } : Jvm.MethodName)) ∈ tB := tB_3 25 rfl rfl
theorem tw_506 : (Jvm.Cond.code ({ cls := "NotePress$Share", name := "placeOf", desc := "(I)I" } : Jvm.MethodName) prog_6_method_8_code (2 : Nat) (Option.some Jvm.ClassFile.FieldType.int)) ∈ tB := tB_3 26 rfl rfl
theorem tw_507 : (Jvm.Cond.methodLink "NotePressLaw" (61 : Nat) ({ cls := "NotePress", name := "number", desc := "(IIII)I" } : Jvm.MethodName)) ∈ tB := tB_3 27 rfl rfl
theorem tw_508 : (Jvm.Cond.instanceMethod ({ cls := "NotePress", name := "number", desc := "(IIII)I" } : Jvm.MethodName)) ∈ tB := tB_3 28 rfl rfl
theorem tw_509 : (Jvm.Cond.selects "NotePress" ({ cls := "NotePress", name := "number", desc := "(IIII)I" } : Jvm.MethodName) ({ cls := "NotePress", name := "number", desc := "(IIII)I" } : Jvm.MethodName)) ∈ tB := tB_3 29 rfl rfl
theorem tw_510 : (Jvm.Cond.code ({ cls := "NotePress", name := "number", desc := "(IIII)I" } : Jvm.MethodName) prog_1_method_13_code (6 : Nat) (Option.some Jvm.ClassFile.FieldType.int)) ∈ tB := tB_3 30 rfl rfl
theorem tw_511 : (Jvm.Cond.methodLink "NotePressLaw" (66 : Nat) ({ cls := "NotePress", name := "check", desc := "(II)I" } : Jvm.MethodName)) ∈ tB := tB_3 31 rfl rfl
theorem tw_512 : (Jvm.Cond.instanceMethod ({ cls := "NotePress", name := "check", desc := "(II)I" } : Jvm.MethodName)) ∈ tB := tB_3 32 rfl rfl
theorem tw_513 : (Jvm.Cond.selects "NotePress" ({ cls := "NotePress", name := "check", desc := "(II)I" } : Jvm.MethodName) ({ cls := "NotePress", name := "check", desc := "(II)I" } : Jvm.MethodName)) ∈ tB := tB_3 33 rfl rfl
theorem tw_514 : (Jvm.Cond.code ({ cls := "NotePress", name := "check", desc := "(II)I" } : Jvm.MethodName) prog_1_method_14_code (4 : Nat) (Option.some Jvm.ClassFile.FieldType.int)) ∈ tB := tB_3 34 rfl rfl
theorem tw_515 : (Jvm.Cond.methodLink "NotePress" (194 : Nat) ({ cls := "NotePress$Checks", name := "ofNumber", desc := "(III)I" } : Jvm.MethodName)) ∈ tB := tB_3 35 rfl rfl
theorem tw_516 : (Jvm.Cond.static ({ cls := "NotePress$Checks", name := "ofNumber", desc := "(III)I" } : Jvm.MethodName)) ∈ tB := tB_3 36 rfl rfl
theorem tw_517 : (Jvm.Cond.code ({ cls := "NotePress$Checks", name := "ofNumber", desc := "(III)I" } : Jvm.MethodName) prog_3_method_2_code (3 : Nat) (Option.some Jvm.ClassFile.FieldType.int)) ∈ tB := tB_3 37 rfl rfl
theorem tw_518 : (Jvm.Cond.methodLink "NotePress$Checks" (7 : Nat) ({ cls := "NotePress$Checks", name := "ofFigures", desc := "(IIIII)I" } : Jvm.MethodName)) ∈ tB := tB_3 38 rfl rfl
theorem tw_519 : (Jvm.Cond.static ({ cls := "NotePress$Checks", name := "ofFigures", desc := "(IIIII)I" } : Jvm.MethodName)) ∈ tB := tB_3 39 rfl rfl
theorem tw_520 : (Jvm.Cond.code ({ cls := "NotePress$Checks", name := "ofFigures", desc := "(IIIII)I" } : Jvm.MethodName) prog_3_method_6_code (5 : Nat) (Option.some Jvm.ClassFile.FieldType.int)) ∈ tB := tB_3 40 rfl rfl
theorem tw_521 : (Jvm.Cond.methodLink "NotePress$Checks" (17 : Nat) ({ cls := "java/lang/Math", name := "floorMod", desc := "(II)I" } : Jvm.MethodName)) ∈ tB := tB_3 41 rfl rfl
theorem tw_522 : (Jvm.Cond.static ({ cls := "java/lang/Math", name := "floorMod", desc := "(II)I" } : Jvm.MethodName)) ∈ tB := tB_3 42 rfl rfl
theorem tw_523 : (Jvm.Cond.code ({ cls := "java/lang/Math", name := "floorMod", desc := "(II)I" } : Jvm.MethodName) prog_11_method_50_code (3 : Nat) (Option.some Jvm.ClassFile.FieldType.int)) ∈ tB := tB_3 43 rfl rfl
theorem tw_524 : (Jvm.Cond.methodLink "NotePress$Checks" (23 : Nat) ({ cls := "NotePress$Checks", name := "byTurns", desc := "(IIII)I" } : Jvm.MethodName)) ∈ tB := tB_3 44 rfl rfl
theorem tw_525 : (Jvm.Cond.static ({ cls := "NotePress$Checks", name := "byTurns", desc := "(IIII)I" } : Jvm.MethodName)) ∈ tB := tB_3 45 rfl rfl
theorem tw_526 : (Jvm.Cond.code ({ cls := "NotePress$Checks", name := "byTurns", desc := "(IIII)I" } : Jvm.MethodName) prog_3_method_7_code (5 : Nat) (Option.some Jvm.ClassFile.FieldType.int)) ∈ tB := tB_3 46 rfl rfl
theorem tw_527 : (Jvm.Cond.methodLink "NotePress$Checks" (27 : Nat) ({ cls := "NotePress$Checks", name := "turned", desc := "(II)I" } : Jvm.MethodName)) ∈ tB := tB_3 47 rfl rfl
theorem tw_528 : (Jvm.Cond.static ({ cls := "NotePress$Checks", name := "turned", desc := "(II)I" } : Jvm.MethodName)) ∈ tB := tB_3 48 rfl rfl
theorem tw_529 : (Jvm.Cond.code ({ cls := "NotePress$Checks", name := "turned", desc := "(II)I" } : Jvm.MethodName) prog_3_method_9_code (4 : Nat) (Option.some Jvm.ClassFile.FieldType.int)) ∈ tB := tB_3 49 rfl rfl
theorem tw_531 : (Jvm.Cond.fieldLink "NotePress$Checks" (39 : Nat) "NotePress$Checks" "TURNED" "[I") ∈ tB := tB_3 51 rfl rfl
theorem tw_533 : (Jvm.Cond.methodLink "NotePress$Checks" (30 : Nat) ({ cls := "NotePress$Checks", name := "make", desc := "(II)I" } : Jvm.MethodName)) ∈ tB := tB_3 53 rfl rfl
theorem tw_534 : (Jvm.Cond.static ({ cls := "NotePress$Checks", name := "make", desc := "(II)I" } : Jvm.MethodName)) ∈ tB := tB_3 54 rfl rfl
theorem tw_535 : (Jvm.Cond.code ({ cls := "NotePress$Checks", name := "make", desc := "(II)I" } : Jvm.MethodName) prog_3_method_8_code (3 : Nat) (Option.some Jvm.ClassFile.FieldType.int)) ∈ tB := tB_3 55 rfl rfl
theorem tw_536 : (Jvm.Cond.methodLink "NotePressLaw" (70 : Nat) ({ cls := "NotePress", name := "missed", desc := "(III)I" } : Jvm.MethodName)) ∈ tB := tB_3 56 rfl rfl
theorem tw_537 : (Jvm.Cond.instanceMethod ({ cls := "NotePress", name := "missed", desc := "(III)I" } : Jvm.MethodName)) ∈ tB := tB_3 57 rfl rfl
theorem tw_538 : (Jvm.Cond.selects "NotePress" ({ cls := "NotePress", name := "missed", desc := "(III)I" } : Jvm.MethodName) ({ cls := "NotePress", name := "missed", desc := "(III)I" } : Jvm.MethodName)) ∈ tB := tB_3 58 rfl rfl
theorem tw_539 : (Jvm.Cond.code ({ cls := "NotePress", name := "missed", desc := "(III)I" } : Jvm.MethodName) prog_1_method_15_code (5 : Nat) (Option.some Jvm.ClassFile.FieldType.int)) ∈ tB := tB_3 59 rfl rfl
theorem tw_540 : (Jvm.Cond.methodLink "NotePress" (200 : Nat) ({ cls := "NotePress$Checks", name := "missedFigures", desc := "(III)I" } : Jvm.MethodName)) ∈ tB := tB_3 60 rfl rfl
theorem tw_541 : (Jvm.Cond.static ({ cls := "NotePress$Checks", name := "missedFigures", desc := "(III)I" } : Jvm.MethodName)) ∈ tB := tB_3 61 rfl rfl
theorem tw_542 : (Jvm.Cond.code ({ cls := "NotePress$Checks", name := "missedFigures", desc := "(III)I" } : Jvm.MethodName) prog_3_method_4_code (9 : Nat) (Option.some Jvm.ClassFile.FieldType.int)) ∈ tB := tB_3 62 rfl rfl
theorem tw_543 : (Jvm.Cond.methodLink "NotePress" (203 : Nat) ({ cls := "NotePress$Checks", name := "missedSwaps", desc := "(III)I" } : Jvm.MethodName)) ∈ tB := tB_3 63 rfl rfl
theorem tw_544 : (Jvm.Cond.static ({ cls := "NotePress$Checks", name := "missedSwaps", desc := "(III)I" } : Jvm.MethodName)) ∈ tB := tB_3 64 rfl rfl
theorem tw_545 : (Jvm.Cond.code ({ cls := "NotePress$Checks", name := "missedSwaps", desc := "(III)I" } : Jvm.MethodName) prog_3_method_5_code (8 : Nat) (Option.some Jvm.ClassFile.FieldType.int)) ∈ tB := tB_3 65 rfl rfl
theorem tw_546 : (Jvm.Cond.methodLink "NotePressLaw" (74 : Nat) ({ cls := "NotePress", name := "note", desc := "(II)I" } : Jvm.MethodName)) ∈ tB := tB_3 66 rfl rfl
theorem tw_547 : (Jvm.Cond.instanceMethod ({ cls := "NotePress", name := "note", desc := "(II)I" } : Jvm.MethodName)) ∈ tB := tB_3 67 rfl rfl
theorem tw_548 : (Jvm.Cond.selects "NotePress" ({ cls := "NotePress", name := "note", desc := "(II)I" } : Jvm.MethodName) ({ cls := "NotePress", name := "note", desc := "(II)I" } : Jvm.MethodName)) ∈ tB := tB_3 68 rfl rfl
theorem tw_549 : (Jvm.Cond.code ({ cls := "NotePress", name := "note", desc := "(II)I" } : Jvm.MethodName) prog_1_method_16_code (4 : Nat) (Option.some Jvm.ClassFile.FieldType.int)) ∈ tB := tB_3 69 rfl rfl
theorem tw_550 : (Jvm.Cond.methodLink "NotePressLaw" (78 : Nat) ({ cls := "NotePress", name := "star", desc := "(II)I" } : Jvm.MethodName)) ∈ tB := tB_3 70 rfl rfl
theorem tw_551 : (Jvm.Cond.instanceMethod ({ cls := "NotePress", name := "star", desc := "(II)I" } : Jvm.MethodName)) ∈ tB := tB_3 71 rfl rfl
theorem tw_552 : (Jvm.Cond.selects "NotePress" ({ cls := "NotePress", name := "star", desc := "(II)I" } : Jvm.MethodName) ({ cls := "NotePress", name := "star", desc := "(II)I" } : Jvm.MethodName)) ∈ tB := tB_3 72 rfl rfl
theorem tw_553 : (Jvm.Cond.code ({ cls := "NotePress", name := "star", desc := "(II)I" } : Jvm.MethodName) prog_1_method_17_code (3 : Nat) (Option.some Jvm.ClassFile.FieldType.int)) ∈ tB := tB_3 73 rfl rfl
theorem tw_554 : (Jvm.Cond.methodLink "NotePress" (209 : Nat) ({ cls := "NotePress$Stars", name := "seriesOf", desc := "(I)I" } : Jvm.MethodName)) ∈ tB := tB_3 74 rfl rfl
theorem tw_555 : (Jvm.Cond.instanceMethod ({ cls := "NotePress$Stars", name := "seriesOf", desc := "(I)I" } : Jvm.MethodName)) ∈ tB := tB_3 75 rfl rfl
theorem tw_556 : (Jvm.Cond.selects "NotePress$Stars" ({ cls := "NotePress$Stars", name := "seriesOf", desc := "(I)I" } : Jvm.MethodName) ({ cls := "NotePress$Stars", name := "seriesOf", desc := "(I)I" } : Jvm.MethodName)) ∈ tB := tB_3 76 rfl rfl
theorem tw_557 : (Jvm.Cond.code ({ cls := "NotePress$Stars", name := "seriesOf", desc := "(I)I" } : Jvm.MethodName) prog_7_method_6_code (2 : Nat) (Option.some Jvm.ClassFile.FieldType.int)) ∈ tB := tB_3 77 rfl rfl
theorem tw_559 : (Jvm.Cond.methodLink "NotePress" (212 : Nat) ({ cls := "NotePress$Stars", name := "numberOf", desc := "(I)I" } : Jvm.MethodName)) ∈ tB := tB_3 79 rfl rfl
theorem tw_560 : (Jvm.Cond.instanceMethod ({ cls := "NotePress$Stars", name := "numberOf", desc := "(I)I" } : Jvm.MethodName)) ∈ tB := tB_3 80 rfl rfl
theorem tw_561 : (Jvm.Cond.selects "NotePress$Stars" ({ cls := "NotePress$Stars", name := "numberOf", desc := "(I)I" } : Jvm.MethodName) ({ cls := "NotePress$Stars", name := "numberOf", desc := "(I)I" } : Jvm.MethodName)) ∈ tB := tB_3 81 rfl rfl
theorem tw_562 : (Jvm.Cond.code ({ cls := "NotePress$Stars", name := "numberOf", desc := "(I)I" } : Jvm.MethodName) prog_7_method_7_code (2 : Nat) (Option.some Jvm.ClassFile.FieldType.int)) ∈ tB := tB_3 82 rfl rfl
theorem tw_563 : (Jvm.Cond.methodLink "NotePress" (215 : Nat) ({ cls := "NotePress$Checks", name := "ofStar", desc := "(I)I" } : Jvm.MethodName)) ∈ tB := tB_3 83 rfl rfl
theorem tw_564 : (Jvm.Cond.static ({ cls := "NotePress$Checks", name := "ofStar", desc := "(I)I" } : Jvm.MethodName)) ∈ tB := tB_3 84 rfl rfl
theorem tw_565 : (Jvm.Cond.code ({ cls := "NotePress$Checks", name := "ofStar", desc := "(I)I" } : Jvm.MethodName) prog_3_method_3_code (1 : Nat) (Option.some Jvm.ClassFile.FieldType.int)) ∈ tB := tB_3 85 rfl rfl
theorem tw_566 : (Jvm.Cond.methodLink "NotePress$Checks" (13 : Nat) ({ cls := "NotePress$Checks", name := "ofNumber", desc := "(III)I" } : Jvm.MethodName)) ∈ tB := tB_3 86 rfl rfl
theorem tw_567 : (Jvm.Cond.methodLink "NotePressLaw" (82 : Nat) ({ cls := "NotePress", name := "starOf", desc := "(II)I" } : Jvm.MethodName)) ∈ tB := tB_3 87 rfl rfl
theorem tw_568 : (Jvm.Cond.instanceMethod ({ cls := "NotePress", name := "starOf", desc := "(II)I" } : Jvm.MethodName)) ∈ tB := tB_3 88 rfl rfl
theorem tw_569 : (Jvm.Cond.selects "NotePress" ({ cls := "NotePress", name := "starOf", desc := "(II)I" } : Jvm.MethodName) ({ cls := "NotePress", name := "starOf", desc := "(II)I" } : Jvm.MethodName)) ∈ tB := tB_3 89 rfl rfl
theorem tw_570 : (Jvm.Cond.code ({ cls := "NotePress", name := "starOf", desc := "(II)I" } : Jvm.MethodName) prog_1_method_18_code (4 : Nat) (Option.some Jvm.ClassFile.FieldType.int)) ∈ tB := tB_3 90 rfl rfl
theorem tw_571 : (Jvm.Cond.methodLink "NotePress" (218 : Nat) ({ cls := "NotePress$Stars", name := "standingFor", desc := "(II)I" } : Jvm.MethodName)) ∈ tB := tB_3 91 rfl rfl
theorem tw_572 : (Jvm.Cond.methodLink "NotePressLaw" (86 : Nat) ({ cls := "NotePress", name := "judge", desc := "(III)I" } : Jvm.MethodName)) ∈ tB := tB_3 92 rfl rfl
theorem tw_573 : (Jvm.Cond.instanceMethod ({ cls := "NotePress", name := "judge", desc := "(III)I" } : Jvm.MethodName)) ∈ tB := tB_3 93 rfl rfl
theorem tw_574 : (Jvm.Cond.selects "NotePress" ({ cls := "NotePress", name := "judge", desc := "(III)I" } : Jvm.MethodName) ({ cls := "NotePress", name := "judge", desc := "(III)I" } : Jvm.MethodName)) ∈ tB := tB_3 94 rfl rfl
theorem tw_575 : (Jvm.Cond.code ({ cls := "NotePress", name := "judge", desc := "(III)I" } : Jvm.MethodName) prog_1_method_19_code (4 : Nat) (Option.some Jvm.ClassFile.FieldType.int)) ∈ tB := tB_3 95 rfl rfl
theorem tw_576 : (Jvm.Cond.methodLink "NotePress" (221 : Nat) ({ cls := "NotePress", name := "judgeStar", desc := "(II)I" } : Jvm.MethodName)) ∈ tB := tB_3 96 rfl rfl
theorem tw_578 : (Jvm.Cond.instanceMethod ({ cls := "NotePress", name := "judgeStar", desc := "(II)I" } : Jvm.MethodName)) ∈ tB := tB_3 98 rfl rfl
theorem tw_579 : (Jvm.Cond.code ({ cls := "NotePress", name := "judgeStar", desc := "(II)I" } : Jvm.MethodName) prog_1_method_25_code (3 : Nat) (Option.some Jvm.ClassFile.FieldType.int)) ∈ tB := tB_3 99 rfl rfl
theorem tw_580 : (Jvm.Cond.methodLink "NotePress" (224 : Nat) ({ cls := "NotePress", name := "judgeNote", desc := "(III)I" } : Jvm.MethodName)) ∈ tB := tB_3 100 rfl rfl
theorem tw_582 : (Jvm.Cond.instanceMethod ({ cls := "NotePress", name := "judgeNote", desc := "(III)I" } : Jvm.MethodName)) ∈ tB := tB_3 102 rfl rfl
theorem tw_583 : (Jvm.Cond.code ({ cls := "NotePress", name := "judgeNote", desc := "(III)I" } : Jvm.MethodName) prog_1_method_26_code (6 : Nat) (Option.some Jvm.ClassFile.FieldType.int)) ∈ tB := tB_3 103 rfl rfl
theorem tw_584 : (Jvm.Cond.methodLink "NotePress" (244 : Nat) ({ cls := "NotePress$Plan", name := "seriesOfLetter", desc := "(I)I" } : Jvm.MethodName)) ∈ tB := tB_3 104 rfl rfl
theorem tw_585 : (Jvm.Cond.methodLink "NotePressLaw" (90 : Nat) ({ cls := "NotePress", name := "pack", desc := "(III)I" } : Jvm.MethodName)) ∈ tB := tB_3 105 rfl rfl
theorem tw_586 : (Jvm.Cond.instanceMethod ({ cls := "NotePress", name := "pack", desc := "(III)I" } : Jvm.MethodName)) ∈ tB := tB_3 106 rfl rfl
theorem tw_587 : (Jvm.Cond.selects "NotePress" ({ cls := "NotePress", name := "pack", desc := "(III)I" } : Jvm.MethodName) ({ cls := "NotePress", name := "pack", desc := "(III)I" } : Jvm.MethodName)) ∈ tB := tB_3 107 rfl rfl
theorem tw_588 : (Jvm.Cond.code ({ cls := "NotePress", name := "pack", desc := "(III)I" } : Jvm.MethodName) prog_1_method_20_code (7 : Nat) (Option.some Jvm.ClassFile.FieldType.int)) ∈ tB := tB_3 108 rfl rfl
theorem tw_589 : (Jvm.Cond.methodLink "NotePress" (227 : Nat) ({ cls := "NotePress$Series", name := "isWhole", desc := "(I)Z" } : Jvm.MethodName)) ∈ tB := tB_3 109 rfl rfl
theorem tw_590 : (Jvm.Cond.methodLink "NotePressLaw" (94 : Nat) ({ cls := "NotePress", name := "count", desc := "(I)I" } : Jvm.MethodName)) ∈ tB := tB_3 110 rfl rfl
theorem tw_591 : (Jvm.Cond.instanceMethod ({ cls := "NotePress", name := "count", desc := "(I)I" } : Jvm.MethodName)) ∈ tB := tB_3 111 rfl rfl
theorem tw_592 : (Jvm.Cond.selects "NotePress" ({ cls := "NotePress", name := "count", desc := "(I)I" } : Jvm.MethodName) ({ cls := "NotePress", name := "count", desc := "(I)I" } : Jvm.MethodName)) ∈ tB := tB_3 112 rfl rfl
theorem tw_593 : (Jvm.Cond.code ({ cls := "NotePress", name := "count", desc := "(I)I" } : Jvm.MethodName) prog_1_method_21_code (2 : Nat) (Option.some Jvm.ClassFile.FieldType.int)) ∈ tB := tB_3 113 rfl rfl
theorem tw_594 : (Jvm.Cond.methodLink "NotePress" (233 : Nat) ({ cls := "NotePress$Plan", name := "notesPrinted", desc := "()I" } : Jvm.MethodName)) ∈ tB := tB_3 114 rfl rfl
theorem tw_595 : (Jvm.Cond.instanceMethod ({ cls := "NotePress$Plan", name := "notesPrinted", desc := "()I" } : Jvm.MethodName)) ∈ tB := tB_3 115 rfl rfl
theorem tw_596 : (Jvm.Cond.selects "NotePress$Plan" ({ cls := "NotePress$Plan", name := "notesPrinted", desc := "()I" } : Jvm.MethodName) ({ cls := "NotePress$Plan", name := "notesPrinted", desc := "()I" } : Jvm.MethodName)) ∈ tB := tB_3 116 rfl rfl
theorem tw_597 : (Jvm.Cond.code ({ cls := "NotePress$Plan", name := "notesPrinted", desc := "()I" } : Jvm.MethodName) prog_4_method_9_code (3 : Nat) (Option.some Jvm.ClassFile.FieldType.int)) ∈ tB := tB_3 117 rfl rfl
theorem tw_598 : (Jvm.Cond.methodLink "NotePress$Plan" (47 : Nat) ({ cls := "NotePress$Series", name := "notesPrinted", desc := "()I" } : Jvm.MethodName)) ∈ tB := tB_3 118 rfl rfl
theorem tw_599 : (Jvm.Cond.methodLink "NotePress" (234 : Nat) ({ cls := "NotePress$Plan", name := "sheetsRun", desc := "()I" } : Jvm.MethodName)) ∈ tB := tB_3 119 rfl rfl
theorem tw_600 : (Jvm.Cond.instanceMethod ({ cls := "NotePress$Plan", name := "sheetsRun", desc := "()I" } : Jvm.MethodName)) ∈ tB := tB_3 120 rfl rfl
theorem tw_601 : (Jvm.Cond.selects "NotePress$Plan" ({ cls := "NotePress$Plan", name := "sheetsRun", desc := "()I" } : Jvm.MethodName) ({ cls := "NotePress$Plan", name := "sheetsRun", desc := "()I" } : Jvm.MethodName)) ∈ tB := tB_3 121 rfl rfl
theorem tw_602 : (Jvm.Cond.code ({ cls := "NotePress$Plan", name := "sheetsRun", desc := "()I" } : Jvm.MethodName) prog_4_method_10_code (3 : Nat) (Option.some Jvm.ClassFile.FieldType.int)) ∈ tB := tB_3 122 rfl rfl
theorem tw_603 : (Jvm.Cond.methodLink "NotePress$Plan" (51 : Nat) ({ cls := "NotePress$Series", name := "sheetsRun", desc := "()I" } : Jvm.MethodName)) ∈ tB := tB_3 123 rfl rfl
theorem tw_604 : (Jvm.Cond.instanceMethod ({ cls := "NotePress$Series", name := "sheetsRun", desc := "()I" } : Jvm.MethodName)) ∈ tB := tB_3 124 rfl rfl
theorem tw_605 : (Jvm.Cond.selects "NotePress$Series" ({ cls := "NotePress$Series", name := "sheetsRun", desc := "()I" } : Jvm.MethodName) ({ cls := "NotePress$Series", name := "sheetsRun", desc := "()I" } : Jvm.MethodName)) ∈ tB := tB_3 125 rfl rfl
theorem tw_606 : (Jvm.Cond.code ({ cls := "NotePress$Series", name := "sheetsRun", desc := "()I" } : Jvm.MethodName) prog_5_method_9_code (3 : Nat) (Option.some Jvm.ClassFile.FieldType.int)) ∈ tB := tB_3 126 rfl rfl
theorem tw_607 : (Jvm.Cond.methodLink "NotePress" (236 : Nat) ({ cls := "NotePress$Plan", name := "wholePacks", desc := "()I" } : Jvm.MethodName)) ∈ tB := tB_3 127 rfl rfl
theorem tw_608 : (Jvm.Cond.instanceMethod ({ cls := "NotePress$Plan", name := "wholePacks", desc := "()I" } : Jvm.MethodName)) ∈ tB := tB_3 128 rfl rfl
theorem tw_609 : (Jvm.Cond.selects "NotePress$Plan" ({ cls := "NotePress$Plan", name := "wholePacks", desc := "()I" } : Jvm.MethodName) ({ cls := "NotePress$Plan", name := "wholePacks", desc := "()I" } : Jvm.MethodName)) ∈ tB := tB_3 129 rfl rfl
theorem tw_610 : (Jvm.Cond.code ({ cls := "NotePress$Plan", name := "wholePacks", desc := "()I" } : Jvm.MethodName) prog_4_method_11_code (3 : Nat) (Option.some Jvm.ClassFile.FieldType.int)) ∈ tB := tB_3 130 rfl rfl
theorem tw_611 : (Jvm.Cond.methodLink "NotePress$Plan" (54 : Nat) ({ cls := "NotePress$Series", name := "wholePacks", desc := "()I" } : Jvm.MethodName)) ∈ tB := tB_3 131 rfl rfl
theorem tw_612 : (Jvm.Cond.classLink "NotePressLaw" (10 : Nat) "NotePressModel") ∈ tB := tB_3 132 rfl rfl
theorem tw_613 : (Jvm.Cond.instantiable "NotePressModel" (8 : Nat)) ∈ tB := tB_3 133 rfl rfl
theorem tw_614 : (Jvm.Cond.methodLink "NotePressLaw" (12 : Nat) ({ cls := "NotePressModel", name := "<init>", desc := "()V" } : Jvm.MethodName)) ∈ tB := tB_3 134 rfl rfl
theorem tw_615 : (Jvm.Cond.instanceMethod ({ cls := "NotePressModel", name := "<init>", desc := "()V" } : Jvm.MethodName)) ∈ tB := tB_3 135 rfl rfl
theorem tw_616 : (Jvm.Cond.code ({ cls := "NotePressModel", name := "<init>", desc := "()V" } : Jvm.MethodName) prog_10_method_1_code (1 : Nat) (Option.none : Option Jvm.ClassFile.FieldType)) ∈ tB := tB_3 136 rfl rfl
theorem tw_617 : (Jvm.Cond.methodLink "NotePressModel" (1 : Nat) ({ cls := "java/lang/Object", name := "<init>", desc := "()V" } : Jvm.MethodName)) ∈ tB := tB_3 137 rfl rfl
theorem tw_618 : (Jvm.Cond.methodLink "NotePressModel" (25 : Nat) ({ cls := "NotePressModel", name := "adds", desc := "(IIII)V" } : Jvm.MethodName)) ∈ tB := tB_3 138 rfl rfl
theorem tw_620 : (Jvm.Cond.instanceMethod ({ cls := "NotePressModel", name := "adds", desc := "(IIII)V" } : Jvm.MethodName)) ∈ tB := tB_3 140 rfl rfl
theorem tw_621 : (Jvm.Cond.code ({ cls := "NotePressModel", name := "adds", desc := "(IIII)V" } : Jvm.MethodName) prog_10_method_2_code (6 : Nat) (Option.none : Option Jvm.ClassFile.FieldType)) ∈ tB := tB_3 141 rfl rfl
theorem tw_622 : (Jvm.Cond.fieldLink "NotePressModel" (37 : Nat) "NotePressModel" "length" "I") ∈ tB := tB_3 142 rfl rfl
theorem tw_623 : (Jvm.Cond.fieldLink "NotePressModel" (7 : Nat) "NotePressModel" "text" "[I") ∈ tB := tB_3 143 rfl rfl
theorem tw_624 : (Jvm.Cond.fieldLink "NotePressModel" (41 : Nat) "NotePressModel" "spot" "I") ∈ tB := tB_3 144 rfl rfl
theorem tw_625 : (Jvm.Cond.fieldLink "NotePressModel" (13 : Nat) "NotePressModel" "told" "[I") ∈ tB := tB_3 145 rfl rfl
theorem tw_626 : (Jvm.Cond.fieldLink "NotePressModel" (16 : Nat) "NotePressModel" "read" "[I") ∈ tB := tB_3 146 rfl rfl
theorem tw_627 : (Jvm.Cond.fieldLink "NotePressModel" (19 : Nat) "NotePressModel" "s" "[I") ∈ tB := tB_3 147 rfl rfl
theorem tw_628 : (Jvm.Cond.fieldLink "NotePressModel" (22 : Nat) "NotePressModel" "before" "[I") ∈ tB := tB_3 148 rfl rfl
theorem tw_629 : (Jvm.Cond.fieldLink "NotePressModel" (81 : Nat) "NotePressModel" "undoMany" "I") ∈ tB := tB_3 149 rfl rfl
theorem tw_630 : (Jvm.Cond.lays "NotePressModel" "NotePressModel" "length" "I") ∈ tB := tB_3 150 rfl rfl
theorem tw_632 : (Jvm.Cond.laysFinal "NotePressModel" "NotePressModel" "text" "[I") ∈ tB := tB_3 152 rfl rfl
theorem tw_634 : (Jvm.Cond.lays "NotePressModel" "NotePressModel" "spot" "I") ∈ tB := tB_3 154 rfl rfl
theorem tw_636 : (Jvm.Cond.laysFinal "NotePressModel" "NotePressModel" "told" "[I") ∈ tB := tB_3 156 rfl rfl
theorem tw_638 : (Jvm.Cond.laysFinal "NotePressModel" "NotePressModel" "read" "[I") ∈ tB := tB_3 158 rfl rfl
theorem tw_640 : (Jvm.Cond.laysFinal "NotePressModel" "NotePressModel" "s" "[I") ∈ tB := tB_3 160 rfl rfl
theorem tw_642 : (Jvm.Cond.laysFinal "NotePressModel" "NotePressModel" "before" "[I") ∈ tB := tB_3 162 rfl rfl
theorem tw_644 : (Jvm.Cond.lays "NotePressModel" "NotePressModel" "undoMany" "I") ∈ tB := tB_3 164 rfl rfl
theorem tw_647 : (Jvm.Cond.methodLink "NotePressLaw" (17 : Nat) ({ cls := "NotePressModel", name := "write", desc := "(I)I" } : Jvm.MethodName)) ∈ tB := tB_3 167 rfl rfl
theorem tw_648 : (Jvm.Cond.instanceMethod ({ cls := "NotePressModel", name := "write", desc := "(I)I" } : Jvm.MethodName)) ∈ tB := tB_3 168 rfl rfl
theorem tw_649 : (Jvm.Cond.selects "NotePressModel" ({ cls := "NotePressModel", name := "write", desc := "(I)I" } : Jvm.MethodName) ({ cls := "NotePressModel", name := "write", desc := "(I)I" } : Jvm.MethodName)) ∈ tB := tB_3 169 rfl rfl
theorem tw_650 : (Jvm.Cond.code ({ cls := "NotePressModel", name := "write", desc := "(I)I" } : Jvm.MethodName) prog_10_method_4_code (2 : Nat) (Option.some Jvm.ClassFile.FieldType.int)) ∈ tB := tB_3 170 rfl rfl
theorem tw_651 : (Jvm.Cond.constantLong "NotePressModel" (29 : Nat) (32 : Int64)) ∈ tB := tB_3 171 rfl rfl
theorem tw_652 : (Jvm.Cond.constantLong "NotePressModel" (31 : Nat) (126 : Int64)) ∈ tB := tB_3 172 rfl rfl
theorem tw_653 : (Jvm.Cond.methodLink "NotePressModel" (33 : Nat) ({ cls := "NotePressModel", name := "in", desc := "(JJJ)Z" } : Jvm.MethodName)) ∈ tB := tB_3 173 rfl rfl
theorem tw_654 : (Jvm.Cond.static ({ cls := "NotePressModel", name := "in", desc := "(JJJ)Z" } : Jvm.MethodName)) ∈ tB := tB_3 174 rfl rfl
theorem tw_655 : (Jvm.Cond.code ({ cls := "NotePressModel", name := "in", desc := "(JJJ)Z" } : Jvm.MethodName) prog_10_method_3_code (6 : Nat) (Option.some Jvm.ClassFile.FieldType.boolean)) ∈ tB := tB_3 175 rfl rfl
theorem tw_656 : (Jvm.Cond.methodLink "NotePressLaw" (22 : Nat) ({ cls := "NotePressModel", name := "wipe", desc := "()I" } : Jvm.MethodName)) ∈ tB := tB_3 176 rfl rfl
theorem tw_657 : (Jvm.Cond.instanceMethod ({ cls := "NotePressModel", name := "wipe", desc := "()I" } : Jvm.MethodName)) ∈ tB := tB_3 177 rfl rfl
theorem tw_658 : (Jvm.Cond.selects "NotePressModel" ({ cls := "NotePressModel", name := "wipe", desc := "()I" } : Jvm.MethodName) ({ cls := "NotePressModel", name := "wipe", desc := "()I" } : Jvm.MethodName)) ∈ tB := tB_3 178 rfl rfl
theorem tw_659 : (Jvm.Cond.code ({ cls := "NotePressModel", name := "wipe", desc := "()I" } : Jvm.MethodName) prog_10_method_5_code (2 : Nat) (Option.some Jvm.ClassFile.FieldType.int)) ∈ tB := tB_3 179 rfl rfl
theorem tw_660 : (Jvm.Cond.methodLink "NotePressLaw" (26 : Nat) ({ cls := "NotePressModel", name := "fault", desc := "()I" } : Jvm.MethodName)) ∈ tB := tB_3 180 rfl rfl
theorem tw_661 : (Jvm.Cond.instanceMethod ({ cls := "NotePressModel", name := "fault", desc := "()I" } : Jvm.MethodName)) ∈ tB := tB_3 181 rfl rfl
theorem tw_662 : (Jvm.Cond.selects "NotePressModel" ({ cls := "NotePressModel", name := "fault", desc := "()I" } : Jvm.MethodName) ({ cls := "NotePressModel", name := "fault", desc := "()I" } : Jvm.MethodName)) ∈ tB := tB_3 182 rfl rfl
theorem tw_663 : (Jvm.Cond.code ({ cls := "NotePressModel", name := "fault", desc := "()I" } : Jvm.MethodName) prog_10_method_12_code (2 : Nat) (Option.some Jvm.ClassFile.FieldType.int)) ∈ tB := tB_3 183 rfl rfl
theorem tw_664 : (Jvm.Cond.methodLink "NotePressModel" (74 : Nat) ({ cls := "NotePressModel", name := "item", desc := "(I)Z" } : Jvm.MethodName)) ∈ tB := tB_3 184 rfl rfl
theorem tw_666 : (Jvm.Cond.instanceMethod ({ cls := "NotePressModel", name := "item", desc := "(I)Z" } : Jvm.MethodName)) ∈ tB := tB_3 186 rfl rfl
theorem tw_667 : (Jvm.Cond.code ({ cls := "NotePressModel", name := "item", desc := "(I)Z" } : Jvm.MethodName) prog_10_method_11_code (2 : Nat) (Option.some Jvm.ClassFile.FieldType.boolean)) ∈ tB := tB_3 187 rfl rfl
theorem tw_668 : (Jvm.Cond.methodLink "NotePressModel" (60 : Nat) ({ cls := "NotePressModel", name := "number2", desc := "(III)Z" } : Jvm.MethodName)) ∈ tB := tB_3 188 rfl rfl
theorem tw_670 : (Jvm.Cond.instanceMethod ({ cls := "NotePressModel", name := "number2", desc := "(III)Z" } : Jvm.MethodName)) ∈ tB := tB_3 190 rfl rfl
theorem tw_671 : (Jvm.Cond.code ({ cls := "NotePressModel", name := "number2", desc := "(III)Z" } : Jvm.MethodName) prog_10_method_8_code (6 : Nat) (Option.some Jvm.ClassFile.FieldType.boolean)) ∈ tB := tB_3 191 rfl rfl
theorem tw_672 : (Jvm.Cond.methodLink "NotePressModel" (44 : Nat) ({ cls := "NotePressModel", name := "byteAt", desc := "(I)I" } : Jvm.MethodName)) ∈ tB := tB_3 192 rfl rfl
theorem tw_674 : (Jvm.Cond.instanceMethod ({ cls := "NotePressModel", name := "byteAt", desc := "(I)I" } : Jvm.MethodName)) ∈ tB := tB_3 194 rfl rfl
theorem tw_675 : (Jvm.Cond.code ({ cls := "NotePressModel", name := "byteAt", desc := "(I)I" } : Jvm.MethodName) prog_10_method_6_code (2 : Nat) (Option.some Jvm.ClassFile.FieldType.int)) ∈ tB := tB_3 195 rfl rfl
theorem tw_676 : (Jvm.Cond.constantLong "NotePressModel" (48 : Nat) (48 : Int64)) ∈ tB := tB_3 196 rfl rfl
theorem tw_677 : (Jvm.Cond.constantLong "NotePressModel" (50 : Nat) (57 : Int64)) ∈ tB := tB_3 197 rfl rfl
theorem tw_678 : (Jvm.Cond.methodLink "NotePressModel" (70 : Nat) ({ cls := "NotePressModel", name := "seriesItem", desc := "()Z" } : Jvm.MethodName)) ∈ tB := tB_3 198 rfl rfl
theorem tw_680 : (Jvm.Cond.instanceMethod ({ cls := "NotePressModel", name := "seriesItem", desc := "()Z" } : Jvm.MethodName)) ∈ tB := tB_3 200 rfl rfl
theorem tw_681 : (Jvm.Cond.code ({ cls := "NotePressModel", name := "seriesItem", desc := "()Z" } : Jvm.MethodName) prog_10_method_10_code (5 : Nat) (Option.some Jvm.ClassFile.FieldType.boolean)) ∈ tB := tB_3 201 rfl rfl
theorem tw_682 : (Jvm.Cond.constantLong "NotePressModel" (52 : Nat) (97 : Int64)) ∈ tB := tB_3 202 rfl rfl
theorem tw_683 : (Jvm.Cond.constantLong "NotePressModel" (54 : Nat) (122 : Int64)) ∈ tB := tB_3 203 rfl rfl
theorem tw_684 : (Jvm.Cond.methodLink "NotePressModel" (56 : Nat) ({ cls := "NotePressModel", name := "gone", desc := "(I)Z" } : Jvm.MethodName)) ∈ tB := tB_3 204 rfl rfl
theorem tw_686 : (Jvm.Cond.instanceMethod ({ cls := "NotePressModel", name := "gone", desc := "(I)Z" } : Jvm.MethodName)) ∈ tB := tB_3 206 rfl rfl
theorem tw_687 : (Jvm.Cond.code ({ cls := "NotePressModel", name := "gone", desc := "(I)Z" } : Jvm.MethodName) prog_10_method_7_code (3 : Nat) (Option.some Jvm.ClassFile.FieldType.boolean)) ∈ tB := tB_3 207 rfl rfl
theorem tw_688 : (Jvm.Cond.methodLink "NotePressModel" (64 : Nat) ({ cls := "NotePressModel", name := "whole", desc := "([II)I" } : Jvm.MethodName)) ∈ tB := tB_3 208 rfl rfl
theorem tw_689 : (Jvm.Cond.static ({ cls := "NotePressModel", name := "whole", desc := "([II)I" } : Jvm.MethodName)) ∈ tB := tB_3 209 rfl rfl
theorem tw_690 : (Jvm.Cond.code ({ cls := "NotePressModel", name := "whole", desc := "([II)I" } : Jvm.MethodName) prog_10_method_9_code (4 : Nat) (Option.some Jvm.ClassFile.FieldType.int)) ∈ tB := tB_3 210 rfl rfl
theorem tw_691 : (Jvm.Cond.constantLong "NotePressModel" (68 : Nat) (999 : Int64)) ∈ tB := tB_3 211 rfl rfl
theorem tw_692 : (Jvm.Cond.methodLink "NotePressLaw" (30 : Nat) ({ cls := "NotePressModel", name := "lay", desc := "()I" } : Jvm.MethodName)) ∈ tB := tB_3 212 rfl rfl
theorem tw_693 : (Jvm.Cond.instanceMethod ({ cls := "NotePressModel", name := "lay", desc := "()I" } : Jvm.MethodName)) ∈ tB := tB_3 213 rfl rfl
theorem tw_694 : (Jvm.Cond.selects "NotePressModel" ({ cls := "NotePressModel", name := "lay", desc := "()I" } : Jvm.MethodName) ({ cls := "NotePressModel", name := "lay", desc := "()I" } : Jvm.MethodName)) ∈ tB := tB_3 214 rfl rfl
theorem tw_695 : (Jvm.Cond.code ({ cls := "NotePressModel", name := "lay", desc := "()I" } : Jvm.MethodName) prog_10_method_13_code (2 : Nat) (Option.some Jvm.ClassFile.FieldType.int)) ∈ tB := tB_3 215 rfl rfl
theorem tw_696 : (Jvm.Cond.methodLink "NotePressModel" (77 : Nat) ({ cls := "NotePressModel", name := "fault", desc := "()I" } : Jvm.MethodName)) ∈ tB := tB_3 216 rfl rfl
theorem tw_697 : (Jvm.Cond.methodLink "NotePressLaw" (69 : Nat) ({ cls := "NotePressModel", name := "check", desc := "(II)I" } : Jvm.MethodName)) ∈ tB := tB_3 217 rfl rfl
theorem tw_698 : (Jvm.Cond.instanceMethod ({ cls := "NotePressModel", name := "check", desc := "(II)I" } : Jvm.MethodName)) ∈ tB := tB_3 218 rfl rfl
theorem tw_699 : (Jvm.Cond.selects "NotePressModel" ({ cls := "NotePressModel", name := "check", desc := "(II)I" } : Jvm.MethodName) ({ cls := "NotePressModel", name := "check", desc := "(II)I" } : Jvm.MethodName)) ∈ tB := tB_3 219 rfl rfl
theorem tw_700 : (Jvm.Cond.code ({ cls := "NotePressModel", name := "check", desc := "(II)I" } : Jvm.MethodName) prog_10_method_27_code (3 : Nat) (Option.some Jvm.ClassFile.FieldType.int)) ∈ tB := tB_3 220 rfl rfl
theorem tw_701 : (Jvm.Cond.methodLink "NotePressModel" (84 : Nat) ({ cls := "NotePressModel", name := "isSeries", desc := "(I)Z" } : Jvm.MethodName)) ∈ tB := tB_3 221 rfl rfl
theorem tw_703 : (Jvm.Cond.instanceMethod ({ cls := "NotePressModel", name := "isSeries", desc := "(I)Z" } : Jvm.MethodName)) ∈ tB := tB_3 223 rfl rfl
theorem tw_704 : (Jvm.Cond.code ({ cls := "NotePressModel", name := "isSeries", desc := "(I)Z" } : Jvm.MethodName) prog_10_method_14_code (2 : Nat) (Option.some Jvm.ClassFile.FieldType.boolean)) ∈ tB := tB_3 224 rfl rfl
theorem tw_705 : (Jvm.Cond.methodLink "NotePressModel" (110 : Nat) ({ cls := "NotePressModel", name := "checkIn", desc := "(II)I" } : Jvm.MethodName)) ∈ tB := tB_3 225 rfl rfl
theorem tw_707 : (Jvm.Cond.instanceMethod ({ cls := "NotePressModel", name := "checkIn", desc := "(II)I" } : Jvm.MethodName)) ∈ tB := tB_3 227 rfl rfl
theorem tw_708 : (Jvm.Cond.code ({ cls := "NotePressModel", name := "checkIn", desc := "(II)I" } : Jvm.MethodName) prog_10_method_26_code (3 : Nat) (Option.some Jvm.ClassFile.FieldType.int)) ∈ tB := tB_3 228 rfl rfl
theorem tw_709 : (Jvm.Cond.methodLink "NotePressModel" (106 : Nat) ({ cls := "NotePressModel", name := "checkOf", desc := "(III)I" } : Jvm.MethodName)) ∈ tB := tB_3 229 rfl rfl
theorem tw_710 : (Jvm.Cond.static ({ cls := "NotePressModel", name := "checkOf", desc := "(III)I" } : Jvm.MethodName)) ∈ tB := tB_3 230 rfl rfl
theorem tw_711 : (Jvm.Cond.code ({ cls := "NotePressModel", name := "checkOf", desc := "(III)I" } : Jvm.MethodName) prog_10_method_25_code (8 : Nat) (Option.some Jvm.ClassFile.FieldType.int)) ∈ tB := tB_3 231 rfl rfl
theorem tw_712 : (Jvm.Cond.methodLink "NotePressModel" (100 : Nat) ({ cls := "NotePressModel", name := "turned", desc := "(I)I" } : Jvm.MethodName)) ∈ tB := tB_3 232 rfl rfl
theorem tw_713 : (Jvm.Cond.static ({ cls := "NotePressModel", name := "turned", desc := "(I)I" } : Jvm.MethodName)) ∈ tB := tB_3 233 rfl rfl
theorem tw_714 : (Jvm.Cond.code ({ cls := "NotePressModel", name := "turned", desc := "(I)I" } : Jvm.MethodName) prog_10_method_23_code (1 : Nat) (Option.some Jvm.ClassFile.FieldType.int)) ∈ tB := tB_3 234 rfl rfl
theorem tw_715 : (Jvm.Cond.methodLink "NotePressModel" (103 : Nat) ({ cls := "NotePressModel", name := "make", desc := "(II)I" } : Jvm.MethodName)) ∈ tB := tB_3 235 rfl rfl
theorem tw_716 : (Jvm.Cond.static ({ cls := "NotePressModel", name := "make", desc := "(II)I" } : Jvm.MethodName)) ∈ tB := tB_3 236 rfl rfl
theorem tw_717 : (Jvm.Cond.code ({ cls := "NotePressModel", name := "make", desc := "(II)I" } : Jvm.MethodName) prog_10_method_24_code (3 : Nat) (Option.some Jvm.ClassFile.FieldType.int)) ∈ tB := tB_3 237 rfl rfl
theorem tw_718 : (Jvm.Cond.methodLink "NotePressLaw" (73 : Nat) ({ cls := "NotePressModel", name := "missed", desc := "(III)I" } : Jvm.MethodName)) ∈ tB := tB_3 238 rfl rfl
theorem tw_719 : (Jvm.Cond.instanceMethod ({ cls := "NotePressModel", name := "missed", desc := "(III)I" } : Jvm.MethodName)) ∈ tB := tB_3 239 rfl rfl
theorem tw_720 : (Jvm.Cond.selects "NotePressModel" ({ cls := "NotePressModel", name := "missed", desc := "(III)I" } : Jvm.MethodName) ({ cls := "NotePressModel", name := "missed", desc := "(III)I" } : Jvm.MethodName)) ∈ tB := tB_4 0 rfl rfl
theorem tw_721 : (Jvm.Cond.code ({ cls := "NotePressModel", name := "missed", desc := "(III)I" } : Jvm.MethodName) prog_10_method_28_code (9 : Nat) (Option.some Jvm.ClassFile.FieldType.int)) ∈ tB := tB_4 1 rfl rfl
theorem tw_722 : (Jvm.Cond.methodLink "NotePressLaw" (48 : Nat) ({ cls := "NotePressModel", name := "undo", desc := "()I" } : Jvm.MethodName)) ∈ tB := tB_4 2 rfl rfl
theorem tw_723 : (Jvm.Cond.instanceMethod ({ cls := "NotePressModel", name := "undo", desc := "()I" } : Jvm.MethodName)) ∈ tB := tB_4 3 rfl rfl
theorem tw_724 : (Jvm.Cond.selects "NotePressModel" ({ cls := "NotePressModel", name := "undo", desc := "()I" } : Jvm.MethodName) ({ cls := "NotePressModel", name := "undo", desc := "()I" } : Jvm.MethodName)) ∈ tB := tB_4 4 rfl rfl
theorem tw_725 : (Jvm.Cond.code ({ cls := "NotePressModel", name := "undo", desc := "()I" } : Jvm.MethodName) prog_10_method_30_code (2 : Nat) (Option.some Jvm.ClassFile.FieldType.int)) ∈ tB := tB_4 5 rfl rfl
theorem tw_726 : (Jvm.Cond.methodLink "NotePressLaw" (35 : Nat) ({ cls := "NotePressModel", name := "run", desc := "(III)I" } : Jvm.MethodName)) ∈ tB := tB_4 6 rfl rfl
theorem tw_727 : (Jvm.Cond.instanceMethod ({ cls := "NotePressModel", name := "run", desc := "(III)I" } : Jvm.MethodName)) ∈ tB := tB_4 7 rfl rfl
theorem tw_728 : (Jvm.Cond.selects "NotePressModel" ({ cls := "NotePressModel", name := "run", desc := "(III)I" } : Jvm.MethodName) ({ cls := "NotePressModel", name := "run", desc := "(III)I" } : Jvm.MethodName)) ∈ tB := tB_4 8 rfl rfl
theorem tw_729 : (Jvm.Cond.code ({ cls := "NotePressModel", name := "run", desc := "(III)I" } : Jvm.MethodName) prog_10_method_31_code (4 : Nat) (Option.some Jvm.ClassFile.FieldType.int)) ∈ tB := tB_4 9 rfl rfl
theorem tw_730 : (Jvm.Cond.methodLink "NotePressModel" (113 : Nat) ({ cls := "NotePressModel", name := "isPress", desc := "(I)Z" } : Jvm.MethodName)) ∈ tB := tB_4 10 rfl rfl
theorem tw_732 : (Jvm.Cond.instanceMethod ({ cls := "NotePressModel", name := "isPress", desc := "(I)Z" } : Jvm.MethodName)) ∈ tB := tB_4 12 rfl rfl
theorem tw_733 : (Jvm.Cond.code ({ cls := "NotePressModel", name := "isPress", desc := "(I)Z" } : Jvm.MethodName) prog_10_method_15_code (2 : Nat) (Option.some Jvm.ClassFile.FieldType.boolean)) ∈ tB := tB_4 13 rfl rfl
theorem tw_734 : (Jvm.Cond.constantLong "NotePressModel" (116 : Nat) (40 : Int64)) ∈ tB := tB_4 14 rfl rfl
theorem tw_735 : (Jvm.Cond.methodLink "NotePressModel" (87 : Nat) ({ cls := "NotePressModel", name := "sheets", desc := "(II)I" } : Jvm.MethodName)) ∈ tB := tB_4 15 rfl rfl
theorem tw_737 : (Jvm.Cond.instanceMethod ({ cls := "NotePressModel", name := "sheets", desc := "(II)I" } : Jvm.MethodName)) ∈ tB := tB_4 17 rfl rfl
theorem tw_738 : (Jvm.Cond.code ({ cls := "NotePressModel", name := "sheets", desc := "(II)I" } : Jvm.MethodName) prog_10_method_16_code (3 : Nat) (Option.some Jvm.ClassFile.FieldType.int)) ∈ tB := tB_4 18 rfl rfl
theorem tw_739 : (Jvm.Cond.methodLink "NotePressModel" (118 : Nat) ({ cls := "NotePressModel", name := "note1", desc := "()V" } : Jvm.MethodName)) ∈ tB := tB_4 19 rfl rfl
theorem tw_741 : (Jvm.Cond.instanceMethod ({ cls := "NotePressModel", name := "note1", desc := "()V" } : Jvm.MethodName)) ∈ tB := tB_4 21 rfl rfl
theorem tw_742 : (Jvm.Cond.code ({ cls := "NotePressModel", name := "note1", desc := "()V" } : Jvm.MethodName) prog_10_method_29_code (2 : Nat) (Option.none : Option Jvm.ClassFile.FieldType)) ∈ tB := tB_4 22 rfl rfl
theorem tw_743 : (Jvm.Cond.methodLink "NotePressLaw" (40 : Nat) ({ cls := "NotePressModel", name := "spoil", desc := "(II)I" } : Jvm.MethodName)) ∈ tB := tB_4 23 rfl rfl
theorem tw_744 : (Jvm.Cond.instanceMethod ({ cls := "NotePressModel", name := "spoil", desc := "(II)I" } : Jvm.MethodName)) ∈ tB := tB_4 24 rfl rfl
theorem tw_745 : (Jvm.Cond.selects "NotePressModel" ({ cls := "NotePressModel", name := "spoil", desc := "(II)I" } : Jvm.MethodName) ({ cls := "NotePressModel", name := "spoil", desc := "(II)I" } : Jvm.MethodName)) ∈ tB := tB_4 25 rfl rfl
theorem tw_746 : (Jvm.Cond.code ({ cls := "NotePressModel", name := "spoil", desc := "(II)I" } : Jvm.MethodName) prog_10_method_33_code (3 : Nat) (Option.some Jvm.ClassFile.FieldType.int)) ∈ tB := tB_4 26 rfl rfl
theorem tw_747 : (Jvm.Cond.methodLink "NotePressModel" (121 : Nat) ({ cls := "NotePressModel", name := "isNumber", desc := "(II)Z" } : Jvm.MethodName)) ∈ tB := tB_4 27 rfl rfl
theorem tw_749 : (Jvm.Cond.instanceMethod ({ cls := "NotePressModel", name := "isNumber", desc := "(II)Z" } : Jvm.MethodName)) ∈ tB := tB_4 29 rfl rfl
theorem tw_750 : (Jvm.Cond.code ({ cls := "NotePressModel", name := "isNumber", desc := "(II)Z" } : Jvm.MethodName) prog_10_method_17_code (3 : Nat) (Option.some Jvm.ClassFile.FieldType.boolean)) ∈ tB := tB_4 30 rfl rfl
theorem tw_751 : (Jvm.Cond.methodLink "NotePressModel" (125 : Nat) ({ cls := "NotePressModel", name := "isPrinted", desc := "(II)Z" } : Jvm.MethodName)) ∈ tB := tB_4 31 rfl rfl
theorem tw_753 : (Jvm.Cond.instanceMethod ({ cls := "NotePressModel", name := "isPrinted", desc := "(II)Z" } : Jvm.MethodName)) ∈ tB := tB_4 33 rfl rfl
theorem tw_754 : (Jvm.Cond.code ({ cls := "NotePressModel", name := "isPrinted", desc := "(II)Z" } : Jvm.MethodName) prog_10_method_21_code (3 : Nat) (Option.some Jvm.ClassFile.FieldType.boolean)) ∈ tB := tB_4 34 rfl rfl
theorem tw_755 : (Jvm.Cond.methodLink "NotePressModel" (97 : Nat) ({ cls := "NotePressModel", name := "sheetOf", desc := "(II)I" } : Jvm.MethodName)) ∈ tB := tB_4 35 rfl rfl
theorem tw_757 : (Jvm.Cond.instanceMethod ({ cls := "NotePressModel", name := "sheetOf", desc := "(II)I" } : Jvm.MethodName)) ∈ tB := tB_4 37 rfl rfl
theorem tw_758 : (Jvm.Cond.code ({ cls := "NotePressModel", name := "sheetOf", desc := "(II)I" } : Jvm.MethodName) prog_10_method_20_code (4 : Nat) (Option.some Jvm.ClassFile.FieldType.int)) ∈ tB := tB_4 38 rfl rfl
theorem tw_759 : (Jvm.Cond.methodLink "NotePressModel" (94 : Nat) ({ cls := "NotePressModel", name := "pressOf", desc := "(II)I" } : Jvm.MethodName)) ∈ tB := tB_4 39 rfl rfl
theorem tw_761 : (Jvm.Cond.instanceMethod ({ cls := "NotePressModel", name := "pressOf", desc := "(II)I" } : Jvm.MethodName)) ∈ tB := tB_4 41 rfl rfl
theorem tw_762 : (Jvm.Cond.code ({ cls := "NotePressModel", name := "pressOf", desc := "(II)I" } : Jvm.MethodName) prog_10_method_19_code (4 : Nat) (Option.some Jvm.ClassFile.FieldType.int)) ∈ tB := tB_4 42 rfl rfl
theorem tw_763 : (Jvm.Cond.methodLink "NotePressModel" (91 : Nat) ({ cls := "NotePressModel", name := "first", desc := "(II)I" } : Jvm.MethodName)) ∈ tB := tB_4 43 rfl rfl
theorem tw_765 : (Jvm.Cond.instanceMethod ({ cls := "NotePressModel", name := "first", desc := "(II)I" } : Jvm.MethodName)) ∈ tB := tB_4 45 rfl rfl
theorem tw_766 : (Jvm.Cond.code ({ cls := "NotePressModel", name := "first", desc := "(II)I" } : Jvm.MethodName) prog_10_method_18_code (5 : Nat) (Option.some Jvm.ClassFile.FieldType.int)) ∈ tB := tB_4 46 rfl rfl
theorem tw_767 : (Jvm.Cond.methodLink "NotePressModel" (128 : Nat) ({ cls := "NotePressModel", name := "starAt", desc := "(II)I" } : Jvm.MethodName)) ∈ tB := tB_4 47 rfl rfl
theorem tw_769 : (Jvm.Cond.instanceMethod ({ cls := "NotePressModel", name := "starAt", desc := "(II)I" } : Jvm.MethodName)) ∈ tB := tB_4 49 rfl rfl
theorem tw_770 : (Jvm.Cond.code ({ cls := "NotePressModel", name := "starAt", desc := "(II)I" } : Jvm.MethodName) prog_10_method_22_code (4 : Nat) (Option.some Jvm.ClassFile.FieldType.int)) ∈ tB := tB_4 50 rfl rfl
theorem tw_771 : (Jvm.Cond.methodLink "NotePressModel" (131 : Nat) ({ cls := "NotePressModel", name := "stands", desc := "(II)I" } : Jvm.MethodName)) ∈ tB := tB_4 51 rfl rfl
theorem tw_773 : (Jvm.Cond.instanceMethod ({ cls := "NotePressModel", name := "stands", desc := "(II)I" } : Jvm.MethodName)) ∈ tB := tB_4 53 rfl rfl
theorem tw_774 : (Jvm.Cond.code ({ cls := "NotePressModel", name := "stands", desc := "(II)I" } : Jvm.MethodName) prog_10_method_32_code (4 : Nat) (Option.some Jvm.ClassFile.FieldType.int)) ∈ tB := tB_4 54 rfl rfl
theorem tw_775 : (Jvm.Cond.methodLink "NotePressLaw" (44 : Nat) ({ cls := "NotePressModel", name := "spoilSheet", desc := "(III)I" } : Jvm.MethodName)) ∈ tB := tB_4 55 rfl rfl
theorem tw_776 : (Jvm.Cond.instanceMethod ({ cls := "NotePressModel", name := "spoilSheet", desc := "(III)I" } : Jvm.MethodName)) ∈ tB := tB_4 56 rfl rfl
theorem tw_777 : (Jvm.Cond.selects "NotePressModel" ({ cls := "NotePressModel", name := "spoilSheet", desc := "(III)I" } : Jvm.MethodName) ({ cls := "NotePressModel", name := "spoilSheet", desc := "(III)I" } : Jvm.MethodName)) ∈ tB := tB_4 57 rfl rfl
theorem tw_778 : (Jvm.Cond.code ({ cls := "NotePressModel", name := "spoilSheet", desc := "(III)I" } : Jvm.MethodName) prog_10_method_35_code (8 : Nat) (Option.some Jvm.ClassFile.FieldType.int)) ∈ tB := tB_4 58 rfl rfl
theorem tw_779 : (Jvm.Cond.methodLink "NotePressModel" (134 : Nat) ({ cls := "NotePressModel", name := "numberAt", desc := "(IIII)I" } : Jvm.MethodName)) ∈ tB := tB_4 59 rfl rfl
theorem tw_781 : (Jvm.Cond.instanceMethod ({ cls := "NotePressModel", name := "numberAt", desc := "(IIII)I" } : Jvm.MethodName)) ∈ tB := tB_4 61 rfl rfl
theorem tw_782 : (Jvm.Cond.code ({ cls := "NotePressModel", name := "numberAt", desc := "(IIII)I" } : Jvm.MethodName) prog_10_method_34_code (5 : Nat) (Option.some Jvm.ClassFile.FieldType.int)) ∈ tB := tB_4 62 rfl rfl
theorem tw_783 : (Jvm.Cond.methodLink "NotePressLaw" (52 : Nat) ({ cls := "NotePressModel", name := "series", desc := "(II)I" } : Jvm.MethodName)) ∈ tB := tB_4 63 rfl rfl
theorem tw_784 : (Jvm.Cond.instanceMethod ({ cls := "NotePressModel", name := "series", desc := "(II)I" } : Jvm.MethodName)) ∈ tB := tB_4 64 rfl rfl
theorem tw_785 : (Jvm.Cond.selects "NotePressModel" ({ cls := "NotePressModel", name := "series", desc := "(II)I" } : Jvm.MethodName) ({ cls := "NotePressModel", name := "series", desc := "(II)I" } : Jvm.MethodName)) ∈ tB := tB_4 65 rfl rfl
theorem tw_786 : (Jvm.Cond.code ({ cls := "NotePressModel", name := "series", desc := "(II)I" } : Jvm.MethodName) prog_10_method_42_code (3 : Nat) (Option.some Jvm.ClassFile.FieldType.int)) ∈ tB := tB_4 66 rfl rfl
theorem tw_787 : (Jvm.Cond.constantLong "NotePressModel" (144 : Nat) (7 : Int64)) ∈ tB := tB_4 67 rfl rfl
theorem tw_788 : (Jvm.Cond.methodLink "NotePressModel" (146 : Nat) ({ cls := "NotePressModel", name := "printed", desc := "(I)I" } : Jvm.MethodName)) ∈ tB := tB_4 68 rfl rfl
theorem tw_790 : (Jvm.Cond.instanceMethod ({ cls := "NotePressModel", name := "printed", desc := "(I)I" } : Jvm.MethodName)) ∈ tB := tB_4 70 rfl rfl
theorem tw_791 : (Jvm.Cond.code ({ cls := "NotePressModel", name := "printed", desc := "(I)I" } : Jvm.MethodName) prog_10_method_36_code (4 : Nat) (Option.some Jvm.ClassFile.FieldType.int)) ∈ tB := tB_4 71 rfl rfl
theorem tw_792 : (Jvm.Cond.methodLink "NotePressModel" (149 : Nat) ({ cls := "NotePressModel", name := "spoiled", desc := "(I)I" } : Jvm.MethodName)) ∈ tB := tB_4 72 rfl rfl
theorem tw_794 : (Jvm.Cond.instanceMethod ({ cls := "NotePressModel", name := "spoiled", desc := "(I)I" } : Jvm.MethodName)) ∈ tB := tB_4 74 rfl rfl
theorem tw_795 : (Jvm.Cond.code ({ cls := "NotePressModel", name := "spoiled", desc := "(I)I" } : Jvm.MethodName) prog_10_method_37_code (4 : Nat) (Option.some Jvm.ClassFile.FieldType.int)) ∈ tB := tB_4 75 rfl rfl
theorem tw_796 : (Jvm.Cond.methodLink "NotePressModel" (152 : Nat) ({ cls := "NotePressModel", name := "leftOf", desc := "(I)I" } : Jvm.MethodName)) ∈ tB := tB_4 76 rfl rfl
theorem tw_798 : (Jvm.Cond.instanceMethod ({ cls := "NotePressModel", name := "leftOf", desc := "(I)I" } : Jvm.MethodName)) ∈ tB := tB_4 78 rfl rfl
theorem tw_799 : (Jvm.Cond.code ({ cls := "NotePressModel", name := "leftOf", desc := "(I)I" } : Jvm.MethodName) prog_10_method_38_code (4 : Nat) (Option.some Jvm.ClassFile.FieldType.int)) ∈ tB := tB_4 79 rfl rfl
theorem tw_800 : (Jvm.Cond.methodLink "NotePressModel" (138 : Nat) ({ cls := "NotePressModel", name := "packs", desc := "(I)I" } : Jvm.MethodName)) ∈ tB := tB_4 80 rfl rfl
theorem tw_802 : (Jvm.Cond.instanceMethod ({ cls := "NotePressModel", name := "packs", desc := "(I)I" } : Jvm.MethodName)) ∈ tB := tB_4 82 rfl rfl
theorem tw_803 : (Jvm.Cond.code ({ cls := "NotePressModel", name := "packs", desc := "(I)I" } : Jvm.MethodName) prog_10_method_39_code (2 : Nat) (Option.some Jvm.ClassFile.FieldType.int)) ∈ tB := tB_4 83 rfl rfl
theorem tw_804 : (Jvm.Cond.methodLink "NotePressModel" (155 : Nat) ({ cls := "NotePressModel", name := "wholes", desc := "(I)I" } : Jvm.MethodName)) ∈ tB := tB_4 84 rfl rfl
theorem tw_806 : (Jvm.Cond.instanceMethod ({ cls := "NotePressModel", name := "wholes", desc := "(I)I" } : Jvm.MethodName)) ∈ tB := tB_4 86 rfl rfl
theorem tw_807 : (Jvm.Cond.code ({ cls := "NotePressModel", name := "wholes", desc := "(I)I" } : Jvm.MethodName) prog_10_method_41_code (4 : Nat) (Option.some Jvm.ClassFile.FieldType.int)) ∈ tB := tB_4 87 rfl rfl
theorem tw_808 : (Jvm.Cond.methodLink "NotePressModel" (141 : Nat) ({ cls := "NotePressModel", name := "isWhole", desc := "(II)Z" } : Jvm.MethodName)) ∈ tB := tB_4 88 rfl rfl
theorem tw_810 : (Jvm.Cond.instanceMethod ({ cls := "NotePressModel", name := "isWhole", desc := "(II)Z" } : Jvm.MethodName)) ∈ tB := tB_4 90 rfl rfl
theorem tw_811 : (Jvm.Cond.code ({ cls := "NotePressModel", name := "isWhole", desc := "(II)Z" } : Jvm.MethodName) prog_10_method_40_code (4 : Nat) (Option.some Jvm.ClassFile.FieldType.boolean)) ∈ tB := tB_4 91 rfl rfl
theorem tw_812 : (Jvm.Cond.methodLink "NotePressLaw" (56 : Nat) ({ cls := "NotePressModel", name := "share", desc := "(III)I" } : Jvm.MethodName)) ∈ tB := tB_4 92 rfl rfl
theorem tw_813 : (Jvm.Cond.instanceMethod ({ cls := "NotePressModel", name := "share", desc := "(III)I" } : Jvm.MethodName)) ∈ tB := tB_4 93 rfl rfl
theorem tw_814 : (Jvm.Cond.selects "NotePressModel" ({ cls := "NotePressModel", name := "share", desc := "(III)I" } : Jvm.MethodName) ({ cls := "NotePressModel", name := "share", desc := "(III)I" } : Jvm.MethodName)) ∈ tB := tB_4 94 rfl rfl
theorem tw_815 : (Jvm.Cond.code ({ cls := "NotePressModel", name := "share", desc := "(III)I" } : Jvm.MethodName) prog_10_method_43_code (4 : Nat) (Option.some Jvm.ClassFile.FieldType.int)) ∈ tB := tB_4 95 rfl rfl
theorem tw_816 : (Jvm.Cond.constantLong "NotePressModel" (158 : Nat) (3 : Int64)) ∈ tB := tB_4 96 rfl rfl
theorem tw_817 : (Jvm.Cond.methodLink "NotePressLaw" (60 : Nat) ({ cls := "NotePressModel", name := "where", desc := "(III)I" } : Jvm.MethodName)) ∈ tB := tB_4 97 rfl rfl
theorem tw_818 : (Jvm.Cond.instanceMethod ({ cls := "NotePressModel", name := "where", desc := "(III)I" } : Jvm.MethodName)) ∈ tB := tB_4 98 rfl rfl
theorem tw_819 : (Jvm.Cond.selects "NotePressModel" ({ cls := "NotePressModel", name := "where", desc := "(III)I" } : Jvm.MethodName) ({ cls := "NotePressModel", name := "where", desc := "(III)I" } : Jvm.MethodName)) ∈ tB := tB_4 99 rfl rfl
theorem tw_820 : (Jvm.Cond.code ({ cls := "NotePressModel", name := "where", desc := "(III)I" } : Jvm.MethodName) prog_10_method_44_code (5 : Nat) (Option.some Jvm.ClassFile.FieldType.int)) ∈ tB := tB_4 100 rfl rfl
theorem tw_821 : (Jvm.Cond.constantLong "NotePressModel" (160 : Nat) (2 : Int64)) ∈ tB := tB_4 101 rfl rfl
theorem tw_822 : (Jvm.Cond.methodLink "NotePressLaw" (65 : Nat) ({ cls := "NotePressModel", name := "number", desc := "(IIII)I" } : Jvm.MethodName)) ∈ tB := tB_4 102 rfl rfl
theorem tw_823 : (Jvm.Cond.instanceMethod ({ cls := "NotePressModel", name := "number", desc := "(IIII)I" } : Jvm.MethodName)) ∈ tB := tB_4 103 rfl rfl
theorem tw_824 : (Jvm.Cond.selects "NotePressModel" ({ cls := "NotePressModel", name := "number", desc := "(IIII)I" } : Jvm.MethodName) ({ cls := "NotePressModel", name := "number", desc := "(IIII)I" } : Jvm.MethodName)) ∈ tB := tB_4 104 rfl rfl
theorem tw_825 : (Jvm.Cond.code ({ cls := "NotePressModel", name := "number", desc := "(IIII)I" } : Jvm.MethodName) prog_10_method_45_code (6 : Nat) (Option.some Jvm.ClassFile.FieldType.int)) ∈ tB := tB_4 105 rfl rfl
theorem tw_826 : (Jvm.Cond.methodLink "NotePressLaw" (77 : Nat) ({ cls := "NotePressModel", name := "note", desc := "(II)I" } : Jvm.MethodName)) ∈ tB := tB_4 106 rfl rfl
theorem tw_827 : (Jvm.Cond.instanceMethod ({ cls := "NotePressModel", name := "note", desc := "(II)I" } : Jvm.MethodName)) ∈ tB := tB_4 107 rfl rfl
theorem tw_828 : (Jvm.Cond.selects "NotePressModel" ({ cls := "NotePressModel", name := "note", desc := "(II)I" } : Jvm.MethodName) ({ cls := "NotePressModel", name := "note", desc := "(II)I" } : Jvm.MethodName)) ∈ tB := tB_4 108 rfl rfl
theorem tw_829 : (Jvm.Cond.code ({ cls := "NotePressModel", name := "note", desc := "(II)I" } : Jvm.MethodName) prog_10_method_46_code (3 : Nat) (Option.some Jvm.ClassFile.FieldType.int)) ∈ tB := tB_4 109 rfl rfl
theorem tw_830 : (Jvm.Cond.methodLink "NotePressLaw" (81 : Nat) ({ cls := "NotePressModel", name := "star", desc := "(II)I" } : Jvm.MethodName)) ∈ tB := tB_4 110 rfl rfl
theorem tw_831 : (Jvm.Cond.instanceMethod ({ cls := "NotePressModel", name := "star", desc := "(II)I" } : Jvm.MethodName)) ∈ tB := tB_4 111 rfl rfl
theorem tw_832 : (Jvm.Cond.selects "NotePressModel" ({ cls := "NotePressModel", name := "star", desc := "(II)I" } : Jvm.MethodName) ({ cls := "NotePressModel", name := "star", desc := "(II)I" } : Jvm.MethodName)) ∈ tB := tB_4 112 rfl rfl
theorem tw_833 : (Jvm.Cond.code ({ cls := "NotePressModel", name := "star", desc := "(II)I" } : Jvm.MethodName) prog_10_method_47_code (3 : Nat) (Option.some Jvm.ClassFile.FieldType.int)) ∈ tB := tB_4 113 rfl rfl
theorem tw_834 : (Jvm.Cond.methodLink "NotePressLaw" (85 : Nat) ({ cls := "NotePressModel", name := "starOf", desc := "(II)I" } : Jvm.MethodName)) ∈ tB := tB_4 114 rfl rfl
theorem tw_835 : (Jvm.Cond.instanceMethod ({ cls := "NotePressModel", name := "starOf", desc := "(II)I" } : Jvm.MethodName)) ∈ tB := tB_4 115 rfl rfl
theorem tw_836 : (Jvm.Cond.selects "NotePressModel" ({ cls := "NotePressModel", name := "starOf", desc := "(II)I" } : Jvm.MethodName) ({ cls := "NotePressModel", name := "starOf", desc := "(II)I" } : Jvm.MethodName)) ∈ tB := tB_4 116 rfl rfl
theorem tw_837 : (Jvm.Cond.code ({ cls := "NotePressModel", name := "starOf", desc := "(II)I" } : Jvm.MethodName) prog_10_method_48_code (3 : Nat) (Option.some Jvm.ClassFile.FieldType.int)) ∈ tB := tB_4 117 rfl rfl
theorem tw_838 : (Jvm.Cond.methodLink "NotePressLaw" (89 : Nat) ({ cls := "NotePressModel", name := "judge", desc := "(III)I" } : Jvm.MethodName)) ∈ tB := tB_4 118 rfl rfl
theorem tw_839 : (Jvm.Cond.instanceMethod ({ cls := "NotePressModel", name := "judge", desc := "(III)I" } : Jvm.MethodName)) ∈ tB := tB_4 119 rfl rfl
theorem tw_840 : (Jvm.Cond.selects "NotePressModel" ({ cls := "NotePressModel", name := "judge", desc := "(III)I" } : Jvm.MethodName) ({ cls := "NotePressModel", name := "judge", desc := "(III)I" } : Jvm.MethodName)) ∈ tB := tB_4 120 rfl rfl
theorem tw_841 : (Jvm.Cond.code ({ cls := "NotePressModel", name := "judge", desc := "(III)I" } : Jvm.MethodName) prog_10_method_50_code (5 : Nat) (Option.some Jvm.ClassFile.FieldType.int)) ∈ tB := tB_4 121 rfl rfl
theorem tw_842 : (Jvm.Cond.constantLong "NotePressModel" (162 : Nat) (26 : Int64)) ∈ tB := tB_4 122 rfl rfl
theorem tw_843 : (Jvm.Cond.constantLong "NotePressModel" (164 : Nat) (99 : Int64)) ∈ tB := tB_4 123 rfl rfl
theorem tw_844 : (Jvm.Cond.methodLink "NotePressModel" (166 : Nat) ({ cls := "NotePressModel", name := "judgeStar", desc := "(II)I" } : Jvm.MethodName)) ∈ tB := tB_4 124 rfl rfl
theorem tw_846 : (Jvm.Cond.instanceMethod ({ cls := "NotePressModel", name := "judgeStar", desc := "(II)I" } : Jvm.MethodName)) ∈ tB := tB_4 126 rfl rfl
theorem tw_847 : (Jvm.Cond.code ({ cls := "NotePressModel", name := "judgeStar", desc := "(II)I" } : Jvm.MethodName) prog_10_method_49_code (3 : Nat) (Option.some Jvm.ClassFile.FieldType.int)) ∈ tB := tB_4 127 rfl rfl
theorem tw_848 : (Jvm.Cond.methodLink "NotePressLaw" (93 : Nat) ({ cls := "NotePressModel", name := "pack", desc := "(III)I" } : Jvm.MethodName)) ∈ tB := tB_4 128 rfl rfl
theorem tw_849 : (Jvm.Cond.instanceMethod ({ cls := "NotePressModel", name := "pack", desc := "(III)I" } : Jvm.MethodName)) ∈ tB := tB_4 129 rfl rfl
theorem tw_850 : (Jvm.Cond.selects "NotePressModel" ({ cls := "NotePressModel", name := "pack", desc := "(III)I" } : Jvm.MethodName) ({ cls := "NotePressModel", name := "pack", desc := "(III)I" } : Jvm.MethodName)) ∈ tB := tB_4 130 rfl rfl
theorem tw_851 : (Jvm.Cond.code ({ cls := "NotePressModel", name := "pack", desc := "(III)I" } : Jvm.MethodName) prog_10_method_51_code (6 : Nat) (Option.some Jvm.ClassFile.FieldType.int)) ∈ tB := tB_4 131 rfl rfl
theorem tw_852 : (Jvm.Cond.constantLong "NotePressModel" (169 : Nat) (9 : Int64)) ∈ tB := tB_4 132 rfl rfl
theorem tw_853 : (Jvm.Cond.methodLink "NotePressLaw" (97 : Nat) ({ cls := "NotePressModel", name := "count", desc := "(I)I" } : Jvm.MethodName)) ∈ tB := tB_4 133 rfl rfl
theorem tw_854 : (Jvm.Cond.instanceMethod ({ cls := "NotePressModel", name := "count", desc := "(I)I" } : Jvm.MethodName)) ∈ tB := tB_4 134 rfl rfl
theorem tw_855 : (Jvm.Cond.selects "NotePressModel" ({ cls := "NotePressModel", name := "count", desc := "(I)I" } : Jvm.MethodName) ({ cls := "NotePressModel", name := "count", desc := "(I)I" } : Jvm.MethodName)) ∈ tB := tB_4 135 rfl rfl
theorem tw_856 : (Jvm.Cond.code ({ cls := "NotePressModel", name := "count", desc := "(I)I" } : Jvm.MethodName) prog_10_method_52_code (6 : Nat) (Option.some Jvm.ClassFile.FieldType.int)) ∈ tB := tB_4 136 rfl rfl
theorem tw_857 : (Jvm.Cond.fieldLink "java/lang/String" (9 : Nat) "java/lang/String" "value" "[B") ∈ tB := tB_4 137 rfl rfl
theorem tw_858 : (Jvm.Cond.fieldLink "java/lang/String" (15 : Nat) "java/lang/String" "coder" "B") ∈ tB := tB_4 138 rfl rfl
theorem ts_0 : Cond.selects "NotePress" ⟨"NotePress", "layText", "()Z"⟩ ⟨"NotePress", "layText", "()Z"⟩ ∈ tB := tB_s 0 rfl rfl
theorem ts_1 : Cond.selects "NotePress$Text" ⟨"NotePress$Text", "readItem", "(LNotePress$Plan;)Z"⟩ ⟨"NotePress$Text", "readItem", "(LNotePress$Plan;)Z"⟩ ∈ tB := tB_s 1 rfl rfl
theorem ts_2 : Cond.selects "NotePress$Text" ⟨"NotePress$Text", "skip", "(I)Z"⟩ ⟨"NotePress$Text", "skip", "(I)Z"⟩ ∈ tB := tB_s 2 rfl rfl
theorem ts_3 : Cond.selects "NotePress$Text" ⟨"NotePress$Text", "readPress", "(LNotePress$Plan;)Z"⟩ ⟨"NotePress$Text", "readPress", "(LNotePress$Plan;)Z"⟩ ∈ tB := tB_s 3 rfl rfl
theorem ts_4 : Cond.selects "NotePress$Text" ⟨"NotePress$Text", "readNumber", "()I"⟩ ⟨"NotePress$Text", "readNumber", "()I"⟩ ∈ tB := tB_s 4 rfl rfl
theorem ts_5 : Cond.selects "NotePress$Text" ⟨"NotePress$Text", "readFigure", "()I"⟩ ⟨"NotePress$Text", "readFigure", "()I"⟩ ∈ tB := tB_s 5 rfl rfl
theorem ts_6 : Cond.selects "NotePress$Text" ⟨"NotePress$Text", "readSeries", "(LNotePress$Plan;)Z"⟩ ⟨"NotePress$Text", "readSeries", "(LNotePress$Plan;)Z"⟩ ∈ tB := tB_s 6 rfl rfl
theorem ts_7 : Cond.selects "NotePress$Text" ⟨"NotePress$Text", "readLetter", "()I"⟩ ⟨"NotePress$Text", "readLetter", "()I"⟩ ∈ tB := tB_s 7 rfl rfl
theorem ts_8 : Cond.selects "NotePress$Text" ⟨"NotePress$Text", "readStars", "(LNotePress$Plan;)Z"⟩ ⟨"NotePress$Text", "readStars", "(LNotePress$Plan;)Z"⟩ ∈ tB := tB_s 8 rfl rfl
theorem ts_9 : Cond.selects "NotePress$Changes" ⟨"NotePress$Changes", "remember", "(LNotePress$Share;I)V"⟩ ⟨"NotePress$Changes", "remember", "(LNotePress$Share;I)V"⟩ ∈ tB := tB_s 9 rfl rfl
theorem ts_10 : Cond.selects "NotePress$Changes" ⟨"NotePress$Changes", "forgetOldest", "()V"⟩ ⟨"NotePress$Changes", "forgetOldest", "()V"⟩ ∈ tB := tB_s 10 rfl rfl
theorem ts_11 : Cond.selects "NotePress" ⟨"NotePress", "unspoiledOfSheet", "(ILNotePress$Share;I)I"⟩ ⟨"NotePress", "unspoiledOfSheet", "(ILNotePress$Share;I)I"⟩ ∈ tB := tB_s 11 rfl rfl
theorem ts_12 : Cond.selects "NotePress" ⟨"NotePress", "judgeStar", "(II)I"⟩ ⟨"NotePress", "judgeStar", "(II)I"⟩ ∈ tB := tB_s 12 rfl rfl
theorem ts_13 : Cond.selects "NotePress" ⟨"NotePress", "judgeNote", "(III)I"⟩ ⟨"NotePress", "judgeNote", "(III)I"⟩ ∈ tB := tB_s 13 rfl rfl
theorem ts_14 : Cond.selects "NotePressModel" ⟨"NotePressModel", "adds", "(IIII)V"⟩ ⟨"NotePressModel", "adds", "(IIII)V"⟩ ∈ tB := tB_s 14 rfl rfl
theorem ts_15 : Cond.selects "NotePressModel" ⟨"NotePressModel", "item", "(I)Z"⟩ ⟨"NotePressModel", "item", "(I)Z"⟩ ∈ tB := tB_s 15 rfl rfl
theorem ts_16 : Cond.selects "NotePressModel" ⟨"NotePressModel", "number2", "(III)Z"⟩ ⟨"NotePressModel", "number2", "(III)Z"⟩ ∈ tB := tB_s 16 rfl rfl
theorem ts_17 : Cond.selects "NotePressModel" ⟨"NotePressModel", "byteAt", "(I)I"⟩ ⟨"NotePressModel", "byteAt", "(I)I"⟩ ∈ tB := tB_s 17 rfl rfl
theorem ts_18 : Cond.selects "NotePressModel" ⟨"NotePressModel", "seriesItem", "()Z"⟩ ⟨"NotePressModel", "seriesItem", "()Z"⟩ ∈ tB := tB_s 18 rfl rfl
theorem ts_19 : Cond.selects "NotePressModel" ⟨"NotePressModel", "gone", "(I)Z"⟩ ⟨"NotePressModel", "gone", "(I)Z"⟩ ∈ tB := tB_s 19 rfl rfl
theorem ts_20 : Cond.selects "NotePressModel" ⟨"NotePressModel", "isSeries", "(I)Z"⟩ ⟨"NotePressModel", "isSeries", "(I)Z"⟩ ∈ tB := tB_s 20 rfl rfl
theorem ts_21 : Cond.selects "NotePressModel" ⟨"NotePressModel", "checkIn", "(II)I"⟩ ⟨"NotePressModel", "checkIn", "(II)I"⟩ ∈ tB := tB_s 21 rfl rfl
theorem ts_22 : Cond.selects "NotePressModel" ⟨"NotePressModel", "isPress", "(I)Z"⟩ ⟨"NotePressModel", "isPress", "(I)Z"⟩ ∈ tB := tB_s 22 rfl rfl
theorem ts_23 : Cond.selects "NotePressModel" ⟨"NotePressModel", "sheets", "(II)I"⟩ ⟨"NotePressModel", "sheets", "(II)I"⟩ ∈ tB := tB_s 23 rfl rfl
theorem ts_24 : Cond.selects "NotePressModel" ⟨"NotePressModel", "note1", "()V"⟩ ⟨"NotePressModel", "note1", "()V"⟩ ∈ tB := tB_s 24 rfl rfl
theorem ts_25 : Cond.selects "NotePressModel" ⟨"NotePressModel", "isNumber", "(II)Z"⟩ ⟨"NotePressModel", "isNumber", "(II)Z"⟩ ∈ tB := tB_s 25 rfl rfl
theorem ts_26 : Cond.selects "NotePressModel" ⟨"NotePressModel", "isPrinted", "(II)Z"⟩ ⟨"NotePressModel", "isPrinted", "(II)Z"⟩ ∈ tB := tB_s 26 rfl rfl
theorem ts_27 : Cond.selects "NotePressModel" ⟨"NotePressModel", "sheetOf", "(II)I"⟩ ⟨"NotePressModel", "sheetOf", "(II)I"⟩ ∈ tB := tB_s 27 rfl rfl
theorem ts_28 : Cond.selects "NotePressModel" ⟨"NotePressModel", "pressOf", "(II)I"⟩ ⟨"NotePressModel", "pressOf", "(II)I"⟩ ∈ tB := tB_s 28 rfl rfl
theorem ts_29 : Cond.selects "NotePressModel" ⟨"NotePressModel", "first", "(II)I"⟩ ⟨"NotePressModel", "first", "(II)I"⟩ ∈ tB := tB_s 29 rfl rfl
theorem ts_30 : Cond.selects "NotePressModel" ⟨"NotePressModel", "starAt", "(II)I"⟩ ⟨"NotePressModel", "starAt", "(II)I"⟩ ∈ tB := tB_s 30 rfl rfl
theorem ts_31 : Cond.selects "NotePressModel" ⟨"NotePressModel", "stands", "(II)I"⟩ ⟨"NotePressModel", "stands", "(II)I"⟩ ∈ tB := tB_s 31 rfl rfl
theorem ts_32 : Cond.selects "NotePressModel" ⟨"NotePressModel", "numberAt", "(IIII)I"⟩ ⟨"NotePressModel", "numberAt", "(IIII)I"⟩ ∈ tB := tB_s 32 rfl rfl
theorem ts_33 : Cond.selects "NotePressModel" ⟨"NotePressModel", "printed", "(I)I"⟩ ⟨"NotePressModel", "printed", "(I)I"⟩ ∈ tB := tB_s 33 rfl rfl
theorem ts_34 : Cond.selects "NotePressModel" ⟨"NotePressModel", "spoiled", "(I)I"⟩ ⟨"NotePressModel", "spoiled", "(I)I"⟩ ∈ tB := tB_s 34 rfl rfl
theorem ts_35 : Cond.selects "NotePressModel" ⟨"NotePressModel", "leftOf", "(I)I"⟩ ⟨"NotePressModel", "leftOf", "(I)I"⟩ ∈ tB := tB_s 35 rfl rfl
theorem ts_36 : Cond.selects "NotePressModel" ⟨"NotePressModel", "packs", "(I)I"⟩ ⟨"NotePressModel", "packs", "(I)I"⟩ ∈ tB := tB_s 36 rfl rfl
theorem ts_37 : Cond.selects "NotePressModel" ⟨"NotePressModel", "wholes", "(I)I"⟩ ⟨"NotePressModel", "wholes", "(I)I"⟩ ∈ tB := tB_s 37 rfl rfl
theorem ts_38 : Cond.selects "NotePressModel" ⟨"NotePressModel", "isWhole", "(II)Z"⟩ ⟨"NotePressModel", "isWhole", "(II)Z"⟩ ∈ tB := tB_s 38 rfl rfl
theorem ts_39 : Cond.selects "NotePressModel" ⟨"NotePressModel", "judgeStar", "(II)I"⟩ ⟨"NotePressModel", "judgeStar", "(II)I"⟩ ∈ tB := tB_s 39 rfl rfl
theorem in_X0 : ∀ w ∈ u_ws RX0 TX0 3, w ∈ tB := by
  intro w hw
  obtain ⟨j, hj, rfl⟩ := List.mem_map.mp hw
  have hj := List.mem_range.mp hj
  match j, hj with
  | 0, _ => exact tw_74
  | 1, _ => exact tw_76
  | 2, _ => exact tw_78
  | j + 3, hj => exact absurd hj (by omega)
theorem in_X2 : ∀ w ∈ u_ws RX2 TX2 5, w ∈ tB := by
  intro w hw
  obtain ⟨j, hj, rfl⟩ := List.mem_map.mp hw
  have hj := List.mem_range.mp hj
  match j, hj with
  | 0, _ => exact tw_151
  | 1, _ => exact tw_153
  | 2, _ => exact tw_155
  | 3, _ => exact tw_157
  | 4, _ => exact tw_159
  | j + 5, hj => exact absurd hj (by omega)
theorem in_X3 : ∀ w ∈ u_ws RX3 TX3 5, w ∈ tB := by
  intro w hw
  obtain ⟨j, hj, rfl⟩ := List.mem_map.mp hw
  have hj := List.mem_range.mp hj
  match j, hj with
  | 0, _ => exact tw_129
  | 1, _ => exact tw_131
  | 2, _ => exact tw_133
  | 3, _ => exact tw_135
  | 4, _ => exact tw_137
  | j + 5, hj => exact absurd hj (by omega)
theorem in_X4 : ∀ w ∈ u_ws RX4 TX4 4, w ∈ tB := by
  intro w hw
  obtain ⟨j, hj, rfl⟩ := List.mem_map.mp hw
  have hj := List.mem_range.mp hj
  match j, hj with
  | 0, _ => exact tw_110
  | 1, _ => exact tw_112
  | 2, _ => exact tw_114
  | 3, _ => exact tw_116
  | j + 4, hj => exact absurd hj (by omega)
theorem in_X5 : ∀ w ∈ u_ws RX5 TX5 4, w ∈ tB := by
  intro w hw
  obtain ⟨j, hj, rfl⟩ := List.mem_map.mp hw
  have hj := List.mem_range.mp hj
  match j, hj with
  | 0, _ => exact tw_53
  | 1, _ => exact tw_55
  | 2, _ => exact tw_57
  | 3, _ => exact tw_59
  | j + 4, hj => exact absurd hj (by omega)
theorem in_X6 : ∀ w ∈ u_ws RX6 TX6 3, w ∈ tB := by
  intro w hw
  obtain ⟨j, hj, rfl⟩ := List.mem_map.mp hw
  have hj := List.mem_range.mp hj
  match j, hj with
  | 0, _ => exact tw_33
  | 1, _ => exact tw_35
  | 2, _ => exact tw_37
  | j + 3, hj => exact absurd hj (by omega)
theorem in_X7 : ∀ w ∈ u_ws RX7 TX7 5, w ∈ tB := by
  intro w hw
  obtain ⟨j, hj, rfl⟩ := List.mem_map.mp hw
  have hj := List.mem_range.mp hj
  match j, hj with
  | 0, _ => exact tw_310
  | 1, _ => exact tw_312
  | 2, _ => exact tw_314
  | 3, _ => exact tw_316
  | 4, _ => exact tw_318
  | j + 5, hj => exact absurd hj (by omega)
theorem in_X8 : ∀ w ∈ u_ws RX8 TX8 8, w ∈ tB := by
  intro w hw
  obtain ⟨j, hj, rfl⟩ := List.mem_map.mp hw
  have hj := List.mem_range.mp hj
  match j, hj with
  | 0, _ => exact tw_630
  | 1, _ => exact tw_632
  | 2, _ => exact tw_634
  | 3, _ => exact tw_636
  | 4, _ => exact tw_638
  | 5, _ => exact tw_640
  | 6, _ => exact tw_642
  | 7, _ => exact tw_644
  | j + 8, hj => exact absurd hj (by omega)
end
section
theorem dJ0_length_8abf5_0 : decode cJ0_length_8abf5 0 = .ok (.aload_n 0, 1) := by decide +kernel
theorem dJ0_length_8abf5_1 : decode cJ0_length_8abf5 1 = .ok (.getfield 9, 3) := by decide +kernel
theorem dJ0_length_8abf5_4 : decode cJ0_length_8abf5 4 = .ok (.arraylength, 1) := by decide +kernel
theorem dJ0_length_8abf5_5 : decode cJ0_length_8abf5 5 = .ok (.aload_n 0, 1) := by decide +kernel
theorem dJ0_length_8abf5_6 : decode cJ0_length_8abf5 6 = .ok (.invokevirtual 335, 3) := by decide +kernel
theorem dJ0_length_8abf5_9 : decode cJ0_length_8abf5 9 = .ok (.ishr, 1) := by decide +kernel
theorem dJ0_length_8abf5_10 : decode cJ0_length_8abf5 10 = .ok (.ireturn, 1) := by decide +kernel
theorem dJ0_charAt_5068e_0 : decode cJ0_charAt_5068e 0 = .ok (.aload_n 0, 1) := by decide +kernel
theorem dJ0_charAt_5068e_1 : decode cJ0_charAt_5068e 1 = .ok (.invokevirtual 492, 3) := by decide +kernel
theorem dJ0_charAt_5068e_4 : decode cJ0_charAt_5068e 4 = .ok (.ifCond .eq 12, 3) := by decide +kernel
theorem dJ0_charAt_5068e_7 : decode cJ0_charAt_5068e 7 = .ok (.aload_n 0, 1) := by decide +kernel
theorem dJ0_charAt_5068e_8 : decode cJ0_charAt_5068e 8 = .ok (.getfield 9, 3) := by decide +kernel
theorem dJ0_charAt_5068e_11 : decode cJ0_charAt_5068e 11 = .ok (.iload_n 1, 1) := by decide +kernel
theorem dJ0_charAt_5068e_12 : decode cJ0_charAt_5068e 12 = .ok (.invokestatic 495, 3) := by decide +kernel
theorem dJ0_charAt_5068e_15 : decode cJ0_charAt_5068e 15 = .ok (.ireturn, 1) := by decide +kernel
theorem dJ0_charAt_5068e_16 : decode cJ0_charAt_5068e 16 = .ok (.aload_n 0, 1) := by decide +kernel
theorem dJ0_charAt_5068e_17 : decode cJ0_charAt_5068e 17 = .ok (.getfield 9, 3) := by decide +kernel
theorem dJ0_charAt_5068e_20 : decode cJ0_charAt_5068e 20 = .ok (.iload_n 1, 1) := by decide +kernel
theorem dJ0_charAt_5068e_21 : decode cJ0_charAt_5068e 21 = .ok (.invokestatic 498, 3) := by decide +kernel
theorem dJ0_charAt_5068e_24 : decode cJ0_charAt_5068e 24 = .ok (.ireturn, 1) := by decide +kernel
theorem dJ0_coder_7d493_0 : decode cJ0_coder_7d493 0 = .ok (.getstatic 38, 3) := by decide +kernel
theorem dJ0_coder_7d493_3 : decode cJ0_coder_7d493 3 = .ok (.ifCond .eq 10, 3) := by decide +kernel
theorem dJ0_coder_7d493_6 : decode cJ0_coder_7d493 6 = .ok (.aload_n 0, 1) := by decide +kernel
theorem dJ0_coder_7d493_7 : decode cJ0_coder_7d493 7 = .ok (.getfield 15, 3) := by decide +kernel
theorem dJ0_coder_7d493_10 : decode cJ0_coder_7d493 10 = .ok (.goto 4, 3) := by decide +kernel
theorem dJ0_coder_7d493_13 : decode cJ0_coder_7d493 13 = .ok (.iconst 1, 1) := by decide +kernel
theorem dJ0_coder_7d493_14 : decode cJ0_coder_7d493 14 = .ok (.ireturn, 1) := by decide +kernel
theorem dJ0_isLatin1_aae02_0 : decode cJ0_isLatin1_aae02 0 = .ok (.getstatic 38, 3) := by decide +kernel
theorem dJ0_isLatin1_aae02_3 : decode cJ0_isLatin1_aae02 3 = .ok (.ifCond .eq 14, 3) := by decide +kernel
theorem dJ0_isLatin1_aae02_6 : decode cJ0_isLatin1_aae02 6 = .ok (.aload_n 0, 1) := by decide +kernel
theorem dJ0_isLatin1_aae02_7 : decode cJ0_isLatin1_aae02 7 = .ok (.getfield 15, 3) := by decide +kernel
theorem dJ0_isLatin1_aae02_10 : decode cJ0_isLatin1_aae02 10 = .ok (.ifCond .ne 7, 3) := by decide +kernel
theorem dJ0_isLatin1_aae02_13 : decode cJ0_isLatin1_aae02 13 = .ok (.iconst 1, 1) := by decide +kernel
theorem dJ0_isLatin1_aae02_14 : decode cJ0_isLatin1_aae02 14 = .ok (.goto 4, 3) := by decide +kernel
theorem dJ0_isLatin1_aae02_17 : decode cJ0_isLatin1_aae02 17 = .ok (.iconst 0, 1) := by decide +kernel
theorem dJ0_isLatin1_aae02_18 : decode cJ0_isLatin1_aae02 18 = .ok (.ireturn, 1) := by decide +kernel
theorem dJ0_checkIndex_df160_0 : decode cJ0_checkIndex_df160 0 = .ok (.iload_n 0, 1) := by decide +kernel
theorem dJ0_checkIndex_df160_1 : decode cJ0_checkIndex_df160 1 = .ok (.iload_n 1, 1) := by decide +kernel
theorem dJ0_checkIndex_df160_2 : decode cJ0_checkIndex_df160 2 = .ok (.getstatic 1053, 3) := by decide +kernel
theorem dJ0_checkIndex_df160_5 : decode cJ0_checkIndex_df160 5 = .ok (.invokestatic 1059, 3) := by decide +kernel
theorem dJ0_checkIndex_df160_8 : decode cJ0_checkIndex_df160 8 = .ok (.pop, 1) := by decide +kernel
theorem dJ0_checkIndex_df160_9 : decode cJ0_checkIndex_df160 9 = .ok (.return_, 1) := by decide +kernel
end
section
theorem dJ1_charAt_3b067_0 : decode cJ1_charAt_3b067 0 = .ok (.iload_n 1, 1) := by decide +kernel
theorem dJ1_charAt_3b067_1 : decode cJ1_charAt_3b067 1 = .ok (.aload_n 0, 1) := by decide +kernel
theorem dJ1_charAt_3b067_2 : decode cJ1_charAt_3b067 2 = .ok (.arraylength, 1) := by decide +kernel
theorem dJ1_charAt_3b067_3 : decode cJ1_charAt_3b067 3 = .ok (.invokestatic 9, 3) := by decide +kernel
theorem dJ1_charAt_3b067_6 : decode cJ1_charAt_3b067 6 = .ok (.aload_n 0, 1) := by decide +kernel
theorem dJ1_charAt_3b067_7 : decode cJ1_charAt_3b067 7 = .ok (.iload_n 1, 1) := by decide +kernel
theorem dJ1_charAt_3b067_8 : decode cJ1_charAt_3b067 8 = .ok (.baload, 1) := by decide +kernel
theorem dJ1_charAt_3b067_9 : decode cJ1_charAt_3b067 9 = .ok (.sipush 255, 3) := by decide +kernel
theorem dJ1_charAt_3b067_12 : decode cJ1_charAt_3b067 12 = .ok (.iand, 1) := by decide +kernel
theorem dJ1_charAt_3b067_13 : decode cJ1_charAt_3b067 13 = .ok (.i2c, 1) := by decide +kernel
theorem dJ1_charAt_3b067_14 : decode cJ1_charAt_3b067 14 = .ok (.ireturn, 1) := by decide +kernel
end
section
theorem dJ2_getChar_3b067_0 : decode cJ2_getChar_3b067 0 = .ok (.getstatic 44, 3) := by decide +kernel
theorem dJ2_getChar_3b067_3 : decode cJ2_getChar_3b067 3 = .ok (.ifCond .ne 25, 3) := by decide +kernel
theorem dJ2_getChar_3b067_6 : decode cJ2_getChar_3b067 6 = .ok (.iload_n 1, 1) := by decide +kernel
theorem dJ2_getChar_3b067_7 : decode cJ2_getChar_3b067 7 = .ok (.ifCond .lt 11, 3) := by decide +kernel
theorem dJ2_getChar_3b067_10 : decode cJ2_getChar_3b067 10 = .ok (.iload_n 1, 1) := by decide +kernel
theorem dJ2_getChar_3b067_11 : decode cJ2_getChar_3b067 11 = .ok (.aload_n 0, 1) := by decide +kernel
theorem dJ2_getChar_3b067_12 : decode cJ2_getChar_3b067 12 = .ok (.invokestatic 48, 3) := by decide +kernel
theorem dJ2_getChar_3b067_15 : decode cJ2_getChar_3b067 15 = .ok (.if_icmp .lt 13, 3) := by decide +kernel
theorem dJ2_getChar_3b067_18 : decode cJ2_getChar_3b067 18 = .ok (.new 52, 3) := by decide +kernel
theorem dJ2_getChar_3b067_21 : decode cJ2_getChar_3b067 21 = .ok (.dup, 1) := by decide +kernel
theorem dJ2_getChar_3b067_22 : decode cJ2_getChar_3b067 22 = .ok (.ldc 54, 2) := by decide +kernel
theorem dJ2_getChar_3b067_24 : decode cJ2_getChar_3b067 24 = .ok (.invokespecial 56, 3) := by decide +kernel
theorem dJ2_getChar_3b067_27 : decode cJ2_getChar_3b067 27 = .ok (.athrow, 1) := by decide +kernel
theorem dJ2_getChar_3b067_28 : decode cJ2_getChar_3b067 28 = .ok (.iload_n 1, 1) := by decide +kernel
theorem dJ2_getChar_3b067_29 : decode cJ2_getChar_3b067 29 = .ok (.iconst 1, 1) := by decide +kernel
theorem dJ2_getChar_3b067_30 : decode cJ2_getChar_3b067 30 = .ok (.ishl, 1) := by decide +kernel
theorem dJ2_getChar_3b067_31 : decode cJ2_getChar_3b067 31 = .ok (.istore_n 1, 1) := by decide +kernel
theorem dJ2_getChar_3b067_32 : decode cJ2_getChar_3b067 32 = .ok (.aload_n 0, 1) := by decide +kernel
theorem dJ2_getChar_3b067_33 : decode cJ2_getChar_3b067 33 = .ok (.iload_n 1, 1) := by decide +kernel
theorem dJ2_getChar_3b067_34 : decode cJ2_getChar_3b067 34 = .ok (.iinc 1 1, 3) := by decide +kernel
theorem dJ2_getChar_3b067_37 : decode cJ2_getChar_3b067 37 = .ok (.baload, 1) := by decide +kernel
theorem dJ2_getChar_3b067_38 : decode cJ2_getChar_3b067 38 = .ok (.sipush 255, 3) := by decide +kernel
theorem dJ2_getChar_3b067_41 : decode cJ2_getChar_3b067 41 = .ok (.iand, 1) := by decide +kernel
theorem dJ2_getChar_3b067_42 : decode cJ2_getChar_3b067 42 = .ok (.getstatic 59, 3) := by decide +kernel
theorem dJ2_getChar_3b067_45 : decode cJ2_getChar_3b067 45 = .ok (.ishl, 1) := by decide +kernel
theorem dJ2_getChar_3b067_46 : decode cJ2_getChar_3b067 46 = .ok (.aload_n 0, 1) := by decide +kernel
theorem dJ2_getChar_3b067_47 : decode cJ2_getChar_3b067 47 = .ok (.iload_n 1, 1) := by decide +kernel
theorem dJ2_getChar_3b067_48 : decode cJ2_getChar_3b067 48 = .ok (.baload, 1) := by decide +kernel
theorem dJ2_getChar_3b067_49 : decode cJ2_getChar_3b067 49 = .ok (.sipush 255, 3) := by decide +kernel
theorem dJ2_getChar_3b067_52 : decode cJ2_getChar_3b067 52 = .ok (.iand, 1) := by decide +kernel
theorem dJ2_getChar_3b067_53 : decode cJ2_getChar_3b067 53 = .ok (.getstatic 63, 3) := by decide +kernel
theorem dJ2_getChar_3b067_56 : decode cJ2_getChar_3b067 56 = .ok (.ishl, 1) := by decide +kernel
theorem dJ2_getChar_3b067_57 : decode cJ2_getChar_3b067 57 = .ok (.ior, 1) := by decide +kernel
theorem dJ2_getChar_3b067_58 : decode cJ2_getChar_3b067 58 = .ok (.i2c, 1) := by decide +kernel
theorem dJ2_getChar_3b067_59 : decode cJ2_getChar_3b067 59 = .ok (.ireturn, 1) := by decide +kernel
theorem dJ2_length_9d52b_0 : decode cJ2_length_9d52b 0 = .ok (.aload_n 0, 1) := by decide +kernel
theorem dJ2_length_9d52b_1 : decode cJ2_length_9d52b 1 = .ok (.arraylength, 1) := by decide +kernel
theorem dJ2_length_9d52b_2 : decode cJ2_length_9d52b 2 = .ok (.iconst 1, 1) := by decide +kernel
theorem dJ2_length_9d52b_3 : decode cJ2_length_9d52b 3 = .ok (.ishr, 1) := by decide +kernel
theorem dJ2_length_9d52b_4 : decode cJ2_length_9d52b 4 = .ok (.ireturn, 1) := by decide +kernel
theorem dJ2_charAt_3b067_0 : decode cJ2_charAt_3b067 0 = .ok (.iload_n 1, 1) := by decide +kernel
theorem dJ2_charAt_3b067_1 : decode cJ2_charAt_3b067 1 = .ok (.aload_n 0, 1) := by decide +kernel
theorem dJ2_charAt_3b067_2 : decode cJ2_charAt_3b067 2 = .ok (.invokestatic 67, 3) := by decide +kernel
theorem dJ2_charAt_3b067_5 : decode cJ2_charAt_3b067 5 = .ok (.aload_n 0, 1) := by decide +kernel
theorem dJ2_charAt_3b067_6 : decode cJ2_charAt_3b067 6 = .ok (.iload_n 1, 1) := by decide +kernel
theorem dJ2_charAt_3b067_7 : decode cJ2_charAt_3b067 7 = .ok (.invokestatic 71, 3) := by decide +kernel
theorem dJ2_charAt_3b067_10 : decode cJ2_charAt_3b067 10 = .ok (.ireturn, 1) := by decide +kernel
theorem dJ2_checkIndex_2214a_0 : decode cJ2_checkIndex_2214a 0 = .ok (.iload_n 0, 1) := by decide +kernel
theorem dJ2_checkIndex_2214a_1 : decode cJ2_checkIndex_2214a 1 = .ok (.aload_n 1, 1) := by decide +kernel
theorem dJ2_checkIndex_2214a_2 : decode cJ2_checkIndex_2214a 2 = .ok (.invokestatic 48, 3) := by decide +kernel
theorem dJ2_checkIndex_2214a_5 : decode cJ2_checkIndex_2214a 5 = .ok (.invokestatic 414, 3) := by decide +kernel
theorem dJ2_checkIndex_2214a_8 : decode cJ2_checkIndex_2214a 8 = .ok (.return_, 1) := by decide +kernel
end
section
theorem dJ3_checkIndex_8e157_0 : decode cJ3_checkIndex_8e157 0 = .ok (.iload_n 0, 1) := by decide +kernel
theorem dJ3_checkIndex_8e157_1 : decode cJ3_checkIndex_8e157 1 = .ok (.ifCond .lt 8, 3) := by decide +kernel
theorem dJ3_checkIndex_8e157_4 : decode cJ3_checkIndex_8e157 4 = .ok (.iload_n 0, 1) := by decide +kernel
theorem dJ3_checkIndex_8e157_5 : decode cJ3_checkIndex_8e157 5 = .ok (.iload_n 1, 1) := by decide +kernel
theorem dJ3_checkIndex_8e157_6 : decode cJ3_checkIndex_8e157 6 = .ok (.if_icmp .lt 10, 3) := by decide +kernel
theorem dJ3_checkIndex_8e157_9 : decode cJ3_checkIndex_8e157 9 = .ok (.aload_n 2, 1) := by decide +kernel
theorem dJ3_checkIndex_8e157_10 : decode cJ3_checkIndex_8e157 10 = .ok (.iload_n 0, 1) := by decide +kernel
theorem dJ3_checkIndex_8e157_11 : decode cJ3_checkIndex_8e157 11 = .ok (.iload_n 1, 1) := by decide +kernel
theorem dJ3_checkIndex_8e157_12 : decode cJ3_checkIndex_8e157 12 = .ok (.invokestatic 95, 3) := by decide +kernel
theorem dJ3_checkIndex_8e157_15 : decode cJ3_checkIndex_8e157 15 = .ok (.athrow, 1) := by decide +kernel
theorem dJ3_checkIndex_8e157_16 : decode cJ3_checkIndex_8e157 16 = .ok (.iload_n 0, 1) := by decide +kernel
theorem dJ3_checkIndex_8e157_17 : decode cJ3_checkIndex_8e157 17 = .ok (.ireturn, 1) := by decide +kernel
end
section
theorem dJ9_floorMod_7cf53_0 : decode cJ9_floorMod_7cf53 0 = .ok (.iload_n 0, 1) := by decide +kernel
theorem dJ9_floorMod_7cf53_1 : decode cJ9_floorMod_7cf53 1 = .ok (.iload_n 1, 1) := by decide +kernel
theorem dJ9_floorMod_7cf53_2 : decode cJ9_floorMod_7cf53 2 = .ok (.irem, 1) := by decide +kernel
theorem dJ9_floorMod_7cf53_3 : decode cJ9_floorMod_7cf53 3 = .ok (.istore_n 2, 1) := by decide +kernel
theorem dJ9_floorMod_7cf53_4 : decode cJ9_floorMod_7cf53 4 = .ok (.iload_n 0, 1) := by decide +kernel
theorem dJ9_floorMod_7cf53_5 : decode cJ9_floorMod_7cf53 5 = .ok (.iload_n 1, 1) := by decide +kernel
theorem dJ9_floorMod_7cf53_6 : decode cJ9_floorMod_7cf53 6 = .ok (.ixor, 1) := by decide +kernel
theorem dJ9_floorMod_7cf53_7 : decode cJ9_floorMod_7cf53 7 = .ok (.ifCond .ge 11, 3) := by decide +kernel
theorem dJ9_floorMod_7cf53_10 : decode cJ9_floorMod_7cf53 10 = .ok (.iload_n 2, 1) := by decide +kernel
theorem dJ9_floorMod_7cf53_11 : decode cJ9_floorMod_7cf53 11 = .ok (.ifCond .eq 7, 3) := by decide +kernel
theorem dJ9_floorMod_7cf53_14 : decode cJ9_floorMod_7cf53 14 = .ok (.iload_n 2, 1) := by decide +kernel
theorem dJ9_floorMod_7cf53_15 : decode cJ9_floorMod_7cf53 15 = .ok (.iload_n 1, 1) := by decide +kernel
theorem dJ9_floorMod_7cf53_16 : decode cJ9_floorMod_7cf53 16 = .ok (.iadd, 1) := by decide +kernel
theorem dJ9_floorMod_7cf53_17 : decode cJ9_floorMod_7cf53 17 = .ok (.ireturn, 1) := by decide +kernel
theorem dJ9_floorMod_7cf53_18 : decode cJ9_floorMod_7cf53 18 = .ok (.iload_n 2, 1) := by decide +kernel
theorem dJ9_floorMod_7cf53_19 : decode cJ9_floorMod_7cf53 19 = .ok (.ireturn, 1) := by decide +kernel
theorem dJ9_max_7cf53_0 : decode cJ9_max_7cf53 0 = .ok (.iload_n 0, 1) := by decide +kernel
theorem dJ9_max_7cf53_1 : decode cJ9_max_7cf53 1 = .ok (.iload_n 1, 1) := by decide +kernel
theorem dJ9_max_7cf53_2 : decode cJ9_max_7cf53 2 = .ok (.if_icmp .lt 7, 3) := by decide +kernel
theorem dJ9_max_7cf53_5 : decode cJ9_max_7cf53 5 = .ok (.iload_n 0, 1) := by decide +kernel
theorem dJ9_max_7cf53_6 : decode cJ9_max_7cf53 6 = .ok (.goto 4, 3) := by decide +kernel
theorem dJ9_max_7cf53_9 : decode cJ9_max_7cf53 9 = .ok (.iload_n 1, 1) := by decide +kernel
theorem dJ9_max_7cf53_10 : decode cJ9_max_7cf53 10 = .ok (.ireturn, 1) := by decide +kernel
theorem dJ9_min_7cf53_0 : decode cJ9_min_7cf53 0 = .ok (.iload_n 0, 1) := by decide +kernel
theorem dJ9_min_7cf53_1 : decode cJ9_min_7cf53 1 = .ok (.iload_n 1, 1) := by decide +kernel
theorem dJ9_min_7cf53_2 : decode cJ9_min_7cf53 2 = .ok (.if_icmp .gt 7, 3) := by decide +kernel
theorem dJ9_min_7cf53_5 : decode cJ9_min_7cf53 5 = .ok (.iload_n 0, 1) := by decide +kernel
theorem dJ9_min_7cf53_6 : decode cJ9_min_7cf53 6 = .ok (.goto 4, 3) := by decide +kernel
theorem dJ9_min_7cf53_9 : decode cJ9_min_7cf53 9 = .ok (.iload_n 1, 1) := by decide +kernel
theorem dJ9_min_7cf53_10 : decode cJ9_min_7cf53 10 = .ok (.ireturn, 1) := by decide +kernel
end
section
theorem dL_law_0 : decode cL_law 0 = .ok (.new 7, 3) := by decide +kernel
theorem dL_law_3 : decode cL_law 3 = .ok (.dup, 1) := by decide +kernel
theorem dL_law_4 : decode cL_law 4 = .ok (.invokespecial 9, 3) := by decide +kernel
theorem dL_law_7 : decode cL_law 7 = .ok (.astore_n 1, 1) := by decide +kernel
theorem dL_law_8 : decode cL_law 8 = .ok (.new 10, 3) := by decide +kernel
theorem dL_law_11 : decode cL_law 11 = .ok (.dup, 1) := by decide +kernel
theorem dL_law_12 : decode cL_law 12 = .ok (.invokespecial 12, 3) := by decide +kernel
theorem dL_law_15 : decode cL_law 15 = .ok (.astore_n 2, 1) := by decide +kernel
theorem dL_law_16 : decode cL_law 16 = .ok (.iconst 0, 1) := by decide +kernel
theorem dL_law_17 : decode cL_law 17 = .ok (.istore_n 3, 1) := by decide +kernel
theorem dL_law_18 : decode cL_law 18 = .ok (.iload_n 3, 1) := by decide +kernel
theorem dL_law_19 : decode cL_law 19 = .ok (.aload_n 0, 1) := by decide +kernel
theorem dL_law_20 : decode cL_law 20 = .ok (.arraylength, 1) := by decide +kernel
theorem dL_law_21 : decode cL_law 21 = .ok (.iconst 5, 1) := by decide +kernel
theorem dL_law_22 : decode cL_law 22 = .ok (.isub, 1) := by decide +kernel
theorem dL_law_23 : decode cL_law 23 = .ok (.if_icmp .gt 761, 3) := by decide +kernel
theorem dL_law_26 : decode cL_law 26 = .ok (.aload_n 0, 1) := by decide +kernel
theorem dL_law_27 : decode cL_law 27 = .ok (.iload_n 3, 1) := by decide +kernel
theorem dL_law_28 : decode cL_law 28 = .ok (.iaload, 1) := by decide +kernel
theorem dL_law_29 : decode cL_law 29 = .ok (.bipush 31, 2) := by decide +kernel
theorem dL_law_31 : decode cL_law 31 = .ok (.iand, 1) := by decide +kernel
theorem dL_law_32 : decode cL_law 32 = .ok (.tableswitch 746 0 19 #[96, 119, 132, 145, 158, 201, 234, 277, 290, 323, 366, 409, 462, 495, 538, 571, 604, 637, 680, 723], 96) := by decide +kernel
theorem dL_law_128 : decode cL_law 128 = .ok (.aload_n 1, 1) := by decide +kernel
theorem dL_law_129 : decode cL_law 129 = .ok (.aload_n 0, 1) := by decide +kernel
theorem dL_law_130 : decode cL_law 130 = .ok (.iload_n 3, 1) := by decide +kernel
theorem dL_law_131 : decode cL_law 131 = .ok (.iconst 1, 1) := by decide +kernel
theorem dL_law_132 : decode cL_law 132 = .ok (.iadd, 1) := by decide +kernel
theorem dL_law_133 : decode cL_law 133 = .ok (.iaload, 1) := by decide +kernel
theorem dL_law_134 : decode cL_law 134 = .ok (.invokevirtual 13, 3) := by decide +kernel
theorem dL_law_137 : decode cL_law 137 = .ok (.aload_n 2, 1) := by decide +kernel
theorem dL_law_138 : decode cL_law 138 = .ok (.aload_n 0, 1) := by decide +kernel
theorem dL_law_139 : decode cL_law 139 = .ok (.iload_n 3, 1) := by decide +kernel
theorem dL_law_140 : decode cL_law 140 = .ok (.iconst 1, 1) := by decide +kernel
theorem dL_law_141 : decode cL_law 141 = .ok (.iadd, 1) := by decide +kernel
theorem dL_law_142 : decode cL_law 142 = .ok (.iaload, 1) := by decide +kernel
theorem dL_law_143 : decode cL_law 143 = .ok (.invokevirtual 17, 3) := by decide +kernel
theorem dL_law_146 : decode cL_law 146 = .ok (.if_icmp .eq 632, 3) := by decide +kernel
theorem dL_law_149 : decode cL_law 149 = .ok (.iconst 0, 1) := by decide +kernel
theorem dL_law_150 : decode cL_law 150 = .ok (.ireturn, 1) := by decide +kernel
theorem dL_law_151 : decode cL_law 151 = .ok (.aload_n 1, 1) := by decide +kernel
theorem dL_law_152 : decode cL_law 152 = .ok (.invokevirtual 18, 3) := by decide +kernel
theorem dL_law_155 : decode cL_law 155 = .ok (.aload_n 2, 1) := by decide +kernel
theorem dL_law_156 : decode cL_law 156 = .ok (.invokevirtual 22, 3) := by decide +kernel
theorem dL_law_159 : decode cL_law 159 = .ok (.if_icmp .eq 619, 3) := by decide +kernel
theorem dL_law_162 : decode cL_law 162 = .ok (.iconst 0, 1) := by decide +kernel
theorem dL_law_163 : decode cL_law 163 = .ok (.ireturn, 1) := by decide +kernel
theorem dL_law_164 : decode cL_law 164 = .ok (.aload_n 1, 1) := by decide +kernel
theorem dL_law_165 : decode cL_law 165 = .ok (.invokevirtual 23, 3) := by decide +kernel
theorem dL_law_168 : decode cL_law 168 = .ok (.aload_n 2, 1) := by decide +kernel
theorem dL_law_169 : decode cL_law 169 = .ok (.invokevirtual 26, 3) := by decide +kernel
theorem dL_law_172 : decode cL_law 172 = .ok (.if_icmp .eq 606, 3) := by decide +kernel
theorem dL_law_175 : decode cL_law 175 = .ok (.iconst 0, 1) := by decide +kernel
theorem dL_law_176 : decode cL_law 176 = .ok (.ireturn, 1) := by decide +kernel
theorem dL_law_177 : decode cL_law 177 = .ok (.aload_n 1, 1) := by decide +kernel
theorem dL_law_178 : decode cL_law 178 = .ok (.invokevirtual 27, 3) := by decide +kernel
theorem dL_law_181 : decode cL_law 181 = .ok (.aload_n 2, 1) := by decide +kernel
theorem dL_law_182 : decode cL_law 182 = .ok (.invokevirtual 30, 3) := by decide +kernel
theorem dL_law_185 : decode cL_law 185 = .ok (.if_icmp .eq 593, 3) := by decide +kernel
theorem dL_law_188 : decode cL_law 188 = .ok (.iconst 0, 1) := by decide +kernel
theorem dL_law_189 : decode cL_law 189 = .ok (.ireturn, 1) := by decide +kernel
theorem dL_law_190 : decode cL_law 190 = .ok (.aload_n 1, 1) := by decide +kernel
theorem dL_law_191 : decode cL_law 191 = .ok (.aload_n 0, 1) := by decide +kernel
theorem dL_law_192 : decode cL_law 192 = .ok (.iload_n 3, 1) := by decide +kernel
theorem dL_law_193 : decode cL_law 193 = .ok (.iconst 1, 1) := by decide +kernel
theorem dL_law_194 : decode cL_law 194 = .ok (.iadd, 1) := by decide +kernel
theorem dL_law_195 : decode cL_law 195 = .ok (.iaload, 1) := by decide +kernel
theorem dL_law_196 : decode cL_law 196 = .ok (.aload_n 0, 1) := by decide +kernel
theorem dL_law_197 : decode cL_law 197 = .ok (.iload_n 3, 1) := by decide +kernel
theorem dL_law_198 : decode cL_law 198 = .ok (.iconst 2, 1) := by decide +kernel
theorem dL_law_199 : decode cL_law 199 = .ok (.iadd, 1) := by decide +kernel
theorem dL_law_200 : decode cL_law 200 = .ok (.iaload, 1) := by decide +kernel
theorem dL_law_201 : decode cL_law 201 = .ok (.aload_n 0, 1) := by decide +kernel
theorem dL_law_202 : decode cL_law 202 = .ok (.iload_n 3, 1) := by decide +kernel
theorem dL_law_203 : decode cL_law 203 = .ok (.iconst 3, 1) := by decide +kernel
theorem dL_law_204 : decode cL_law 204 = .ok (.iadd, 1) := by decide +kernel
theorem dL_law_205 : decode cL_law 205 = .ok (.iaload, 1) := by decide +kernel
theorem dL_law_206 : decode cL_law 206 = .ok (.invokevirtual 31, 3) := by decide +kernel
theorem dL_law_209 : decode cL_law 209 = .ok (.aload_n 2, 1) := by decide +kernel
theorem dL_law_210 : decode cL_law 210 = .ok (.aload_n 0, 1) := by decide +kernel
theorem dL_law_211 : decode cL_law 211 = .ok (.iload_n 3, 1) := by decide +kernel
theorem dL_law_212 : decode cL_law 212 = .ok (.iconst 1, 1) := by decide +kernel
theorem dL_law_213 : decode cL_law 213 = .ok (.iadd, 1) := by decide +kernel
theorem dL_law_214 : decode cL_law 214 = .ok (.iaload, 1) := by decide +kernel
theorem dL_law_215 : decode cL_law 215 = .ok (.aload_n 0, 1) := by decide +kernel
theorem dL_law_216 : decode cL_law 216 = .ok (.iload_n 3, 1) := by decide +kernel
theorem dL_law_217 : decode cL_law 217 = .ok (.iconst 2, 1) := by decide +kernel
theorem dL_law_218 : decode cL_law 218 = .ok (.iadd, 1) := by decide +kernel
theorem dL_law_219 : decode cL_law 219 = .ok (.iaload, 1) := by decide +kernel
theorem dL_law_220 : decode cL_law 220 = .ok (.aload_n 0, 1) := by decide +kernel
theorem dL_law_221 : decode cL_law 221 = .ok (.iload_n 3, 1) := by decide +kernel
theorem dL_law_222 : decode cL_law 222 = .ok (.iconst 3, 1) := by decide +kernel
theorem dL_law_223 : decode cL_law 223 = .ok (.iadd, 1) := by decide +kernel
theorem dL_law_224 : decode cL_law 224 = .ok (.iaload, 1) := by decide +kernel
theorem dL_law_225 : decode cL_law 225 = .ok (.invokevirtual 35, 3) := by decide +kernel
theorem dL_law_228 : decode cL_law 228 = .ok (.if_icmp .eq 550, 3) := by decide +kernel
theorem dL_law_231 : decode cL_law 231 = .ok (.iconst 0, 1) := by decide +kernel
theorem dL_law_232 : decode cL_law 232 = .ok (.ireturn, 1) := by decide +kernel
theorem dL_law_233 : decode cL_law 233 = .ok (.aload_n 1, 1) := by decide +kernel
theorem dL_law_234 : decode cL_law 234 = .ok (.aload_n 0, 1) := by decide +kernel
theorem dL_law_235 : decode cL_law 235 = .ok (.iload_n 3, 1) := by decide +kernel
theorem dL_law_236 : decode cL_law 236 = .ok (.iconst 1, 1) := by decide +kernel
theorem dL_law_237 : decode cL_law 237 = .ok (.iadd, 1) := by decide +kernel
theorem dL_law_238 : decode cL_law 238 = .ok (.iaload, 1) := by decide +kernel
theorem dL_law_239 : decode cL_law 239 = .ok (.aload_n 0, 1) := by decide +kernel
theorem dL_law_240 : decode cL_law 240 = .ok (.iload_n 3, 1) := by decide +kernel
theorem dL_law_241 : decode cL_law 241 = .ok (.iconst 2, 1) := by decide +kernel
theorem dL_law_242 : decode cL_law 242 = .ok (.iadd, 1) := by decide +kernel
theorem dL_law_243 : decode cL_law 243 = .ok (.iaload, 1) := by decide +kernel
theorem dL_law_244 : decode cL_law 244 = .ok (.invokevirtual 36, 3) := by decide +kernel
theorem dL_law_247 : decode cL_law 247 = .ok (.aload_n 2, 1) := by decide +kernel
theorem dL_law_248 : decode cL_law 248 = .ok (.aload_n 0, 1) := by decide +kernel
theorem dL_law_249 : decode cL_law 249 = .ok (.iload_n 3, 1) := by decide +kernel
theorem dL_law_250 : decode cL_law 250 = .ok (.iconst 1, 1) := by decide +kernel
theorem dL_law_251 : decode cL_law 251 = .ok (.iadd, 1) := by decide +kernel
theorem dL_law_252 : decode cL_law 252 = .ok (.iaload, 1) := by decide +kernel
theorem dL_law_253 : decode cL_law 253 = .ok (.aload_n 0, 1) := by decide +kernel
theorem dL_law_254 : decode cL_law 254 = .ok (.iload_n 3, 1) := by decide +kernel
theorem dL_law_255 : decode cL_law 255 = .ok (.iconst 2, 1) := by decide +kernel
theorem dL_law_256 : decode cL_law 256 = .ok (.iadd, 1) := by decide +kernel
theorem dL_law_257 : decode cL_law 257 = .ok (.iaload, 1) := by decide +kernel
theorem dL_law_258 : decode cL_law 258 = .ok (.invokevirtual 40, 3) := by decide +kernel
theorem dL_law_261 : decode cL_law 261 = .ok (.if_icmp .eq 517, 3) := by decide +kernel
theorem dL_law_264 : decode cL_law 264 = .ok (.iconst 0, 1) := by decide +kernel
theorem dL_law_265 : decode cL_law 265 = .ok (.ireturn, 1) := by decide +kernel
theorem dL_law_266 : decode cL_law 266 = .ok (.aload_n 1, 1) := by decide +kernel
theorem dL_law_267 : decode cL_law 267 = .ok (.aload_n 0, 1) := by decide +kernel
theorem dL_law_268 : decode cL_law 268 = .ok (.iload_n 3, 1) := by decide +kernel
theorem dL_law_269 : decode cL_law 269 = .ok (.iconst 1, 1) := by decide +kernel
theorem dL_law_270 : decode cL_law 270 = .ok (.iadd, 1) := by decide +kernel
theorem dL_law_271 : decode cL_law 271 = .ok (.iaload, 1) := by decide +kernel
theorem dL_law_272 : decode cL_law 272 = .ok (.aload_n 0, 1) := by decide +kernel
theorem dL_law_273 : decode cL_law 273 = .ok (.iload_n 3, 1) := by decide +kernel
theorem dL_law_274 : decode cL_law 274 = .ok (.iconst 2, 1) := by decide +kernel
theorem dL_law_275 : decode cL_law 275 = .ok (.iadd, 1) := by decide +kernel
theorem dL_law_276 : decode cL_law 276 = .ok (.iaload, 1) := by decide +kernel
theorem dL_law_277 : decode cL_law 277 = .ok (.aload_n 0, 1) := by decide +kernel
theorem dL_law_278 : decode cL_law 278 = .ok (.iload_n 3, 1) := by decide +kernel
theorem dL_law_279 : decode cL_law 279 = .ok (.iconst 3, 1) := by decide +kernel
theorem dL_law_280 : decode cL_law 280 = .ok (.iadd, 1) := by decide +kernel
theorem dL_law_281 : decode cL_law 281 = .ok (.iaload, 1) := by decide +kernel
theorem dL_law_282 : decode cL_law 282 = .ok (.invokevirtual 41, 3) := by decide +kernel
theorem dL_law_285 : decode cL_law 285 = .ok (.aload_n 2, 1) := by decide +kernel
theorem dL_law_286 : decode cL_law 286 = .ok (.aload_n 0, 1) := by decide +kernel
theorem dL_law_287 : decode cL_law 287 = .ok (.iload_n 3, 1) := by decide +kernel
theorem dL_law_288 : decode cL_law 288 = .ok (.iconst 1, 1) := by decide +kernel
theorem dL_law_289 : decode cL_law 289 = .ok (.iadd, 1) := by decide +kernel
theorem dL_law_290 : decode cL_law 290 = .ok (.iaload, 1) := by decide +kernel
theorem dL_law_291 : decode cL_law 291 = .ok (.aload_n 0, 1) := by decide +kernel
theorem dL_law_292 : decode cL_law 292 = .ok (.iload_n 3, 1) := by decide +kernel
theorem dL_law_293 : decode cL_law 293 = .ok (.iconst 2, 1) := by decide +kernel
theorem dL_law_294 : decode cL_law 294 = .ok (.iadd, 1) := by decide +kernel
theorem dL_law_295 : decode cL_law 295 = .ok (.iaload, 1) := by decide +kernel
theorem dL_law_296 : decode cL_law 296 = .ok (.aload_n 0, 1) := by decide +kernel
theorem dL_law_297 : decode cL_law 297 = .ok (.iload_n 3, 1) := by decide +kernel
theorem dL_law_298 : decode cL_law 298 = .ok (.iconst 3, 1) := by decide +kernel
theorem dL_law_299 : decode cL_law 299 = .ok (.iadd, 1) := by decide +kernel
theorem dL_law_300 : decode cL_law 300 = .ok (.iaload, 1) := by decide +kernel
theorem dL_law_301 : decode cL_law 301 = .ok (.invokevirtual 44, 3) := by decide +kernel
theorem dL_law_304 : decode cL_law 304 = .ok (.if_icmp .eq 474, 3) := by decide +kernel
theorem dL_law_307 : decode cL_law 307 = .ok (.iconst 0, 1) := by decide +kernel
theorem dL_law_308 : decode cL_law 308 = .ok (.ireturn, 1) := by decide +kernel
theorem dL_law_309 : decode cL_law 309 = .ok (.aload_n 1, 1) := by decide +kernel
theorem dL_law_310 : decode cL_law 310 = .ok (.invokevirtual 45, 3) := by decide +kernel
theorem dL_law_313 : decode cL_law 313 = .ok (.aload_n 2, 1) := by decide +kernel
theorem dL_law_314 : decode cL_law 314 = .ok (.invokevirtual 48, 3) := by decide +kernel
theorem dL_law_317 : decode cL_law 317 = .ok (.if_icmp .eq 461, 3) := by decide +kernel
theorem dL_law_320 : decode cL_law 320 = .ok (.iconst 0, 1) := by decide +kernel
theorem dL_law_321 : decode cL_law 321 = .ok (.ireturn, 1) := by decide +kernel
theorem dL_law_322 : decode cL_law 322 = .ok (.aload_n 1, 1) := by decide +kernel
theorem dL_law_323 : decode cL_law 323 = .ok (.aload_n 0, 1) := by decide +kernel
theorem dL_law_324 : decode cL_law 324 = .ok (.iload_n 3, 1) := by decide +kernel
theorem dL_law_325 : decode cL_law 325 = .ok (.iconst 1, 1) := by decide +kernel
theorem dL_law_326 : decode cL_law 326 = .ok (.iadd, 1) := by decide +kernel
theorem dL_law_327 : decode cL_law 327 = .ok (.iaload, 1) := by decide +kernel
theorem dL_law_328 : decode cL_law 328 = .ok (.aload_n 0, 1) := by decide +kernel
theorem dL_law_329 : decode cL_law 329 = .ok (.iload_n 3, 1) := by decide +kernel
theorem dL_law_330 : decode cL_law 330 = .ok (.iconst 2, 1) := by decide +kernel
theorem dL_law_331 : decode cL_law 331 = .ok (.iadd, 1) := by decide +kernel
theorem dL_law_332 : decode cL_law 332 = .ok (.iaload, 1) := by decide +kernel
theorem dL_law_333 : decode cL_law 333 = .ok (.invokevirtual 49, 3) := by decide +kernel
theorem dL_law_336 : decode cL_law 336 = .ok (.aload_n 2, 1) := by decide +kernel
theorem dL_law_337 : decode cL_law 337 = .ok (.aload_n 0, 1) := by decide +kernel
theorem dL_law_338 : decode cL_law 338 = .ok (.iload_n 3, 1) := by decide +kernel
theorem dL_law_339 : decode cL_law 339 = .ok (.iconst 1, 1) := by decide +kernel
theorem dL_law_340 : decode cL_law 340 = .ok (.iadd, 1) := by decide +kernel
theorem dL_law_341 : decode cL_law 341 = .ok (.iaload, 1) := by decide +kernel
theorem dL_law_342 : decode cL_law 342 = .ok (.aload_n 0, 1) := by decide +kernel
theorem dL_law_343 : decode cL_law 343 = .ok (.iload_n 3, 1) := by decide +kernel
theorem dL_law_344 : decode cL_law 344 = .ok (.iconst 2, 1) := by decide +kernel
theorem dL_law_345 : decode cL_law 345 = .ok (.iadd, 1) := by decide +kernel
theorem dL_law_346 : decode cL_law 346 = .ok (.iaload, 1) := by decide +kernel
theorem dL_law_347 : decode cL_law 347 = .ok (.invokevirtual 52, 3) := by decide +kernel
theorem dL_law_350 : decode cL_law 350 = .ok (.if_icmp .eq 428, 3) := by decide +kernel
theorem dL_law_353 : decode cL_law 353 = .ok (.iconst 0, 1) := by decide +kernel
theorem dL_law_354 : decode cL_law 354 = .ok (.ireturn, 1) := by decide +kernel
theorem dL_law_355 : decode cL_law 355 = .ok (.aload_n 1, 1) := by decide +kernel
theorem dL_law_356 : decode cL_law 356 = .ok (.aload_n 0, 1) := by decide +kernel
theorem dL_law_357 : decode cL_law 357 = .ok (.iload_n 3, 1) := by decide +kernel
theorem dL_law_358 : decode cL_law 358 = .ok (.iconst 1, 1) := by decide +kernel
theorem dL_law_359 : decode cL_law 359 = .ok (.iadd, 1) := by decide +kernel
theorem dL_law_360 : decode cL_law 360 = .ok (.iaload, 1) := by decide +kernel
theorem dL_law_361 : decode cL_law 361 = .ok (.aload_n 0, 1) := by decide +kernel
theorem dL_law_362 : decode cL_law 362 = .ok (.iload_n 3, 1) := by decide +kernel
theorem dL_law_363 : decode cL_law 363 = .ok (.iconst 2, 1) := by decide +kernel
theorem dL_law_364 : decode cL_law 364 = .ok (.iadd, 1) := by decide +kernel
theorem dL_law_365 : decode cL_law 365 = .ok (.iaload, 1) := by decide +kernel
theorem dL_law_366 : decode cL_law 366 = .ok (.aload_n 0, 1) := by decide +kernel
theorem dL_law_367 : decode cL_law 367 = .ok (.iload_n 3, 1) := by decide +kernel
theorem dL_law_368 : decode cL_law 368 = .ok (.iconst 3, 1) := by decide +kernel
theorem dL_law_369 : decode cL_law 369 = .ok (.iadd, 1) := by decide +kernel
theorem dL_law_370 : decode cL_law 370 = .ok (.iaload, 1) := by decide +kernel
theorem dL_law_371 : decode cL_law 371 = .ok (.invokevirtual 53, 3) := by decide +kernel
theorem dL_law_374 : decode cL_law 374 = .ok (.aload_n 2, 1) := by decide +kernel
theorem dL_law_375 : decode cL_law 375 = .ok (.aload_n 0, 1) := by decide +kernel
theorem dL_law_376 : decode cL_law 376 = .ok (.iload_n 3, 1) := by decide +kernel
theorem dL_law_377 : decode cL_law 377 = .ok (.iconst 1, 1) := by decide +kernel
theorem dL_law_378 : decode cL_law 378 = .ok (.iadd, 1) := by decide +kernel
theorem dL_law_379 : decode cL_law 379 = .ok (.iaload, 1) := by decide +kernel
theorem dL_law_380 : decode cL_law 380 = .ok (.aload_n 0, 1) := by decide +kernel
theorem dL_law_381 : decode cL_law 381 = .ok (.iload_n 3, 1) := by decide +kernel
theorem dL_law_382 : decode cL_law 382 = .ok (.iconst 2, 1) := by decide +kernel
theorem dL_law_383 : decode cL_law 383 = .ok (.iadd, 1) := by decide +kernel
theorem dL_law_384 : decode cL_law 384 = .ok (.iaload, 1) := by decide +kernel
theorem dL_law_385 : decode cL_law 385 = .ok (.aload_n 0, 1) := by decide +kernel
theorem dL_law_386 : decode cL_law 386 = .ok (.iload_n 3, 1) := by decide +kernel
theorem dL_law_387 : decode cL_law 387 = .ok (.iconst 3, 1) := by decide +kernel
theorem dL_law_388 : decode cL_law 388 = .ok (.iadd, 1) := by decide +kernel
theorem dL_law_389 : decode cL_law 389 = .ok (.iaload, 1) := by decide +kernel
theorem dL_law_390 : decode cL_law 390 = .ok (.invokevirtual 56, 3) := by decide +kernel
theorem dL_law_393 : decode cL_law 393 = .ok (.if_icmp .eq 385, 3) := by decide +kernel
theorem dL_law_396 : decode cL_law 396 = .ok (.iconst 0, 1) := by decide +kernel
theorem dL_law_397 : decode cL_law 397 = .ok (.ireturn, 1) := by decide +kernel
theorem dL_law_398 : decode cL_law 398 = .ok (.aload_n 1, 1) := by decide +kernel
theorem dL_law_399 : decode cL_law 399 = .ok (.aload_n 0, 1) := by decide +kernel
theorem dL_law_400 : decode cL_law 400 = .ok (.iload_n 3, 1) := by decide +kernel
theorem dL_law_401 : decode cL_law 401 = .ok (.iconst 1, 1) := by decide +kernel
theorem dL_law_402 : decode cL_law 402 = .ok (.iadd, 1) := by decide +kernel
theorem dL_law_403 : decode cL_law 403 = .ok (.iaload, 1) := by decide +kernel
theorem dL_law_404 : decode cL_law 404 = .ok (.aload_n 0, 1) := by decide +kernel
theorem dL_law_405 : decode cL_law 405 = .ok (.iload_n 3, 1) := by decide +kernel
theorem dL_law_406 : decode cL_law 406 = .ok (.iconst 2, 1) := by decide +kernel
theorem dL_law_407 : decode cL_law 407 = .ok (.iadd, 1) := by decide +kernel
theorem dL_law_408 : decode cL_law 408 = .ok (.iaload, 1) := by decide +kernel
theorem dL_law_409 : decode cL_law 409 = .ok (.aload_n 0, 1) := by decide +kernel
theorem dL_law_410 : decode cL_law 410 = .ok (.iload_n 3, 1) := by decide +kernel
theorem dL_law_411 : decode cL_law 411 = .ok (.iconst 3, 1) := by decide +kernel
theorem dL_law_412 : decode cL_law 412 = .ok (.iadd, 1) := by decide +kernel
theorem dL_law_413 : decode cL_law 413 = .ok (.iaload, 1) := by decide +kernel
theorem dL_law_414 : decode cL_law 414 = .ok (.invokevirtual 57, 3) := by decide +kernel
theorem dL_law_417 : decode cL_law 417 = .ok (.aload_n 2, 1) := by decide +kernel
theorem dL_law_418 : decode cL_law 418 = .ok (.aload_n 0, 1) := by decide +kernel
theorem dL_law_419 : decode cL_law 419 = .ok (.iload_n 3, 1) := by decide +kernel
theorem dL_law_420 : decode cL_law 420 = .ok (.iconst 1, 1) := by decide +kernel
theorem dL_law_421 : decode cL_law 421 = .ok (.iadd, 1) := by decide +kernel
theorem dL_law_422 : decode cL_law 422 = .ok (.iaload, 1) := by decide +kernel
theorem dL_law_423 : decode cL_law 423 = .ok (.aload_n 0, 1) := by decide +kernel
theorem dL_law_424 : decode cL_law 424 = .ok (.iload_n 3, 1) := by decide +kernel
theorem dL_law_425 : decode cL_law 425 = .ok (.iconst 2, 1) := by decide +kernel
theorem dL_law_426 : decode cL_law 426 = .ok (.iadd, 1) := by decide +kernel
theorem dL_law_427 : decode cL_law 427 = .ok (.iaload, 1) := by decide +kernel
theorem dL_law_428 : decode cL_law 428 = .ok (.aload_n 0, 1) := by decide +kernel
theorem dL_law_429 : decode cL_law 429 = .ok (.iload_n 3, 1) := by decide +kernel
theorem dL_law_430 : decode cL_law 430 = .ok (.iconst 3, 1) := by decide +kernel
theorem dL_law_431 : decode cL_law 431 = .ok (.iadd, 1) := by decide +kernel
theorem dL_law_432 : decode cL_law 432 = .ok (.iaload, 1) := by decide +kernel
theorem dL_law_433 : decode cL_law 433 = .ok (.invokevirtual 60, 3) := by decide +kernel
theorem dL_law_436 : decode cL_law 436 = .ok (.if_icmp .eq 342, 3) := by decide +kernel
theorem dL_law_439 : decode cL_law 439 = .ok (.iconst 0, 1) := by decide +kernel
theorem dL_law_440 : decode cL_law 440 = .ok (.ireturn, 1) := by decide +kernel
theorem dL_law_441 : decode cL_law 441 = .ok (.aload_n 1, 1) := by decide +kernel
theorem dL_law_442 : decode cL_law 442 = .ok (.aload_n 0, 1) := by decide +kernel
theorem dL_law_443 : decode cL_law 443 = .ok (.iload_n 3, 1) := by decide +kernel
theorem dL_law_444 : decode cL_law 444 = .ok (.iconst 1, 1) := by decide +kernel
theorem dL_law_445 : decode cL_law 445 = .ok (.iadd, 1) := by decide +kernel
theorem dL_law_446 : decode cL_law 446 = .ok (.iaload, 1) := by decide +kernel
theorem dL_law_447 : decode cL_law 447 = .ok (.aload_n 0, 1) := by decide +kernel
theorem dL_law_448 : decode cL_law 448 = .ok (.iload_n 3, 1) := by decide +kernel
theorem dL_law_449 : decode cL_law 449 = .ok (.iconst 2, 1) := by decide +kernel
theorem dL_law_450 : decode cL_law 450 = .ok (.iadd, 1) := by decide +kernel
theorem dL_law_451 : decode cL_law 451 = .ok (.iaload, 1) := by decide +kernel
theorem dL_law_452 : decode cL_law 452 = .ok (.aload_n 0, 1) := by decide +kernel
theorem dL_law_453 : decode cL_law 453 = .ok (.iload_n 3, 1) := by decide +kernel
theorem dL_law_454 : decode cL_law 454 = .ok (.iconst 3, 1) := by decide +kernel
theorem dL_law_455 : decode cL_law 455 = .ok (.iadd, 1) := by decide +kernel
theorem dL_law_456 : decode cL_law 456 = .ok (.iaload, 1) := by decide +kernel
theorem dL_law_457 : decode cL_law 457 = .ok (.aload_n 0, 1) := by decide +kernel
theorem dL_law_458 : decode cL_law 458 = .ok (.iload_n 3, 1) := by decide +kernel
theorem dL_law_459 : decode cL_law 459 = .ok (.iconst 4, 1) := by decide +kernel
theorem dL_law_460 : decode cL_law 460 = .ok (.iadd, 1) := by decide +kernel
theorem dL_law_461 : decode cL_law 461 = .ok (.iaload, 1) := by decide +kernel
theorem dL_law_462 : decode cL_law 462 = .ok (.invokevirtual 61, 3) := by decide +kernel
theorem dL_law_465 : decode cL_law 465 = .ok (.aload_n 2, 1) := by decide +kernel
theorem dL_law_466 : decode cL_law 466 = .ok (.aload_n 0, 1) := by decide +kernel
theorem dL_law_467 : decode cL_law 467 = .ok (.iload_n 3, 1) := by decide +kernel
theorem dL_law_468 : decode cL_law 468 = .ok (.iconst 1, 1) := by decide +kernel
theorem dL_law_469 : decode cL_law 469 = .ok (.iadd, 1) := by decide +kernel
theorem dL_law_470 : decode cL_law 470 = .ok (.iaload, 1) := by decide +kernel
theorem dL_law_471 : decode cL_law 471 = .ok (.aload_n 0, 1) := by decide +kernel
theorem dL_law_472 : decode cL_law 472 = .ok (.iload_n 3, 1) := by decide +kernel
theorem dL_law_473 : decode cL_law 473 = .ok (.iconst 2, 1) := by decide +kernel
theorem dL_law_474 : decode cL_law 474 = .ok (.iadd, 1) := by decide +kernel
theorem dL_law_475 : decode cL_law 475 = .ok (.iaload, 1) := by decide +kernel
theorem dL_law_476 : decode cL_law 476 = .ok (.aload_n 0, 1) := by decide +kernel
theorem dL_law_477 : decode cL_law 477 = .ok (.iload_n 3, 1) := by decide +kernel
theorem dL_law_478 : decode cL_law 478 = .ok (.iconst 3, 1) := by decide +kernel
theorem dL_law_479 : decode cL_law 479 = .ok (.iadd, 1) := by decide +kernel
theorem dL_law_480 : decode cL_law 480 = .ok (.iaload, 1) := by decide +kernel
theorem dL_law_481 : decode cL_law 481 = .ok (.aload_n 0, 1) := by decide +kernel
theorem dL_law_482 : decode cL_law 482 = .ok (.iload_n 3, 1) := by decide +kernel
theorem dL_law_483 : decode cL_law 483 = .ok (.iconst 4, 1) := by decide +kernel
theorem dL_law_484 : decode cL_law 484 = .ok (.iadd, 1) := by decide +kernel
theorem dL_law_485 : decode cL_law 485 = .ok (.iaload, 1) := by decide +kernel
theorem dL_law_486 : decode cL_law 486 = .ok (.invokevirtual 65, 3) := by decide +kernel
theorem dL_law_489 : decode cL_law 489 = .ok (.if_icmp .eq 289, 3) := by decide +kernel
theorem dL_law_492 : decode cL_law 492 = .ok (.iconst 0, 1) := by decide +kernel
theorem dL_law_493 : decode cL_law 493 = .ok (.ireturn, 1) := by decide +kernel
theorem dL_law_494 : decode cL_law 494 = .ok (.aload_n 1, 1) := by decide +kernel
theorem dL_law_495 : decode cL_law 495 = .ok (.aload_n 0, 1) := by decide +kernel
theorem dL_law_496 : decode cL_law 496 = .ok (.iload_n 3, 1) := by decide +kernel
theorem dL_law_497 : decode cL_law 497 = .ok (.iconst 1, 1) := by decide +kernel
theorem dL_law_498 : decode cL_law 498 = .ok (.iadd, 1) := by decide +kernel
theorem dL_law_499 : decode cL_law 499 = .ok (.iaload, 1) := by decide +kernel
theorem dL_law_500 : decode cL_law 500 = .ok (.aload_n 0, 1) := by decide +kernel
theorem dL_law_501 : decode cL_law 501 = .ok (.iload_n 3, 1) := by decide +kernel
theorem dL_law_502 : decode cL_law 502 = .ok (.iconst 2, 1) := by decide +kernel
theorem dL_law_503 : decode cL_law 503 = .ok (.iadd, 1) := by decide +kernel
theorem dL_law_504 : decode cL_law 504 = .ok (.iaload, 1) := by decide +kernel
theorem dL_law_505 : decode cL_law 505 = .ok (.invokevirtual 66, 3) := by decide +kernel
theorem dL_law_508 : decode cL_law 508 = .ok (.aload_n 2, 1) := by decide +kernel
theorem dL_law_509 : decode cL_law 509 = .ok (.aload_n 0, 1) := by decide +kernel
theorem dL_law_510 : decode cL_law 510 = .ok (.iload_n 3, 1) := by decide +kernel
theorem dL_law_511 : decode cL_law 511 = .ok (.iconst 1, 1) := by decide +kernel
theorem dL_law_512 : decode cL_law 512 = .ok (.iadd, 1) := by decide +kernel
theorem dL_law_513 : decode cL_law 513 = .ok (.iaload, 1) := by decide +kernel
theorem dL_law_514 : decode cL_law 514 = .ok (.aload_n 0, 1) := by decide +kernel
theorem dL_law_515 : decode cL_law 515 = .ok (.iload_n 3, 1) := by decide +kernel
theorem dL_law_516 : decode cL_law 516 = .ok (.iconst 2, 1) := by decide +kernel
theorem dL_law_517 : decode cL_law 517 = .ok (.iadd, 1) := by decide +kernel
theorem dL_law_518 : decode cL_law 518 = .ok (.iaload, 1) := by decide +kernel
theorem dL_law_519 : decode cL_law 519 = .ok (.invokevirtual 69, 3) := by decide +kernel
theorem dL_law_522 : decode cL_law 522 = .ok (.if_icmp .eq 256, 3) := by decide +kernel
theorem dL_law_525 : decode cL_law 525 = .ok (.iconst 0, 1) := by decide +kernel
theorem dL_law_526 : decode cL_law 526 = .ok (.ireturn, 1) := by decide +kernel
theorem dL_law_527 : decode cL_law 527 = .ok (.aload_n 1, 1) := by decide +kernel
theorem dL_law_528 : decode cL_law 528 = .ok (.aload_n 0, 1) := by decide +kernel
theorem dL_law_529 : decode cL_law 529 = .ok (.iload_n 3, 1) := by decide +kernel
theorem dL_law_530 : decode cL_law 530 = .ok (.iconst 1, 1) := by decide +kernel
theorem dL_law_531 : decode cL_law 531 = .ok (.iadd, 1) := by decide +kernel
theorem dL_law_532 : decode cL_law 532 = .ok (.iaload, 1) := by decide +kernel
theorem dL_law_533 : decode cL_law 533 = .ok (.aload_n 0, 1) := by decide +kernel
theorem dL_law_534 : decode cL_law 534 = .ok (.iload_n 3, 1) := by decide +kernel
theorem dL_law_535 : decode cL_law 535 = .ok (.iconst 2, 1) := by decide +kernel
theorem dL_law_536 : decode cL_law 536 = .ok (.iadd, 1) := by decide +kernel
theorem dL_law_537 : decode cL_law 537 = .ok (.iaload, 1) := by decide +kernel
theorem dL_law_538 : decode cL_law 538 = .ok (.aload_n 0, 1) := by decide +kernel
theorem dL_law_539 : decode cL_law 539 = .ok (.iload_n 3, 1) := by decide +kernel
theorem dL_law_540 : decode cL_law 540 = .ok (.iconst 3, 1) := by decide +kernel
theorem dL_law_541 : decode cL_law 541 = .ok (.iadd, 1) := by decide +kernel
theorem dL_law_542 : decode cL_law 542 = .ok (.iaload, 1) := by decide +kernel
theorem dL_law_543 : decode cL_law 543 = .ok (.invokevirtual 70, 3) := by decide +kernel
theorem dL_law_546 : decode cL_law 546 = .ok (.aload_n 2, 1) := by decide +kernel
theorem dL_law_547 : decode cL_law 547 = .ok (.aload_n 0, 1) := by decide +kernel
theorem dL_law_548 : decode cL_law 548 = .ok (.iload_n 3, 1) := by decide +kernel
theorem dL_law_549 : decode cL_law 549 = .ok (.iconst 1, 1) := by decide +kernel
theorem dL_law_550 : decode cL_law 550 = .ok (.iadd, 1) := by decide +kernel
theorem dL_law_551 : decode cL_law 551 = .ok (.iaload, 1) := by decide +kernel
theorem dL_law_552 : decode cL_law 552 = .ok (.aload_n 0, 1) := by decide +kernel
theorem dL_law_553 : decode cL_law 553 = .ok (.iload_n 3, 1) := by decide +kernel
theorem dL_law_554 : decode cL_law 554 = .ok (.iconst 2, 1) := by decide +kernel
theorem dL_law_555 : decode cL_law 555 = .ok (.iadd, 1) := by decide +kernel
theorem dL_law_556 : decode cL_law 556 = .ok (.iaload, 1) := by decide +kernel
theorem dL_law_557 : decode cL_law 557 = .ok (.aload_n 0, 1) := by decide +kernel
theorem dL_law_558 : decode cL_law 558 = .ok (.iload_n 3, 1) := by decide +kernel
theorem dL_law_559 : decode cL_law 559 = .ok (.iconst 3, 1) := by decide +kernel
theorem dL_law_560 : decode cL_law 560 = .ok (.iadd, 1) := by decide +kernel
theorem dL_law_561 : decode cL_law 561 = .ok (.iaload, 1) := by decide +kernel
theorem dL_law_562 : decode cL_law 562 = .ok (.invokevirtual 73, 3) := by decide +kernel
theorem dL_law_565 : decode cL_law 565 = .ok (.if_icmp .eq 213, 3) := by decide +kernel
theorem dL_law_568 : decode cL_law 568 = .ok (.iconst 0, 1) := by decide +kernel
theorem dL_law_569 : decode cL_law 569 = .ok (.ireturn, 1) := by decide +kernel
theorem dL_law_570 : decode cL_law 570 = .ok (.aload_n 1, 1) := by decide +kernel
theorem dL_law_571 : decode cL_law 571 = .ok (.aload_n 0, 1) := by decide +kernel
theorem dL_law_572 : decode cL_law 572 = .ok (.iload_n 3, 1) := by decide +kernel
theorem dL_law_573 : decode cL_law 573 = .ok (.iconst 1, 1) := by decide +kernel
theorem dL_law_574 : decode cL_law 574 = .ok (.iadd, 1) := by decide +kernel
theorem dL_law_575 : decode cL_law 575 = .ok (.iaload, 1) := by decide +kernel
theorem dL_law_576 : decode cL_law 576 = .ok (.aload_n 0, 1) := by decide +kernel
theorem dL_law_577 : decode cL_law 577 = .ok (.iload_n 3, 1) := by decide +kernel
theorem dL_law_578 : decode cL_law 578 = .ok (.iconst 2, 1) := by decide +kernel
theorem dL_law_579 : decode cL_law 579 = .ok (.iadd, 1) := by decide +kernel
theorem dL_law_580 : decode cL_law 580 = .ok (.iaload, 1) := by decide +kernel
theorem dL_law_581 : decode cL_law 581 = .ok (.invokevirtual 74, 3) := by decide +kernel
theorem dL_law_584 : decode cL_law 584 = .ok (.aload_n 2, 1) := by decide +kernel
theorem dL_law_585 : decode cL_law 585 = .ok (.aload_n 0, 1) := by decide +kernel
theorem dL_law_586 : decode cL_law 586 = .ok (.iload_n 3, 1) := by decide +kernel
theorem dL_law_587 : decode cL_law 587 = .ok (.iconst 1, 1) := by decide +kernel
theorem dL_law_588 : decode cL_law 588 = .ok (.iadd, 1) := by decide +kernel
theorem dL_law_589 : decode cL_law 589 = .ok (.iaload, 1) := by decide +kernel
theorem dL_law_590 : decode cL_law 590 = .ok (.aload_n 0, 1) := by decide +kernel
theorem dL_law_591 : decode cL_law 591 = .ok (.iload_n 3, 1) := by decide +kernel
theorem dL_law_592 : decode cL_law 592 = .ok (.iconst 2, 1) := by decide +kernel
theorem dL_law_593 : decode cL_law 593 = .ok (.iadd, 1) := by decide +kernel
theorem dL_law_594 : decode cL_law 594 = .ok (.iaload, 1) := by decide +kernel
theorem dL_law_595 : decode cL_law 595 = .ok (.invokevirtual 77, 3) := by decide +kernel
theorem dL_law_598 : decode cL_law 598 = .ok (.if_icmp .eq 180, 3) := by decide +kernel
theorem dL_law_601 : decode cL_law 601 = .ok (.iconst 0, 1) := by decide +kernel
theorem dL_law_602 : decode cL_law 602 = .ok (.ireturn, 1) := by decide +kernel
theorem dL_law_603 : decode cL_law 603 = .ok (.aload_n 1, 1) := by decide +kernel
theorem dL_law_604 : decode cL_law 604 = .ok (.aload_n 0, 1) := by decide +kernel
theorem dL_law_605 : decode cL_law 605 = .ok (.iload_n 3, 1) := by decide +kernel
theorem dL_law_606 : decode cL_law 606 = .ok (.iconst 1, 1) := by decide +kernel
theorem dL_law_607 : decode cL_law 607 = .ok (.iadd, 1) := by decide +kernel
theorem dL_law_608 : decode cL_law 608 = .ok (.iaload, 1) := by decide +kernel
theorem dL_law_609 : decode cL_law 609 = .ok (.aload_n 0, 1) := by decide +kernel
theorem dL_law_610 : decode cL_law 610 = .ok (.iload_n 3, 1) := by decide +kernel
theorem dL_law_611 : decode cL_law 611 = .ok (.iconst 2, 1) := by decide +kernel
theorem dL_law_612 : decode cL_law 612 = .ok (.iadd, 1) := by decide +kernel
theorem dL_law_613 : decode cL_law 613 = .ok (.iaload, 1) := by decide +kernel
theorem dL_law_614 : decode cL_law 614 = .ok (.invokevirtual 78, 3) := by decide +kernel
theorem dL_law_617 : decode cL_law 617 = .ok (.aload_n 2, 1) := by decide +kernel
theorem dL_law_618 : decode cL_law 618 = .ok (.aload_n 0, 1) := by decide +kernel
theorem dL_law_619 : decode cL_law 619 = .ok (.iload_n 3, 1) := by decide +kernel
theorem dL_law_620 : decode cL_law 620 = .ok (.iconst 1, 1) := by decide +kernel
theorem dL_law_621 : decode cL_law 621 = .ok (.iadd, 1) := by decide +kernel
theorem dL_law_622 : decode cL_law 622 = .ok (.iaload, 1) := by decide +kernel
theorem dL_law_623 : decode cL_law 623 = .ok (.aload_n 0, 1) := by decide +kernel
theorem dL_law_624 : decode cL_law 624 = .ok (.iload_n 3, 1) := by decide +kernel
theorem dL_law_625 : decode cL_law 625 = .ok (.iconst 2, 1) := by decide +kernel
theorem dL_law_626 : decode cL_law 626 = .ok (.iadd, 1) := by decide +kernel
theorem dL_law_627 : decode cL_law 627 = .ok (.iaload, 1) := by decide +kernel
theorem dL_law_628 : decode cL_law 628 = .ok (.invokevirtual 81, 3) := by decide +kernel
theorem dL_law_631 : decode cL_law 631 = .ok (.if_icmp .eq 147, 3) := by decide +kernel
theorem dL_law_634 : decode cL_law 634 = .ok (.iconst 0, 1) := by decide +kernel
theorem dL_law_635 : decode cL_law 635 = .ok (.ireturn, 1) := by decide +kernel
theorem dL_law_636 : decode cL_law 636 = .ok (.aload_n 1, 1) := by decide +kernel
theorem dL_law_637 : decode cL_law 637 = .ok (.aload_n 0, 1) := by decide +kernel
theorem dL_law_638 : decode cL_law 638 = .ok (.iload_n 3, 1) := by decide +kernel
theorem dL_law_639 : decode cL_law 639 = .ok (.iconst 1, 1) := by decide +kernel
theorem dL_law_640 : decode cL_law 640 = .ok (.iadd, 1) := by decide +kernel
theorem dL_law_641 : decode cL_law 641 = .ok (.iaload, 1) := by decide +kernel
theorem dL_law_642 : decode cL_law 642 = .ok (.aload_n 0, 1) := by decide +kernel
theorem dL_law_643 : decode cL_law 643 = .ok (.iload_n 3, 1) := by decide +kernel
theorem dL_law_644 : decode cL_law 644 = .ok (.iconst 2, 1) := by decide +kernel
theorem dL_law_645 : decode cL_law 645 = .ok (.iadd, 1) := by decide +kernel
theorem dL_law_646 : decode cL_law 646 = .ok (.iaload, 1) := by decide +kernel
theorem dL_law_647 : decode cL_law 647 = .ok (.invokevirtual 82, 3) := by decide +kernel
theorem dL_law_650 : decode cL_law 650 = .ok (.aload_n 2, 1) := by decide +kernel
theorem dL_law_651 : decode cL_law 651 = .ok (.aload_n 0, 1) := by decide +kernel
theorem dL_law_652 : decode cL_law 652 = .ok (.iload_n 3, 1) := by decide +kernel
theorem dL_law_653 : decode cL_law 653 = .ok (.iconst 1, 1) := by decide +kernel
theorem dL_law_654 : decode cL_law 654 = .ok (.iadd, 1) := by decide +kernel
theorem dL_law_655 : decode cL_law 655 = .ok (.iaload, 1) := by decide +kernel
theorem dL_law_656 : decode cL_law 656 = .ok (.aload_n 0, 1) := by decide +kernel
theorem dL_law_657 : decode cL_law 657 = .ok (.iload_n 3, 1) := by decide +kernel
theorem dL_law_658 : decode cL_law 658 = .ok (.iconst 2, 1) := by decide +kernel
theorem dL_law_659 : decode cL_law 659 = .ok (.iadd, 1) := by decide +kernel
theorem dL_law_660 : decode cL_law 660 = .ok (.iaload, 1) := by decide +kernel
theorem dL_law_661 : decode cL_law 661 = .ok (.invokevirtual 85, 3) := by decide +kernel
theorem dL_law_664 : decode cL_law 664 = .ok (.if_icmp .eq 114, 3) := by decide +kernel
theorem dL_law_667 : decode cL_law 667 = .ok (.iconst 0, 1) := by decide +kernel
theorem dL_law_668 : decode cL_law 668 = .ok (.ireturn, 1) := by decide +kernel
theorem dL_law_669 : decode cL_law 669 = .ok (.aload_n 1, 1) := by decide +kernel
theorem dL_law_670 : decode cL_law 670 = .ok (.aload_n 0, 1) := by decide +kernel
theorem dL_law_671 : decode cL_law 671 = .ok (.iload_n 3, 1) := by decide +kernel
theorem dL_law_672 : decode cL_law 672 = .ok (.iconst 1, 1) := by decide +kernel
theorem dL_law_673 : decode cL_law 673 = .ok (.iadd, 1) := by decide +kernel
theorem dL_law_674 : decode cL_law 674 = .ok (.iaload, 1) := by decide +kernel
theorem dL_law_675 : decode cL_law 675 = .ok (.aload_n 0, 1) := by decide +kernel
theorem dL_law_676 : decode cL_law 676 = .ok (.iload_n 3, 1) := by decide +kernel
theorem dL_law_677 : decode cL_law 677 = .ok (.iconst 2, 1) := by decide +kernel
theorem dL_law_678 : decode cL_law 678 = .ok (.iadd, 1) := by decide +kernel
theorem dL_law_679 : decode cL_law 679 = .ok (.iaload, 1) := by decide +kernel
theorem dL_law_680 : decode cL_law 680 = .ok (.aload_n 0, 1) := by decide +kernel
theorem dL_law_681 : decode cL_law 681 = .ok (.iload_n 3, 1) := by decide +kernel
theorem dL_law_682 : decode cL_law 682 = .ok (.iconst 3, 1) := by decide +kernel
theorem dL_law_683 : decode cL_law 683 = .ok (.iadd, 1) := by decide +kernel
theorem dL_law_684 : decode cL_law 684 = .ok (.iaload, 1) := by decide +kernel
theorem dL_law_685 : decode cL_law 685 = .ok (.invokevirtual 86, 3) := by decide +kernel
theorem dL_law_688 : decode cL_law 688 = .ok (.aload_n 2, 1) := by decide +kernel
theorem dL_law_689 : decode cL_law 689 = .ok (.aload_n 0, 1) := by decide +kernel
theorem dL_law_690 : decode cL_law 690 = .ok (.iload_n 3, 1) := by decide +kernel
theorem dL_law_691 : decode cL_law 691 = .ok (.iconst 1, 1) := by decide +kernel
theorem dL_law_692 : decode cL_law 692 = .ok (.iadd, 1) := by decide +kernel
theorem dL_law_693 : decode cL_law 693 = .ok (.iaload, 1) := by decide +kernel
theorem dL_law_694 : decode cL_law 694 = .ok (.aload_n 0, 1) := by decide +kernel
theorem dL_law_695 : decode cL_law 695 = .ok (.iload_n 3, 1) := by decide +kernel
theorem dL_law_696 : decode cL_law 696 = .ok (.iconst 2, 1) := by decide +kernel
theorem dL_law_697 : decode cL_law 697 = .ok (.iadd, 1) := by decide +kernel
theorem dL_law_698 : decode cL_law 698 = .ok (.iaload, 1) := by decide +kernel
theorem dL_law_699 : decode cL_law 699 = .ok (.aload_n 0, 1) := by decide +kernel
theorem dL_law_700 : decode cL_law 700 = .ok (.iload_n 3, 1) := by decide +kernel
theorem dL_law_701 : decode cL_law 701 = .ok (.iconst 3, 1) := by decide +kernel
theorem dL_law_702 : decode cL_law 702 = .ok (.iadd, 1) := by decide +kernel
theorem dL_law_703 : decode cL_law 703 = .ok (.iaload, 1) := by decide +kernel
theorem dL_law_704 : decode cL_law 704 = .ok (.invokevirtual 89, 3) := by decide +kernel
theorem dL_law_707 : decode cL_law 707 = .ok (.if_icmp .eq 71, 3) := by decide +kernel
theorem dL_law_710 : decode cL_law 710 = .ok (.iconst 0, 1) := by decide +kernel
theorem dL_law_711 : decode cL_law 711 = .ok (.ireturn, 1) := by decide +kernel
theorem dL_law_712 : decode cL_law 712 = .ok (.aload_n 1, 1) := by decide +kernel
theorem dL_law_713 : decode cL_law 713 = .ok (.aload_n 0, 1) := by decide +kernel
theorem dL_law_714 : decode cL_law 714 = .ok (.iload_n 3, 1) := by decide +kernel
theorem dL_law_715 : decode cL_law 715 = .ok (.iconst 1, 1) := by decide +kernel
theorem dL_law_716 : decode cL_law 716 = .ok (.iadd, 1) := by decide +kernel
theorem dL_law_717 : decode cL_law 717 = .ok (.iaload, 1) := by decide +kernel
theorem dL_law_718 : decode cL_law 718 = .ok (.aload_n 0, 1) := by decide +kernel
theorem dL_law_719 : decode cL_law 719 = .ok (.iload_n 3, 1) := by decide +kernel
theorem dL_law_720 : decode cL_law 720 = .ok (.iconst 2, 1) := by decide +kernel
theorem dL_law_721 : decode cL_law 721 = .ok (.iadd, 1) := by decide +kernel
theorem dL_law_722 : decode cL_law 722 = .ok (.iaload, 1) := by decide +kernel
theorem dL_law_723 : decode cL_law 723 = .ok (.aload_n 0, 1) := by decide +kernel
theorem dL_law_724 : decode cL_law 724 = .ok (.iload_n 3, 1) := by decide +kernel
theorem dL_law_725 : decode cL_law 725 = .ok (.iconst 3, 1) := by decide +kernel
theorem dL_law_726 : decode cL_law 726 = .ok (.iadd, 1) := by decide +kernel
theorem dL_law_727 : decode cL_law 727 = .ok (.iaload, 1) := by decide +kernel
theorem dL_law_728 : decode cL_law 728 = .ok (.invokevirtual 90, 3) := by decide +kernel
theorem dL_law_731 : decode cL_law 731 = .ok (.aload_n 2, 1) := by decide +kernel
theorem dL_law_732 : decode cL_law 732 = .ok (.aload_n 0, 1) := by decide +kernel
theorem dL_law_733 : decode cL_law 733 = .ok (.iload_n 3, 1) := by decide +kernel
theorem dL_law_734 : decode cL_law 734 = .ok (.iconst 1, 1) := by decide +kernel
theorem dL_law_735 : decode cL_law 735 = .ok (.iadd, 1) := by decide +kernel
theorem dL_law_736 : decode cL_law 736 = .ok (.iaload, 1) := by decide +kernel
theorem dL_law_737 : decode cL_law 737 = .ok (.aload_n 0, 1) := by decide +kernel
theorem dL_law_738 : decode cL_law 738 = .ok (.iload_n 3, 1) := by decide +kernel
theorem dL_law_739 : decode cL_law 739 = .ok (.iconst 2, 1) := by decide +kernel
theorem dL_law_740 : decode cL_law 740 = .ok (.iadd, 1) := by decide +kernel
theorem dL_law_741 : decode cL_law 741 = .ok (.iaload, 1) := by decide +kernel
theorem dL_law_742 : decode cL_law 742 = .ok (.aload_n 0, 1) := by decide +kernel
theorem dL_law_743 : decode cL_law 743 = .ok (.iload_n 3, 1) := by decide +kernel
theorem dL_law_744 : decode cL_law 744 = .ok (.iconst 3, 1) := by decide +kernel
theorem dL_law_745 : decode cL_law 745 = .ok (.iadd, 1) := by decide +kernel
theorem dL_law_746 : decode cL_law 746 = .ok (.iaload, 1) := by decide +kernel
theorem dL_law_747 : decode cL_law 747 = .ok (.invokevirtual 93, 3) := by decide +kernel
theorem dL_law_750 : decode cL_law 750 = .ok (.if_icmp .eq 28, 3) := by decide +kernel
theorem dL_law_753 : decode cL_law 753 = .ok (.iconst 0, 1) := by decide +kernel
theorem dL_law_754 : decode cL_law 754 = .ok (.ireturn, 1) := by decide +kernel
theorem dL_law_755 : decode cL_law 755 = .ok (.aload_n 1, 1) := by decide +kernel
theorem dL_law_756 : decode cL_law 756 = .ok (.aload_n 0, 1) := by decide +kernel
theorem dL_law_757 : decode cL_law 757 = .ok (.iload_n 3, 1) := by decide +kernel
theorem dL_law_758 : decode cL_law 758 = .ok (.iconst 1, 1) := by decide +kernel
theorem dL_law_759 : decode cL_law 759 = .ok (.iadd, 1) := by decide +kernel
theorem dL_law_760 : decode cL_law 760 = .ok (.iaload, 1) := by decide +kernel
theorem dL_law_761 : decode cL_law 761 = .ok (.invokevirtual 94, 3) := by decide +kernel
theorem dL_law_764 : decode cL_law 764 = .ok (.aload_n 2, 1) := by decide +kernel
theorem dL_law_765 : decode cL_law 765 = .ok (.aload_n 0, 1) := by decide +kernel
theorem dL_law_766 : decode cL_law 766 = .ok (.iload_n 3, 1) := by decide +kernel
theorem dL_law_767 : decode cL_law 767 = .ok (.iconst 1, 1) := by decide +kernel
theorem dL_law_768 : decode cL_law 768 = .ok (.iadd, 1) := by decide +kernel
theorem dL_law_769 : decode cL_law 769 = .ok (.iaload, 1) := by decide +kernel
theorem dL_law_770 : decode cL_law 770 = .ok (.invokevirtual 97, 3) := by decide +kernel
theorem dL_law_773 : decode cL_law 773 = .ok (.if_icmp .eq 5, 3) := by decide +kernel
theorem dL_law_776 : decode cL_law 776 = .ok (.iconst 0, 1) := by decide +kernel
theorem dL_law_777 : decode cL_law 777 = .ok (.ireturn, 1) := by decide +kernel
theorem dL_law_778 : decode cL_law 778 = .ok (.iinc 3 5, 3) := by decide +kernel
theorem dL_law_781 : decode cL_law 781 = .ok (.goto (-763), 3) := by decide +kernel
theorem dL_law_784 : decode cL_law 784 = .ok (.iconst 1, 1) := by decide +kernel
theorem dL_law_785 : decode cL_law 785 = .ok (.ireturn, 1) := by decide +kernel
end
section
theorem dX0_init_0 : decode cX0_init 0 = .ok (.aload_n 0, 1) := by decide +kernel
theorem dX0_init_1 : decode cX0_init 1 = .ok (.invokespecial 3, 3) := by decide +kernel
theorem dX0_init_4 : decode cX0_init 4 = .ok (.aload_n 0, 1) := by decide +kernel
theorem dX0_init_5 : decode cX0_init 5 = .ok (.bipush 6, 2) := by decide +kernel
theorem dX0_init_7 : decode cX0_init 7 = .ok (.anewarray 9, 3) := by decide +kernel
theorem dX0_init_10 : decode cX0_init 10 = .ok (.putfield 11, 3) := by decide +kernel
theorem dX0_init_13 : decode cX0_init 13 = .ok (.aload_n 0, 1) := by decide +kernel
theorem dX0_init_14 : decode cX0_init 14 = .ok (.bipush 6, 2) := by decide +kernel
theorem dX0_init_16 : decode cX0_init 16 = .ok (.newarray .int, 2) := by decide +kernel
theorem dX0_init_18 : decode cX0_init 18 = .ok (.putfield 17, 3) := by decide +kernel
theorem dX0_init_21 : decode cX0_init 21 = .ok (.return_, 1) := by decide +kernel
theorem dX0_clear_0 : decode cX0_clear 0 = .ok (.aload_n 0, 1) := by decide +kernel
theorem dX0_clear_1 : decode cX0_clear 1 = .ok (.iconst 0, 1) := by decide +kernel
theorem dX0_clear_2 : decode cX0_clear 2 = .ok (.putfield 21, 3) := by decide +kernel
theorem dX0_clear_5 : decode cX0_clear 5 = .ok (.return_, 1) := by decide +kernel
theorem dX0_rememberRun_0 : decode cX0_rememberRun 0 = .ok (.aload_n 0, 1) := by decide +kernel
theorem dX0_rememberRun_1 : decode cX0_rememberRun 1 = .ok (.aload_n 1, 1) := by decide +kernel
theorem dX0_rememberRun_2 : decode cX0_rememberRun 2 = .ok (.iload_n 2, 1) := by decide +kernel
theorem dX0_rememberRun_3 : decode cX0_rememberRun 3 = .ok (.invokevirtual 25, 3) := by decide +kernel
theorem dX0_rememberRun_6 : decode cX0_rememberRun 6 = .ok (.return_, 1) := by decide +kernel
theorem dX0_rememberSpoiled_0 : decode cX0_rememberSpoiled 0 = .ok (.aload_n 0, 1) := by decide +kernel
theorem dX0_rememberSpoiled_1 : decode cX0_rememberSpoiled 1 = .ok (.aconst_null, 1) := by decide +kernel
theorem dX0_rememberSpoiled_2 : decode cX0_rememberSpoiled 2 = .ok (.iload_n 1, 1) := by decide +kernel
theorem dX0_rememberSpoiled_3 : decode cX0_rememberSpoiled 3 = .ok (.invokevirtual 25, 3) := by decide +kernel
theorem dX0_rememberSpoiled_6 : decode cX0_rememberSpoiled 6 = .ok (.return_, 1) := by decide +kernel
theorem dX0_remember_0 : decode cX0_remember 0 = .ok (.aload_n 0, 1) := by decide +kernel
theorem dX0_remember_1 : decode cX0_remember 1 = .ok (.getfield 21, 3) := by decide +kernel
theorem dX0_remember_4 : decode cX0_remember 4 = .ok (.bipush 6, 2) := by decide +kernel
theorem dX0_remember_6 : decode cX0_remember 6 = .ok (.if_icmp .lt 7, 3) := by decide +kernel
theorem dX0_remember_9 : decode cX0_remember 9 = .ok (.aload_n 0, 1) := by decide +kernel
theorem dX0_remember_10 : decode cX0_remember 10 = .ok (.invokevirtual 29, 3) := by decide +kernel
theorem dX0_remember_13 : decode cX0_remember 13 = .ok (.aload_n 0, 1) := by decide +kernel
theorem dX0_remember_14 : decode cX0_remember 14 = .ok (.getfield 11, 3) := by decide +kernel
theorem dX0_remember_17 : decode cX0_remember 17 = .ok (.aload_n 0, 1) := by decide +kernel
theorem dX0_remember_18 : decode cX0_remember 18 = .ok (.getfield 21, 3) := by decide +kernel
theorem dX0_remember_21 : decode cX0_remember 21 = .ok (.aload_n 1, 1) := by decide +kernel
theorem dX0_remember_22 : decode cX0_remember 22 = .ok (.aastore, 1) := by decide +kernel
theorem dX0_remember_23 : decode cX0_remember 23 = .ok (.aload_n 0, 1) := by decide +kernel
theorem dX0_remember_24 : decode cX0_remember 24 = .ok (.getfield 17, 3) := by decide +kernel
theorem dX0_remember_27 : decode cX0_remember 27 = .ok (.aload_n 0, 1) := by decide +kernel
theorem dX0_remember_28 : decode cX0_remember 28 = .ok (.getfield 21, 3) := by decide +kernel
theorem dX0_remember_31 : decode cX0_remember 31 = .ok (.iload_n 2, 1) := by decide +kernel
theorem dX0_remember_32 : decode cX0_remember 32 = .ok (.iastore, 1) := by decide +kernel
theorem dX0_remember_33 : decode cX0_remember 33 = .ok (.aload_n 0, 1) := by decide +kernel
theorem dX0_remember_34 : decode cX0_remember 34 = .ok (.dup, 1) := by decide +kernel
theorem dX0_remember_35 : decode cX0_remember 35 = .ok (.getfield 21, 3) := by decide +kernel
theorem dX0_remember_38 : decode cX0_remember 38 = .ok (.iconst 1, 1) := by decide +kernel
theorem dX0_remember_39 : decode cX0_remember 39 = .ok (.iadd, 1) := by decide +kernel
theorem dX0_remember_40 : decode cX0_remember 40 = .ok (.putfield 21, 3) := by decide +kernel
theorem dX0_remember_43 : decode cX0_remember 43 = .ok (.return_, 1) := by decide +kernel
theorem dX0_forgetOldest_0 : decode cX0_forgetOldest 0 = .ok (.iconst 1, 1) := by decide +kernel
theorem dX0_forgetOldest_1 : decode cX0_forgetOldest 1 = .ok (.istore_n 1, 1) := by decide +kernel
theorem dX0_forgetOldest_2 : decode cX0_forgetOldest 2 = .ok (.iload_n 1, 1) := by decide +kernel
theorem dX0_forgetOldest_3 : decode cX0_forgetOldest 3 = .ok (.bipush 6, 2) := by decide +kernel
theorem dX0_forgetOldest_5 : decode cX0_forgetOldest 5 = .ok (.if_icmp .ge 37, 3) := by decide +kernel
theorem dX0_forgetOldest_8 : decode cX0_forgetOldest 8 = .ok (.aload_n 0, 1) := by decide +kernel
theorem dX0_forgetOldest_9 : decode cX0_forgetOldest 9 = .ok (.getfield 11, 3) := by decide +kernel
theorem dX0_forgetOldest_12 : decode cX0_forgetOldest 12 = .ok (.iload_n 1, 1) := by decide +kernel
theorem dX0_forgetOldest_13 : decode cX0_forgetOldest 13 = .ok (.iconst 1, 1) := by decide +kernel
theorem dX0_forgetOldest_14 : decode cX0_forgetOldest 14 = .ok (.isub, 1) := by decide +kernel
theorem dX0_forgetOldest_15 : decode cX0_forgetOldest 15 = .ok (.aload_n 0, 1) := by decide +kernel
theorem dX0_forgetOldest_16 : decode cX0_forgetOldest 16 = .ok (.getfield 11, 3) := by decide +kernel
theorem dX0_forgetOldest_19 : decode cX0_forgetOldest 19 = .ok (.iload_n 1, 1) := by decide +kernel
theorem dX0_forgetOldest_20 : decode cX0_forgetOldest 20 = .ok (.aaload, 1) := by decide +kernel
theorem dX0_forgetOldest_21 : decode cX0_forgetOldest 21 = .ok (.aastore, 1) := by decide +kernel
theorem dX0_forgetOldest_22 : decode cX0_forgetOldest 22 = .ok (.aload_n 0, 1) := by decide +kernel
theorem dX0_forgetOldest_23 : decode cX0_forgetOldest 23 = .ok (.getfield 17, 3) := by decide +kernel
theorem dX0_forgetOldest_26 : decode cX0_forgetOldest 26 = .ok (.iload_n 1, 1) := by decide +kernel
theorem dX0_forgetOldest_27 : decode cX0_forgetOldest 27 = .ok (.iconst 1, 1) := by decide +kernel
theorem dX0_forgetOldest_28 : decode cX0_forgetOldest 28 = .ok (.isub, 1) := by decide +kernel
theorem dX0_forgetOldest_29 : decode cX0_forgetOldest 29 = .ok (.aload_n 0, 1) := by decide +kernel
theorem dX0_forgetOldest_30 : decode cX0_forgetOldest 30 = .ok (.getfield 17, 3) := by decide +kernel
theorem dX0_forgetOldest_33 : decode cX0_forgetOldest 33 = .ok (.iload_n 1, 1) := by decide +kernel
theorem dX0_forgetOldest_34 : decode cX0_forgetOldest 34 = .ok (.iaload, 1) := by decide +kernel
theorem dX0_forgetOldest_35 : decode cX0_forgetOldest 35 = .ok (.iastore, 1) := by decide +kernel
theorem dX0_forgetOldest_36 : decode cX0_forgetOldest 36 = .ok (.iinc 1 1, 3) := by decide +kernel
theorem dX0_forgetOldest_39 : decode cX0_forgetOldest 39 = .ok (.goto (-37), 3) := by decide +kernel
theorem dX0_forgetOldest_42 : decode cX0_forgetOldest 42 = .ok (.aload_n 0, 1) := by decide +kernel
theorem dX0_forgetOldest_43 : decode cX0_forgetOldest 43 = .ok (.iconst 5, 1) := by decide +kernel
theorem dX0_forgetOldest_44 : decode cX0_forgetOldest 44 = .ok (.putfield 21, 3) := by decide +kernel
theorem dX0_forgetOldest_47 : decode cX0_forgetOldest 47 = .ok (.return_, 1) := by decide +kernel
theorem dX0_latestShare_0 : decode cX0_latestShare 0 = .ok (.aload_n 0, 1) := by decide +kernel
theorem dX0_latestShare_1 : decode cX0_latestShare 1 = .ok (.getfield 21, 3) := by decide +kernel
theorem dX0_latestShare_4 : decode cX0_latestShare 4 = .ok (.iconst 1, 1) := by decide +kernel
theorem dX0_latestShare_5 : decode cX0_latestShare 5 = .ok (.if_icmp .ge 7, 3) := by decide +kernel
theorem dX0_latestShare_8 : decode cX0_latestShare 8 = .ok (.aconst_null, 1) := by decide +kernel
theorem dX0_latestShare_9 : decode cX0_latestShare 9 = .ok (.goto 14, 3) := by decide +kernel
theorem dX0_latestShare_12 : decode cX0_latestShare 12 = .ok (.aload_n 0, 1) := by decide +kernel
theorem dX0_latestShare_13 : decode cX0_latestShare 13 = .ok (.getfield 11, 3) := by decide +kernel
theorem dX0_latestShare_16 : decode cX0_latestShare 16 = .ok (.aload_n 0, 1) := by decide +kernel
theorem dX0_latestShare_17 : decode cX0_latestShare 17 = .ok (.getfield 21, 3) := by decide +kernel
theorem dX0_latestShare_20 : decode cX0_latestShare 20 = .ok (.iconst 1, 1) := by decide +kernel
theorem dX0_latestShare_21 : decode cX0_latestShare 21 = .ok (.isub, 1) := by decide +kernel
theorem dX0_latestShare_22 : decode cX0_latestShare 22 = .ok (.aaload, 1) := by decide +kernel
theorem dX0_latestShare_23 : decode cX0_latestShare 23 = .ok (.areturn, 1) := by decide +kernel
theorem dX0_latestAmount_0 : decode cX0_latestAmount 0 = .ok (.aload_n 0, 1) := by decide +kernel
theorem dX0_latestAmount_1 : decode cX0_latestAmount 1 = .ok (.getfield 21, 3) := by decide +kernel
theorem dX0_latestAmount_4 : decode cX0_latestAmount 4 = .ok (.iconst 1, 1) := by decide +kernel
theorem dX0_latestAmount_5 : decode cX0_latestAmount 5 = .ok (.if_icmp .ge 7, 3) := by decide +kernel
theorem dX0_latestAmount_8 : decode cX0_latestAmount 8 = .ok (.iconst 0, 1) := by decide +kernel
theorem dX0_latestAmount_9 : decode cX0_latestAmount 9 = .ok (.goto 14, 3) := by decide +kernel
theorem dX0_latestAmount_12 : decode cX0_latestAmount 12 = .ok (.aload_n 0, 1) := by decide +kernel
theorem dX0_latestAmount_13 : decode cX0_latestAmount 13 = .ok (.getfield 17, 3) := by decide +kernel
theorem dX0_latestAmount_16 : decode cX0_latestAmount 16 = .ok (.aload_n 0, 1) := by decide +kernel
theorem dX0_latestAmount_17 : decode cX0_latestAmount 17 = .ok (.getfield 21, 3) := by decide +kernel
theorem dX0_latestAmount_20 : decode cX0_latestAmount 20 = .ok (.iconst 1, 1) := by decide +kernel
theorem dX0_latestAmount_21 : decode cX0_latestAmount 21 = .ok (.isub, 1) := by decide +kernel
theorem dX0_latestAmount_22 : decode cX0_latestAmount 22 = .ok (.iaload, 1) := by decide +kernel
theorem dX0_latestAmount_23 : decode cX0_latestAmount 23 = .ok (.ireturn, 1) := by decide +kernel
theorem dX0_forgetLatest_0 : decode cX0_forgetLatest 0 = .ok (.aload_n 0, 1) := by decide +kernel
theorem dX0_forgetLatest_1 : decode cX0_forgetLatest 1 = .ok (.aload_n 0, 1) := by decide +kernel
theorem dX0_forgetLatest_2 : decode cX0_forgetLatest 2 = .ok (.getfield 21, 3) := by decide +kernel
theorem dX0_forgetLatest_5 : decode cX0_forgetLatest 5 = .ok (.iconst 1, 1) := by decide +kernel
theorem dX0_forgetLatest_6 : decode cX0_forgetLatest 6 = .ok (.isub, 1) := by decide +kernel
theorem dX0_forgetLatest_7 : decode cX0_forgetLatest 7 = .ok (.iconst 0, 1) := by decide +kernel
theorem dX0_forgetLatest_8 : decode cX0_forgetLatest 8 = .ok (.invokestatic 32, 3) := by decide +kernel
theorem dX0_forgetLatest_11 : decode cX0_forgetLatest 11 = .ok (.putfield 21, 3) := by decide +kernel
theorem dX0_forgetLatest_14 : decode cX0_forgetLatest 14 = .ok (.return_, 1) := by decide +kernel
end
section
theorem dX1_ofNumber_0 : decode cX1_ofNumber 0 = .ok (.iload_n 0, 1) := by decide +kernel
theorem dX1_ofNumber_1 : decode cX1_ofNumber 1 = .ok (.iload_n 1, 1) := by decide +kernel
theorem dX1_ofNumber_2 : decode cX1_ofNumber 2 = .ok (.iload_n 2, 1) := by decide +kernel
theorem dX1_ofNumber_3 : decode cX1_ofNumber 3 = .ok (.bipush 100, 2) := by decide +kernel
theorem dX1_ofNumber_5 : decode cX1_ofNumber 5 = .ok (.idiv, 1) := by decide +kernel
theorem dX1_ofNumber_6 : decode cX1_ofNumber 6 = .ok (.iload_n 2, 1) := by decide +kernel
theorem dX1_ofNumber_7 : decode cX1_ofNumber 7 = .ok (.bipush 10, 2) := by decide +kernel
theorem dX1_ofNumber_9 : decode cX1_ofNumber 9 = .ok (.idiv, 1) := by decide +kernel
theorem dX1_ofNumber_10 : decode cX1_ofNumber 10 = .ok (.bipush 10, 2) := by decide +kernel
theorem dX1_ofNumber_12 : decode cX1_ofNumber 12 = .ok (.irem, 1) := by decide +kernel
theorem dX1_ofNumber_13 : decode cX1_ofNumber 13 = .ok (.iload_n 2, 1) := by decide +kernel
theorem dX1_ofNumber_14 : decode cX1_ofNumber 14 = .ok (.bipush 10, 2) := by decide +kernel
theorem dX1_ofNumber_16 : decode cX1_ofNumber 16 = .ok (.irem, 1) := by decide +kernel
theorem dX1_ofNumber_17 : decode cX1_ofNumber 17 = .ok (.invokestatic 7, 3) := by decide +kernel
theorem dX1_ofNumber_20 : decode cX1_ofNumber 20 = .ok (.ireturn, 1) := by decide +kernel
theorem dX1_ofStar_0 : decode cX1_ofStar 0 = .ok (.iconst 1, 1) := by decide +kernel
theorem dX1_ofStar_1 : decode cX1_ofStar 1 = .ok (.iconst 0, 1) := by decide +kernel
theorem dX1_ofStar_2 : decode cX1_ofStar 2 = .ok (.iload_n 0, 1) := by decide +kernel
theorem dX1_ofStar_3 : decode cX1_ofStar 3 = .ok (.invokestatic 13, 3) := by decide +kernel
theorem dX1_ofStar_6 : decode cX1_ofStar 6 = .ok (.ireturn, 1) := by decide +kernel
theorem dX1_missedFigures_0 : decode cX1_missedFigures 0 = .ok (.iload_n 2, 1) := by decide +kernel
theorem dX1_missedFigures_1 : decode cX1_missedFigures 1 = .ok (.bipush 100, 2) := by decide +kernel
theorem dX1_missedFigures_3 : decode cX1_missedFigures 3 = .ok (.idiv, 1) := by decide +kernel
theorem dX1_missedFigures_4 : decode cX1_missedFigures 4 = .ok (.istore_n 3, 1) := by decide +kernel
theorem dX1_missedFigures_5 : decode cX1_missedFigures 5 = .ok (.iload_n 2, 1) := by decide +kernel
theorem dX1_missedFigures_6 : decode cX1_missedFigures 6 = .ok (.bipush 10, 2) := by decide +kernel
theorem dX1_missedFigures_8 : decode cX1_missedFigures 8 = .ok (.idiv, 1) := by decide +kernel
theorem dX1_missedFigures_9 : decode cX1_missedFigures 9 = .ok (.bipush 10, 2) := by decide +kernel
theorem dX1_missedFigures_11 : decode cX1_missedFigures 11 = .ok (.irem, 1) := by decide +kernel
theorem dX1_missedFigures_12 : decode cX1_missedFigures 12 = .ok (.istore 4, 2) := by decide +kernel
theorem dX1_missedFigures_14 : decode cX1_missedFigures 14 = .ok (.iload_n 2, 1) := by decide +kernel
theorem dX1_missedFigures_15 : decode cX1_missedFigures 15 = .ok (.bipush 10, 2) := by decide +kernel
theorem dX1_missedFigures_17 : decode cX1_missedFigures 17 = .ok (.irem, 1) := by decide +kernel
theorem dX1_missedFigures_18 : decode cX1_missedFigures 18 = .ok (.istore 5, 2) := by decide +kernel
theorem dX1_missedFigures_20 : decode cX1_missedFigures 20 = .ok (.iload_n 0, 1) := by decide +kernel
theorem dX1_missedFigures_21 : decode cX1_missedFigures 21 = .ok (.iload_n 1, 1) := by decide +kernel
theorem dX1_missedFigures_22 : decode cX1_missedFigures 22 = .ok (.iload_n 3, 1) := by decide +kernel
theorem dX1_missedFigures_23 : decode cX1_missedFigures 23 = .ok (.iload 4, 2) := by decide +kernel
theorem dX1_missedFigures_25 : decode cX1_missedFigures 25 = .ok (.iload 5, 2) := by decide +kernel
theorem dX1_missedFigures_27 : decode cX1_missedFigures 27 = .ok (.invokestatic 7, 3) := by decide +kernel
theorem dX1_missedFigures_30 : decode cX1_missedFigures 30 = .ok (.istore 6, 2) := by decide +kernel
theorem dX1_missedFigures_32 : decode cX1_missedFigures 32 = .ok (.iconst 0, 1) := by decide +kernel
theorem dX1_missedFigures_33 : decode cX1_missedFigures 33 = .ok (.istore 7, 2) := by decide +kernel
theorem dX1_missedFigures_35 : decode cX1_missedFigures 35 = .ok (.iconst 0, 1) := by decide +kernel
theorem dX1_missedFigures_36 : decode cX1_missedFigures 36 = .ok (.istore 8, 2) := by decide +kernel
theorem dX1_missedFigures_38 : decode cX1_missedFigures 38 = .ok (.iload 8, 2) := by decide +kernel
theorem dX1_missedFigures_40 : decode cX1_missedFigures 40 = .ok (.bipush 9, 2) := by decide +kernel
theorem dX1_missedFigures_42 : decode cX1_missedFigures 42 = .ok (.if_icmp .gt 84, 3) := by decide +kernel
theorem dX1_missedFigures_45 : decode cX1_missedFigures 45 = .ok (.iload 8, 2) := by decide +kernel
theorem dX1_missedFigures_47 : decode cX1_missedFigures 47 = .ok (.iload_n 3, 1) := by decide +kernel
theorem dX1_missedFigures_48 : decode cX1_missedFigures 48 = .ok (.if_icmp .eq 22, 3) := by decide +kernel
theorem dX1_missedFigures_51 : decode cX1_missedFigures 51 = .ok (.iload_n 0, 1) := by decide +kernel
theorem dX1_missedFigures_52 : decode cX1_missedFigures 52 = .ok (.iload_n 1, 1) := by decide +kernel
theorem dX1_missedFigures_53 : decode cX1_missedFigures 53 = .ok (.iload 8, 2) := by decide +kernel
theorem dX1_missedFigures_55 : decode cX1_missedFigures 55 = .ok (.iload 4, 2) := by decide +kernel
theorem dX1_missedFigures_57 : decode cX1_missedFigures 57 = .ok (.iload 5, 2) := by decide +kernel
theorem dX1_missedFigures_59 : decode cX1_missedFigures 59 = .ok (.invokestatic 7, 3) := by decide +kernel
theorem dX1_missedFigures_62 : decode cX1_missedFigures 62 = .ok (.iload 6, 2) := by decide +kernel
theorem dX1_missedFigures_64 : decode cX1_missedFigures 64 = .ok (.if_icmp .ne 6, 3) := by decide +kernel
theorem dX1_missedFigures_67 : decode cX1_missedFigures 67 = .ok (.iinc 7 1, 3) := by decide +kernel
theorem dX1_missedFigures_70 : decode cX1_missedFigures 70 = .ok (.iload 8, 2) := by decide +kernel
theorem dX1_missedFigures_72 : decode cX1_missedFigures 72 = .ok (.iload 4, 2) := by decide +kernel
theorem dX1_missedFigures_74 : decode cX1_missedFigures 74 = .ok (.if_icmp .eq 21, 3) := by decide +kernel
theorem dX1_missedFigures_77 : decode cX1_missedFigures 77 = .ok (.iload_n 0, 1) := by decide +kernel
theorem dX1_missedFigures_78 : decode cX1_missedFigures 78 = .ok (.iload_n 1, 1) := by decide +kernel
theorem dX1_missedFigures_79 : decode cX1_missedFigures 79 = .ok (.iload_n 3, 1) := by decide +kernel
theorem dX1_missedFigures_80 : decode cX1_missedFigures 80 = .ok (.iload 8, 2) := by decide +kernel
theorem dX1_missedFigures_82 : decode cX1_missedFigures 82 = .ok (.iload 5, 2) := by decide +kernel
theorem dX1_missedFigures_84 : decode cX1_missedFigures 84 = .ok (.invokestatic 7, 3) := by decide +kernel
theorem dX1_missedFigures_87 : decode cX1_missedFigures 87 = .ok (.iload 6, 2) := by decide +kernel
theorem dX1_missedFigures_89 : decode cX1_missedFigures 89 = .ok (.if_icmp .ne 6, 3) := by decide +kernel
theorem dX1_missedFigures_92 : decode cX1_missedFigures 92 = .ok (.iinc 7 1, 3) := by decide +kernel
theorem dX1_missedFigures_95 : decode cX1_missedFigures 95 = .ok (.iload 8, 2) := by decide +kernel
theorem dX1_missedFigures_97 : decode cX1_missedFigures 97 = .ok (.iload 5, 2) := by decide +kernel
theorem dX1_missedFigures_99 : decode cX1_missedFigures 99 = .ok (.if_icmp .eq 21, 3) := by decide +kernel
theorem dX1_missedFigures_102 : decode cX1_missedFigures 102 = .ok (.iload_n 0, 1) := by decide +kernel
theorem dX1_missedFigures_103 : decode cX1_missedFigures 103 = .ok (.iload_n 1, 1) := by decide +kernel
theorem dX1_missedFigures_104 : decode cX1_missedFigures 104 = .ok (.iload_n 3, 1) := by decide +kernel
theorem dX1_missedFigures_105 : decode cX1_missedFigures 105 = .ok (.iload 4, 2) := by decide +kernel
theorem dX1_missedFigures_107 : decode cX1_missedFigures 107 = .ok (.iload 8, 2) := by decide +kernel
theorem dX1_missedFigures_109 : decode cX1_missedFigures 109 = .ok (.invokestatic 7, 3) := by decide +kernel
theorem dX1_missedFigures_112 : decode cX1_missedFigures 112 = .ok (.iload 6, 2) := by decide +kernel
theorem dX1_missedFigures_114 : decode cX1_missedFigures 114 = .ok (.if_icmp .ne 6, 3) := by decide +kernel
theorem dX1_missedFigures_117 : decode cX1_missedFigures 117 = .ok (.iinc 7 1, 3) := by decide +kernel
theorem dX1_missedFigures_120 : decode cX1_missedFigures 120 = .ok (.iinc 8 1, 3) := by decide +kernel
theorem dX1_missedFigures_123 : decode cX1_missedFigures 123 = .ok (.goto (-85), 3) := by decide +kernel
theorem dX1_missedFigures_126 : decode cX1_missedFigures 126 = .ok (.iload 7, 2) := by decide +kernel
theorem dX1_missedFigures_128 : decode cX1_missedFigures 128 = .ok (.ireturn, 1) := by decide +kernel
theorem dX1_missedSwaps_0 : decode cX1_missedSwaps 0 = .ok (.iload_n 2, 1) := by decide +kernel
theorem dX1_missedSwaps_1 : decode cX1_missedSwaps 1 = .ok (.bipush 100, 2) := by decide +kernel
theorem dX1_missedSwaps_3 : decode cX1_missedSwaps 3 = .ok (.idiv, 1) := by decide +kernel
theorem dX1_missedSwaps_4 : decode cX1_missedSwaps 4 = .ok (.istore_n 3, 1) := by decide +kernel
theorem dX1_missedSwaps_5 : decode cX1_missedSwaps 5 = .ok (.iload_n 2, 1) := by decide +kernel
theorem dX1_missedSwaps_6 : decode cX1_missedSwaps 6 = .ok (.bipush 10, 2) := by decide +kernel
theorem dX1_missedSwaps_8 : decode cX1_missedSwaps 8 = .ok (.idiv, 1) := by decide +kernel
theorem dX1_missedSwaps_9 : decode cX1_missedSwaps 9 = .ok (.bipush 10, 2) := by decide +kernel
theorem dX1_missedSwaps_11 : decode cX1_missedSwaps 11 = .ok (.irem, 1) := by decide +kernel
theorem dX1_missedSwaps_12 : decode cX1_missedSwaps 12 = .ok (.istore 4, 2) := by decide +kernel
theorem dX1_missedSwaps_14 : decode cX1_missedSwaps 14 = .ok (.iload_n 2, 1) := by decide +kernel
theorem dX1_missedSwaps_15 : decode cX1_missedSwaps 15 = .ok (.bipush 10, 2) := by decide +kernel
theorem dX1_missedSwaps_17 : decode cX1_missedSwaps 17 = .ok (.irem, 1) := by decide +kernel
theorem dX1_missedSwaps_18 : decode cX1_missedSwaps 18 = .ok (.istore 5, 2) := by decide +kernel
theorem dX1_missedSwaps_20 : decode cX1_missedSwaps 20 = .ok (.iload_n 0, 1) := by decide +kernel
theorem dX1_missedSwaps_21 : decode cX1_missedSwaps 21 = .ok (.iload_n 1, 1) := by decide +kernel
theorem dX1_missedSwaps_22 : decode cX1_missedSwaps 22 = .ok (.iload_n 3, 1) := by decide +kernel
theorem dX1_missedSwaps_23 : decode cX1_missedSwaps 23 = .ok (.iload 4, 2) := by decide +kernel
theorem dX1_missedSwaps_25 : decode cX1_missedSwaps 25 = .ok (.iload 5, 2) := by decide +kernel
theorem dX1_missedSwaps_27 : decode cX1_missedSwaps 27 = .ok (.invokestatic 7, 3) := by decide +kernel
theorem dX1_missedSwaps_30 : decode cX1_missedSwaps 30 = .ok (.istore 6, 2) := by decide +kernel
theorem dX1_missedSwaps_32 : decode cX1_missedSwaps 32 = .ok (.iconst 0, 1) := by decide +kernel
theorem dX1_missedSwaps_33 : decode cX1_missedSwaps 33 = .ok (.istore 7, 2) := by decide +kernel
theorem dX1_missedSwaps_35 : decode cX1_missedSwaps 35 = .ok (.iload_n 3, 1) := by decide +kernel
theorem dX1_missedSwaps_36 : decode cX1_missedSwaps 36 = .ok (.iload 4, 2) := by decide +kernel
theorem dX1_missedSwaps_38 : decode cX1_missedSwaps 38 = .ok (.if_icmp .eq 21, 3) := by decide +kernel
theorem dX1_missedSwaps_41 : decode cX1_missedSwaps 41 = .ok (.iload_n 0, 1) := by decide +kernel
theorem dX1_missedSwaps_42 : decode cX1_missedSwaps 42 = .ok (.iload_n 1, 1) := by decide +kernel
theorem dX1_missedSwaps_43 : decode cX1_missedSwaps 43 = .ok (.iload 4, 2) := by decide +kernel
theorem dX1_missedSwaps_45 : decode cX1_missedSwaps 45 = .ok (.iload_n 3, 1) := by decide +kernel
theorem dX1_missedSwaps_46 : decode cX1_missedSwaps 46 = .ok (.iload 5, 2) := by decide +kernel
theorem dX1_missedSwaps_48 : decode cX1_missedSwaps 48 = .ok (.invokestatic 7, 3) := by decide +kernel
theorem dX1_missedSwaps_51 : decode cX1_missedSwaps 51 = .ok (.iload 6, 2) := by decide +kernel
theorem dX1_missedSwaps_53 : decode cX1_missedSwaps 53 = .ok (.if_icmp .ne 6, 3) := by decide +kernel
theorem dX1_missedSwaps_56 : decode cX1_missedSwaps 56 = .ok (.iinc 7 1, 3) := by decide +kernel
theorem dX1_missedSwaps_59 : decode cX1_missedSwaps 59 = .ok (.iload 4, 2) := by decide +kernel
theorem dX1_missedSwaps_61 : decode cX1_missedSwaps 61 = .ok (.iload 5, 2) := by decide +kernel
theorem dX1_missedSwaps_63 : decode cX1_missedSwaps 63 = .ok (.if_icmp .eq 21, 3) := by decide +kernel
theorem dX1_missedSwaps_66 : decode cX1_missedSwaps 66 = .ok (.iload_n 0, 1) := by decide +kernel
theorem dX1_missedSwaps_67 : decode cX1_missedSwaps 67 = .ok (.iload_n 1, 1) := by decide +kernel
theorem dX1_missedSwaps_68 : decode cX1_missedSwaps 68 = .ok (.iload_n 3, 1) := by decide +kernel
theorem dX1_missedSwaps_69 : decode cX1_missedSwaps 69 = .ok (.iload 5, 2) := by decide +kernel
theorem dX1_missedSwaps_71 : decode cX1_missedSwaps 71 = .ok (.iload 4, 2) := by decide +kernel
theorem dX1_missedSwaps_73 : decode cX1_missedSwaps 73 = .ok (.invokestatic 7, 3) := by decide +kernel
theorem dX1_missedSwaps_76 : decode cX1_missedSwaps 76 = .ok (.iload 6, 2) := by decide +kernel
theorem dX1_missedSwaps_78 : decode cX1_missedSwaps 78 = .ok (.if_icmp .ne 6, 3) := by decide +kernel
theorem dX1_missedSwaps_81 : decode cX1_missedSwaps 81 = .ok (.iinc 7 1, 3) := by decide +kernel
theorem dX1_missedSwaps_84 : decode cX1_missedSwaps 84 = .ok (.iload 7, 2) := by decide +kernel
theorem dX1_missedSwaps_86 : decode cX1_missedSwaps 86 = .ok (.ireturn, 1) := by decide +kernel
theorem dX1_ofFigures_0 : decode cX1_ofFigures 0 = .ok (.iload_n 0, 1) := by decide +kernel
theorem dX1_ofFigures_1 : decode cX1_ofFigures 1 = .ok (.ifCond .ne 18, 3) := by decide +kernel
theorem dX1_ofFigures_4 : decode cX1_ofFigures 4 = .ok (.iload_n 1, 1) := by decide +kernel
theorem dX1_ofFigures_5 : decode cX1_ofFigures 5 = .ok (.iload_n 2, 1) := by decide +kernel
theorem dX1_ofFigures_6 : decode cX1_ofFigures 6 = .ok (.iadd, 1) := by decide +kernel
theorem dX1_ofFigures_7 : decode cX1_ofFigures 7 = .ok (.iload_n 3, 1) := by decide +kernel
theorem dX1_ofFigures_8 : decode cX1_ofFigures 8 = .ok (.iadd, 1) := by decide +kernel
theorem dX1_ofFigures_9 : decode cX1_ofFigures 9 = .ok (.iload 4, 2) := by decide +kernel
theorem dX1_ofFigures_11 : decode cX1_ofFigures 11 = .ok (.iadd, 1) := by decide +kernel
theorem dX1_ofFigures_12 : decode cX1_ofFigures 12 = .ok (.ineg, 1) := by decide +kernel
theorem dX1_ofFigures_13 : decode cX1_ofFigures 13 = .ok (.bipush 9, 2) := by decide +kernel
theorem dX1_ofFigures_15 : decode cX1_ofFigures 15 = .ok (.invokestatic 17, 3) := by decide +kernel
theorem dX1_ofFigures_18 : decode cX1_ofFigures 18 = .ok (.ireturn, 1) := by decide +kernel
theorem dX1_ofFigures_19 : decode cX1_ofFigures 19 = .ok (.iload_n 0, 1) := by decide +kernel
theorem dX1_ofFigures_20 : decode cX1_ofFigures 20 = .ok (.iconst 1, 1) := by decide +kernel
theorem dX1_ofFigures_21 : decode cX1_ofFigures 21 = .ok (.if_icmp .ne 26, 3) := by decide +kernel
theorem dX1_ofFigures_24 : decode cX1_ofFigures 24 = .ok (.iconst 5, 1) := by decide +kernel
theorem dX1_ofFigures_25 : decode cX1_ofFigures 25 = .ok (.iload_n 1, 1) := by decide +kernel
theorem dX1_ofFigures_26 : decode cX1_ofFigures 26 = .ok (.imul, 1) := by decide +kernel
theorem dX1_ofFigures_27 : decode cX1_ofFigures 27 = .ok (.iconst 4, 1) := by decide +kernel
theorem dX1_ofFigures_28 : decode cX1_ofFigures 28 = .ok (.iload_n 2, 1) := by decide +kernel
theorem dX1_ofFigures_29 : decode cX1_ofFigures 29 = .ok (.imul, 1) := by decide +kernel
theorem dX1_ofFigures_30 : decode cX1_ofFigures 30 = .ok (.iadd, 1) := by decide +kernel
theorem dX1_ofFigures_31 : decode cX1_ofFigures 31 = .ok (.iconst 3, 1) := by decide +kernel
theorem dX1_ofFigures_32 : decode cX1_ofFigures 32 = .ok (.iload_n 3, 1) := by decide +kernel
theorem dX1_ofFigures_33 : decode cX1_ofFigures 33 = .ok (.imul, 1) := by decide +kernel
theorem dX1_ofFigures_34 : decode cX1_ofFigures 34 = .ok (.iadd, 1) := by decide +kernel
theorem dX1_ofFigures_35 : decode cX1_ofFigures 35 = .ok (.iconst 2, 1) := by decide +kernel
theorem dX1_ofFigures_36 : decode cX1_ofFigures 36 = .ok (.iload 4, 2) := by decide +kernel
theorem dX1_ofFigures_38 : decode cX1_ofFigures 38 = .ok (.imul, 1) := by decide +kernel
theorem dX1_ofFigures_39 : decode cX1_ofFigures 39 = .ok (.iadd, 1) := by decide +kernel
theorem dX1_ofFigures_40 : decode cX1_ofFigures 40 = .ok (.ineg, 1) := by decide +kernel
theorem dX1_ofFigures_41 : decode cX1_ofFigures 41 = .ok (.bipush 11, 2) := by decide +kernel
theorem dX1_ofFigures_43 : decode cX1_ofFigures 43 = .ok (.invokestatic 17, 3) := by decide +kernel
theorem dX1_ofFigures_46 : decode cX1_ofFigures 46 = .ok (.ireturn, 1) := by decide +kernel
theorem dX1_ofFigures_47 : decode cX1_ofFigures 47 = .ok (.iload_n 1, 1) := by decide +kernel
theorem dX1_ofFigures_48 : decode cX1_ofFigures 48 = .ok (.iload_n 2, 1) := by decide +kernel
theorem dX1_ofFigures_49 : decode cX1_ofFigures 49 = .ok (.iload_n 3, 1) := by decide +kernel
theorem dX1_ofFigures_50 : decode cX1_ofFigures 50 = .ok (.iload 4, 2) := by decide +kernel
theorem dX1_ofFigures_52 : decode cX1_ofFigures 52 = .ok (.invokestatic 23, 3) := by decide +kernel
theorem dX1_ofFigures_55 : decode cX1_ofFigures 55 = .ok (.ireturn, 1) := by decide +kernel
theorem dX1_byTurns_0 : decode cX1_byTurns 0 = .ok (.iload_n 0, 1) := by decide +kernel
theorem dX1_byTurns_1 : decode cX1_byTurns 1 = .ok (.bipush 10, 2) := by decide +kernel
theorem dX1_byTurns_3 : decode cX1_byTurns 3 = .ok (.irem, 1) := by decide +kernel
theorem dX1_byTurns_4 : decode cX1_byTurns 4 = .ok (.istore 4, 2) := by decide +kernel
theorem dX1_byTurns_6 : decode cX1_byTurns 6 = .ok (.iload 4, 2) := by decide +kernel
theorem dX1_byTurns_8 : decode cX1_byTurns 8 = .ok (.iload_n 1, 1) := by decide +kernel
theorem dX1_byTurns_9 : decode cX1_byTurns 9 = .ok (.iconst 1, 1) := by decide +kernel
theorem dX1_byTurns_10 : decode cX1_byTurns 10 = .ok (.invokestatic 27, 3) := by decide +kernel
theorem dX1_byTurns_13 : decode cX1_byTurns 13 = .ok (.invokestatic 30, 3) := by decide +kernel
theorem dX1_byTurns_16 : decode cX1_byTurns 16 = .ok (.istore 4, 2) := by decide +kernel
theorem dX1_byTurns_18 : decode cX1_byTurns 18 = .ok (.iload 4, 2) := by decide +kernel
theorem dX1_byTurns_20 : decode cX1_byTurns 20 = .ok (.iload_n 2, 1) := by decide +kernel
theorem dX1_byTurns_21 : decode cX1_byTurns 21 = .ok (.iconst 2, 1) := by decide +kernel
theorem dX1_byTurns_22 : decode cX1_byTurns 22 = .ok (.invokestatic 27, 3) := by decide +kernel
theorem dX1_byTurns_25 : decode cX1_byTurns 25 = .ok (.invokestatic 30, 3) := by decide +kernel
theorem dX1_byTurns_28 : decode cX1_byTurns 28 = .ok (.istore 4, 2) := by decide +kernel
theorem dX1_byTurns_30 : decode cX1_byTurns 30 = .ok (.iload 4, 2) := by decide +kernel
theorem dX1_byTurns_32 : decode cX1_byTurns 32 = .ok (.iload_n 3, 1) := by decide +kernel
theorem dX1_byTurns_33 : decode cX1_byTurns 33 = .ok (.iconst 3, 1) := by decide +kernel
theorem dX1_byTurns_34 : decode cX1_byTurns 34 = .ok (.invokestatic 27, 3) := by decide +kernel
theorem dX1_byTurns_37 : decode cX1_byTurns 37 = .ok (.invokestatic 30, 3) := by decide +kernel
theorem dX1_byTurns_40 : decode cX1_byTurns 40 = .ok (.istore 4, 2) := by decide +kernel
theorem dX1_byTurns_42 : decode cX1_byTurns 42 = .ok (.iload 4, 2) := by decide +kernel
theorem dX1_byTurns_44 : decode cX1_byTurns 44 = .ok (.iconst 5, 1) := by decide +kernel
theorem dX1_byTurns_45 : decode cX1_byTurns 45 = .ok (.if_icmp .ge 12, 3) := by decide +kernel
theorem dX1_byTurns_48 : decode cX1_byTurns 48 = .ok (.iconst 5, 1) := by decide +kernel
theorem dX1_byTurns_49 : decode cX1_byTurns 49 = .ok (.iload 4, 2) := by decide +kernel
theorem dX1_byTurns_51 : decode cX1_byTurns 51 = .ok (.isub, 1) := by decide +kernel
theorem dX1_byTurns_52 : decode cX1_byTurns 52 = .ok (.iconst 5, 1) := by decide +kernel
theorem dX1_byTurns_53 : decode cX1_byTurns 53 = .ok (.irem, 1) := by decide +kernel
theorem dX1_byTurns_54 : decode cX1_byTurns 54 = .ok (.goto 5, 3) := by decide +kernel
theorem dX1_byTurns_57 : decode cX1_byTurns 57 = .ok (.iload 4, 2) := by decide +kernel
theorem dX1_byTurns_59 : decode cX1_byTurns 59 = .ok (.ireturn, 1) := by decide +kernel
theorem dX1_make_0 : decode cX1_make 0 = .ok (.iload_n 0, 1) := by decide +kernel
theorem dX1_make_1 : decode cX1_make 1 = .ok (.iconst 5, 1) := by decide +kernel
theorem dX1_make_2 : decode cX1_make 2 = .ok (.if_icmp .ge 11, 3) := by decide +kernel
theorem dX1_make_5 : decode cX1_make 5 = .ok (.iload_n 0, 1) := by decide +kernel
theorem dX1_make_6 : decode cX1_make 6 = .ok (.iload_n 1, 1) := by decide +kernel
theorem dX1_make_7 : decode cX1_make 7 = .ok (.iadd, 1) := by decide +kernel
theorem dX1_make_8 : decode cX1_make 8 = .ok (.iconst 5, 1) := by decide +kernel
theorem dX1_make_9 : decode cX1_make 9 = .ok (.irem, 1) := by decide +kernel
theorem dX1_make_10 : decode cX1_make 10 = .ok (.goto 10, 3) := by decide +kernel
theorem dX1_make_13 : decode cX1_make 13 = .ok (.iload_n 0, 1) := by decide +kernel
theorem dX1_make_14 : decode cX1_make 14 = .ok (.iload_n 1, 1) := by decide +kernel
theorem dX1_make_15 : decode cX1_make 15 = .ok (.isub, 1) := by decide +kernel
theorem dX1_make_16 : decode cX1_make 16 = .ok (.iconst 5, 1) := by decide +kernel
theorem dX1_make_17 : decode cX1_make 17 = .ok (.iadd, 1) := by decide +kernel
theorem dX1_make_18 : decode cX1_make 18 = .ok (.iconst 5, 1) := by decide +kernel
theorem dX1_make_19 : decode cX1_make 19 = .ok (.irem, 1) := by decide +kernel
theorem dX1_make_20 : decode cX1_make 20 = .ok (.istore_n 2, 1) := by decide +kernel
theorem dX1_make_21 : decode cX1_make 21 = .ok (.iload_n 0, 1) := by decide +kernel
theorem dX1_make_22 : decode cX1_make 22 = .ok (.iconst 5, 1) := by decide +kernel
theorem dX1_make_23 : decode cX1_make 23 = .ok (.if_icmp .ge 7, 3) := by decide +kernel
theorem dX1_make_26 : decode cX1_make 26 = .ok (.iconst 1, 1) := by decide +kernel
theorem dX1_make_27 : decode cX1_make 27 = .ok (.goto 4, 3) := by decide +kernel
theorem dX1_make_30 : decode cX1_make 30 = .ok (.iconst 0, 1) := by decide +kernel
theorem dX1_make_31 : decode cX1_make 31 = .ok (.iload_n 1, 1) := by decide +kernel
theorem dX1_make_32 : decode cX1_make 32 = .ok (.iconst 5, 1) := by decide +kernel
theorem dX1_make_33 : decode cX1_make 33 = .ok (.if_icmp .ge 7, 3) := by decide +kernel
theorem dX1_make_36 : decode cX1_make 36 = .ok (.iconst 1, 1) := by decide +kernel
theorem dX1_make_37 : decode cX1_make 37 = .ok (.goto 4, 3) := by decide +kernel
theorem dX1_make_40 : decode cX1_make 40 = .ok (.iconst 0, 1) := by decide +kernel
theorem dX1_make_41 : decode cX1_make 41 = .ok (.if_icmp .ne 7, 3) := by decide +kernel
theorem dX1_make_44 : decode cX1_make 44 = .ok (.iload_n 2, 1) := by decide +kernel
theorem dX1_make_45 : decode cX1_make 45 = .ok (.goto 6, 3) := by decide +kernel
theorem dX1_make_48 : decode cX1_make 48 = .ok (.iconst 5, 1) := by decide +kernel
theorem dX1_make_49 : decode cX1_make 49 = .ok (.iload_n 2, 1) := by decide +kernel
theorem dX1_make_50 : decode cX1_make 50 = .ok (.iadd, 1) := by decide +kernel
theorem dX1_make_51 : decode cX1_make 51 = .ok (.ireturn, 1) := by decide +kernel
theorem dX1_turned_0 : decode cX1_turned 0 = .ok (.iload_n 0, 1) := by decide +kernel
theorem dX1_turned_1 : decode cX1_turned 1 = .ok (.istore_n 2, 1) := by decide +kernel
theorem dX1_turned_2 : decode cX1_turned 2 = .ok (.iconst 0, 1) := by decide +kernel
theorem dX1_turned_3 : decode cX1_turned 3 = .ok (.istore_n 3, 1) := by decide +kernel
theorem dX1_turned_4 : decode cX1_turned 4 = .ok (.iload_n 3, 1) := by decide +kernel
theorem dX1_turned_5 : decode cX1_turned 5 = .ok (.iload_n 1, 1) := by decide +kernel
theorem dX1_turned_6 : decode cX1_turned 6 = .ok (.if_icmp .ge 29, 3) := by decide +kernel
theorem dX1_turned_9 : decode cX1_turned 9 = .ok (.iload_n 2, 1) := by decide +kernel
theorem dX1_turned_10 : decode cX1_turned 10 = .ok (.iconst 0, 1) := by decide +kernel
theorem dX1_turned_11 : decode cX1_turned 11 = .ok (.bipush 9, 2) := by decide +kernel
theorem dX1_turned_13 : decode cX1_turned 13 = .ok (.invokestatic 33, 3) := by decide +kernel
theorem dX1_turned_16 : decode cX1_turned 16 = .ok (.ifCond .eq 11, 3) := by decide +kernel
theorem dX1_turned_19 : decode cX1_turned 19 = .ok (.getstatic 39, 3) := by decide +kernel
theorem dX1_turned_22 : decode cX1_turned 22 = .ok (.iload_n 2, 1) := by decide +kernel
theorem dX1_turned_23 : decode cX1_turned 23 = .ok (.iaload, 1) := by decide +kernel
theorem dX1_turned_24 : decode cX1_turned 24 = .ok (.goto 4, 3) := by decide +kernel
theorem dX1_turned_27 : decode cX1_turned 27 = .ok (.iconst 0, 1) := by decide +kernel
theorem dX1_turned_28 : decode cX1_turned 28 = .ok (.istore_n 2, 1) := by decide +kernel
theorem dX1_turned_29 : decode cX1_turned 29 = .ok (.iinc 3 1, 3) := by decide +kernel
theorem dX1_turned_32 : decode cX1_turned 32 = .ok (.goto (-28), 3) := by decide +kernel
theorem dX1_turned_35 : decode cX1_turned 35 = .ok (.iload_n 2, 1) := by decide +kernel
theorem dX1_turned_36 : decode cX1_turned 36 = .ok (.ireturn, 1) := by decide +kernel
end
section
theorem dX2_init_0 : decode cX2_init 0 = .ok (.aload_n 0, 1) := by decide +kernel
theorem dX2_init_1 : decode cX2_init 1 = .ok (.invokespecial 3, 3) := by decide +kernel
theorem dX2_init_4 : decode cX2_init 4 = .ok (.aload_n 0, 1) := by decide +kernel
theorem dX2_init_5 : decode cX2_init 5 = .ok (.iconst 4, 1) := by decide +kernel
theorem dX2_init_6 : decode cX2_init 6 = .ok (.newarray .int, 2) := by decide +kernel
theorem dX2_init_8 : decode cX2_init 8 = .ok (.putfield 9, 3) := by decide +kernel
theorem dX2_init_11 : decode cX2_init 11 = .ok (.aload_n 0, 1) := by decide +kernel
theorem dX2_init_12 : decode cX2_init 12 = .ok (.iconst 3, 1) := by decide +kernel
theorem dX2_init_13 : decode cX2_init 13 = .ok (.anewarray 15, 3) := by decide +kernel
theorem dX2_init_16 : decode cX2_init 16 = .ok (.putfield 17, 3) := by decide +kernel
theorem dX2_init_19 : decode cX2_init 19 = .ok (.iconst 0, 1) := by decide +kernel
theorem dX2_init_20 : decode cX2_init 20 = .ok (.istore_n 1, 1) := by decide +kernel
theorem dX2_init_21 : decode cX2_init 21 = .ok (.iload_n 1, 1) := by decide +kernel
theorem dX2_init_22 : decode cX2_init 22 = .ok (.iconst 3, 1) := by decide +kernel
theorem dX2_init_23 : decode cX2_init 23 = .ok (.if_icmp .ge 22, 3) := by decide +kernel
theorem dX2_init_26 : decode cX2_init 26 = .ok (.aload_n 0, 1) := by decide +kernel
theorem dX2_init_27 : decode cX2_init 27 = .ok (.getfield 17, 3) := by decide +kernel
theorem dX2_init_30 : decode cX2_init 30 = .ok (.iload_n 1, 1) := by decide +kernel
theorem dX2_init_31 : decode cX2_init 31 = .ok (.new 15, 3) := by decide +kernel
theorem dX2_init_34 : decode cX2_init 34 = .ok (.dup, 1) := by decide +kernel
theorem dX2_init_35 : decode cX2_init 35 = .ok (.invokespecial 21, 3) := by decide +kernel
theorem dX2_init_38 : decode cX2_init 38 = .ok (.aastore, 1) := by decide +kernel
theorem dX2_init_39 : decode cX2_init 39 = .ok (.iinc 1 1, 3) := by decide +kernel
theorem dX2_init_42 : decode cX2_init 42 = .ok (.goto (-21), 3) := by decide +kernel
theorem dX2_init_45 : decode cX2_init 45 = .ok (.return_, 1) := by decide +kernel
theorem dX2_clear_0 : decode cX2_clear 0 = .ok (.aload_n 0, 1) := by decide +kernel
theorem dX2_clear_1 : decode cX2_clear 1 = .ok (.iconst 0, 1) := by decide +kernel
theorem dX2_clear_2 : decode cX2_clear 2 = .ok (.putfield 22, 3) := by decide +kernel
theorem dX2_clear_5 : decode cX2_clear 5 = .ok (.aload_n 0, 1) := by decide +kernel
theorem dX2_clear_6 : decode cX2_clear 6 = .ok (.iconst 0, 1) := by decide +kernel
theorem dX2_clear_7 : decode cX2_clear 7 = .ok (.putfield 26, 3) := by decide +kernel
theorem dX2_clear_10 : decode cX2_clear 10 = .ok (.aload_n 0, 1) := by decide +kernel
theorem dX2_clear_11 : decode cX2_clear 11 = .ok (.bipush 20, 2) := by decide +kernel
theorem dX2_clear_13 : decode cX2_clear 13 = .ok (.putfield 29, 3) := by decide +kernel
theorem dX2_clear_16 : decode cX2_clear 16 = .ok (.return_, 1) := by decide +kernel
theorem dX2_addPress_0 : decode cX2_addPress 0 = .ok (.aload_n 0, 1) := by decide +kernel
theorem dX2_addPress_1 : decode cX2_addPress 1 = .ok (.getfield 22, 3) := by decide +kernel
theorem dX2_addPress_4 : decode cX2_addPress 4 = .ok (.iconst 4, 1) := by decide +kernel
theorem dX2_addPress_5 : decode cX2_addPress 5 = .ok (.if_icmp .ge 10, 3) := by decide +kernel
theorem dX2_addPress_8 : decode cX2_addPress 8 = .ok (.aload_n 0, 1) := by decide +kernel
theorem dX2_addPress_9 : decode cX2_addPress 9 = .ok (.getfield 26, 3) := by decide +kernel
theorem dX2_addPress_12 : decode cX2_addPress 12 = .ok (.ifCond .le 5, 3) := by decide +kernel
theorem dX2_addPress_15 : decode cX2_addPress 15 = .ok (.iconst 0, 1) := by decide +kernel
theorem dX2_addPress_16 : decode cX2_addPress 16 = .ok (.ireturn, 1) := by decide +kernel
theorem dX2_addPress_17 : decode cX2_addPress 17 = .ok (.aload_n 0, 1) := by decide +kernel
theorem dX2_addPress_18 : decode cX2_addPress 18 = .ok (.getfield 9, 3) := by decide +kernel
theorem dX2_addPress_21 : decode cX2_addPress 21 = .ok (.aload_n 0, 1) := by decide +kernel
theorem dX2_addPress_22 : decode cX2_addPress 22 = .ok (.getfield 22, 3) := by decide +kernel
theorem dX2_addPress_25 : decode cX2_addPress 25 = .ok (.iload_n 1, 1) := by decide +kernel
theorem dX2_addPress_26 : decode cX2_addPress 26 = .ok (.iastore, 1) := by decide +kernel
theorem dX2_addPress_27 : decode cX2_addPress 27 = .ok (.aload_n 0, 1) := by decide +kernel
theorem dX2_addPress_28 : decode cX2_addPress 28 = .ok (.dup, 1) := by decide +kernel
theorem dX2_addPress_29 : decode cX2_addPress 29 = .ok (.getfield 22, 3) := by decide +kernel
theorem dX2_addPress_32 : decode cX2_addPress 32 = .ok (.iconst 1, 1) := by decide +kernel
theorem dX2_addPress_33 : decode cX2_addPress 33 = .ok (.iadd, 1) := by decide +kernel
theorem dX2_addPress_34 : decode cX2_addPress 34 = .ok (.putfield 22, 3) := by decide +kernel
theorem dX2_addPress_37 : decode cX2_addPress 37 = .ok (.iconst 1, 1) := by decide +kernel
theorem dX2_addPress_38 : decode cX2_addPress 38 = .ok (.ireturn, 1) := by decide +kernel
theorem dX2_nextSeries_0 : decode cX2_nextSeries 0 = .ok (.aload_n 0, 1) := by decide +kernel
theorem dX2_nextSeries_1 : decode cX2_nextSeries 1 = .ok (.getfield 26, 3) := by decide +kernel
theorem dX2_nextSeries_4 : decode cX2_nextSeries 4 = .ok (.iconst 3, 1) := by decide +kernel
theorem dX2_nextSeries_5 : decode cX2_nextSeries 5 = .ok (.if_icmp .ge 15, 3) := by decide +kernel
theorem dX2_nextSeries_8 : decode cX2_nextSeries 8 = .ok (.aload_n 0, 1) := by decide +kernel
theorem dX2_nextSeries_9 : decode cX2_nextSeries 9 = .ok (.getfield 17, 3) := by decide +kernel
theorem dX2_nextSeries_12 : decode cX2_nextSeries 12 = .ok (.aload_n 0, 1) := by decide +kernel
theorem dX2_nextSeries_13 : decode cX2_nextSeries 13 = .ok (.getfield 26, 3) := by decide +kernel
theorem dX2_nextSeries_16 : decode cX2_nextSeries 16 = .ok (.aaload, 1) := by decide +kernel
theorem dX2_nextSeries_17 : decode cX2_nextSeries 17 = .ok (.goto 4, 3) := by decide +kernel
theorem dX2_nextSeries_20 : decode cX2_nextSeries 20 = .ok (.aconst_null, 1) := by decide +kernel
theorem dX2_nextSeries_21 : decode cX2_nextSeries 21 = .ok (.areturn, 1) := by decide +kernel
theorem dX2_keepNextSeries_0 : decode cX2_keepNextSeries 0 = .ok (.aload_n 0, 1) := by decide +kernel
theorem dX2_keepNextSeries_1 : decode cX2_keepNextSeries 1 = .ok (.getfield 26, 3) := by decide +kernel
theorem dX2_keepNextSeries_4 : decode cX2_keepNextSeries 4 = .ok (.iconst 3, 1) := by decide +kernel
theorem dX2_keepNextSeries_5 : decode cX2_keepNextSeries 5 = .ok (.if_icmp .ge 13, 3) := by decide +kernel
theorem dX2_keepNextSeries_8 : decode cX2_keepNextSeries 8 = .ok (.aload_n 0, 1) := by decide +kernel
theorem dX2_keepNextSeries_9 : decode cX2_keepNextSeries 9 = .ok (.dup, 1) := by decide +kernel
theorem dX2_keepNextSeries_10 : decode cX2_keepNextSeries 10 = .ok (.getfield 26, 3) := by decide +kernel
theorem dX2_keepNextSeries_13 : decode cX2_keepNextSeries 13 = .ok (.iconst 1, 1) := by decide +kernel
theorem dX2_keepNextSeries_14 : decode cX2_keepNextSeries 14 = .ok (.iadd, 1) := by decide +kernel
theorem dX2_keepNextSeries_15 : decode cX2_keepNextSeries 15 = .ok (.putfield 26, 3) := by decide +kernel
theorem dX2_keepNextSeries_18 : decode cX2_keepNextSeries 18 = .ok (.return_, 1) := by decide +kernel
theorem dX2_seriesAt_0 : decode cX2_seriesAt 0 = .ok (.iload_n 1, 1) := by decide +kernel
theorem dX2_seriesAt_1 : decode cX2_seriesAt 1 = .ok (.iconst 0, 1) := by decide +kernel
theorem dX2_seriesAt_2 : decode cX2_seriesAt 2 = .ok (.aload_n 0, 1) := by decide +kernel
theorem dX2_seriesAt_3 : decode cX2_seriesAt 3 = .ok (.getfield 26, 3) := by decide +kernel
theorem dX2_seriesAt_6 : decode cX2_seriesAt 6 = .ok (.iconst 1, 1) := by decide +kernel
theorem dX2_seriesAt_7 : decode cX2_seriesAt 7 = .ok (.isub, 1) := by decide +kernel
theorem dX2_seriesAt_8 : decode cX2_seriesAt 8 = .ok (.invokestatic 32, 3) := by decide +kernel
theorem dX2_seriesAt_11 : decode cX2_seriesAt 11 = .ok (.ifCond .eq 12, 3) := by decide +kernel
theorem dX2_seriesAt_14 : decode cX2_seriesAt 14 = .ok (.aload_n 0, 1) := by decide +kernel
theorem dX2_seriesAt_15 : decode cX2_seriesAt 15 = .ok (.getfield 17, 3) := by decide +kernel
theorem dX2_seriesAt_18 : decode cX2_seriesAt 18 = .ok (.iload_n 1, 1) := by decide +kernel
theorem dX2_seriesAt_19 : decode cX2_seriesAt 19 = .ok (.aaload, 1) := by decide +kernel
theorem dX2_seriesAt_20 : decode cX2_seriesAt 20 = .ok (.goto 4, 3) := by decide +kernel
theorem dX2_seriesAt_23 : decode cX2_seriesAt 23 = .ok (.aconst_null, 1) := by decide +kernel
theorem dX2_seriesAt_24 : decode cX2_seriesAt 24 = .ok (.areturn, 1) := by decide +kernel
theorem dX2_shareAt_0 : decode cX2_shareAt 0 = .ok (.aload_n 0, 1) := by decide +kernel
theorem dX2_shareAt_1 : decode cX2_shareAt 1 = .ok (.iload_n 1, 1) := by decide +kernel
theorem dX2_shareAt_2 : decode cX2_shareAt 2 = .ok (.invokevirtual 36, 3) := by decide +kernel
theorem dX2_shareAt_5 : decode cX2_shareAt 5 = .ok (.astore_n 3, 1) := by decide +kernel
theorem dX2_shareAt_6 : decode cX2_shareAt 6 = .ok (.aload_n 3, 1) := by decide +kernel
theorem dX2_shareAt_7 : decode cX2_shareAt 7 = .ok (.ifnonnull 7, 3) := by decide +kernel
theorem dX2_shareAt_10 : decode cX2_shareAt 10 = .ok (.aconst_null, 1) := by decide +kernel
theorem dX2_shareAt_11 : decode cX2_shareAt 11 = .ok (.goto 8, 3) := by decide +kernel
theorem dX2_shareAt_14 : decode cX2_shareAt 14 = .ok (.aload_n 3, 1) := by decide +kernel
theorem dX2_shareAt_15 : decode cX2_shareAt 15 = .ok (.iload_n 2, 1) := by decide +kernel
theorem dX2_shareAt_16 : decode cX2_shareAt 16 = .ok (.invokevirtual 40, 3) := by decide +kernel
theorem dX2_shareAt_19 : decode cX2_shareAt 19 = .ok (.areturn, 1) := by decide +kernel
theorem dX2_seriesOfLetter_0 : decode cX2_seriesOfLetter 0 = .ok (.iconst 0, 1) := by decide +kernel
theorem dX2_seriesOfLetter_1 : decode cX2_seriesOfLetter 1 = .ok (.istore_n 2, 1) := by decide +kernel
theorem dX2_seriesOfLetter_2 : decode cX2_seriesOfLetter 2 = .ok (.iload_n 2, 1) := by decide +kernel
theorem dX2_seriesOfLetter_3 : decode cX2_seriesOfLetter 3 = .ok (.aload_n 0, 1) := by decide +kernel
theorem dX2_seriesOfLetter_4 : decode cX2_seriesOfLetter 4 = .ok (.getfield 26, 3) := by decide +kernel
theorem dX2_seriesOfLetter_7 : decode cX2_seriesOfLetter 7 = .ok (.if_icmp .ge 24, 3) := by decide +kernel
theorem dX2_seriesOfLetter_10 : decode cX2_seriesOfLetter 10 = .ok (.aload_n 0, 1) := by decide +kernel
theorem dX2_seriesOfLetter_11 : decode cX2_seriesOfLetter 11 = .ok (.getfield 17, 3) := by decide +kernel
theorem dX2_seriesOfLetter_14 : decode cX2_seriesOfLetter 14 = .ok (.iload_n 2, 1) := by decide +kernel
theorem dX2_seriesOfLetter_15 : decode cX2_seriesOfLetter 15 = .ok (.aaload, 1) := by decide +kernel
theorem dX2_seriesOfLetter_16 : decode cX2_seriesOfLetter 16 = .ok (.getfield 44, 3) := by decide +kernel
theorem dX2_seriesOfLetter_19 : decode cX2_seriesOfLetter 19 = .ok (.iload_n 1, 1) := by decide +kernel
theorem dX2_seriesOfLetter_20 : decode cX2_seriesOfLetter 20 = .ok (.if_icmp .ne 5, 3) := by decide +kernel
theorem dX2_seriesOfLetter_23 : decode cX2_seriesOfLetter 23 = .ok (.iload_n 2, 1) := by decide +kernel
theorem dX2_seriesOfLetter_24 : decode cX2_seriesOfLetter 24 = .ok (.ireturn, 1) := by decide +kernel
theorem dX2_seriesOfLetter_25 : decode cX2_seriesOfLetter 25 = .ok (.iinc 2 1, 3) := by decide +kernel
theorem dX2_seriesOfLetter_28 : decode cX2_seriesOfLetter 28 = .ok (.goto (-26), 3) := by decide +kernel
theorem dX2_seriesOfLetter_31 : decode cX2_seriesOfLetter 31 = .ok (.bipush (-4), 2) := by decide +kernel
theorem dX2_seriesOfLetter_33 : decode cX2_seriesOfLetter 33 = .ok (.ireturn, 1) := by decide +kernel
theorem dX2_notesPrinted_0 : decode cX2_notesPrinted 0 = .ok (.iconst 0, 1) := by decide +kernel
theorem dX2_notesPrinted_1 : decode cX2_notesPrinted 1 = .ok (.istore_n 1, 1) := by decide +kernel
theorem dX2_notesPrinted_2 : decode cX2_notesPrinted 2 = .ok (.iconst 0, 1) := by decide +kernel
theorem dX2_notesPrinted_3 : decode cX2_notesPrinted 3 = .ok (.istore_n 2, 1) := by decide +kernel
theorem dX2_notesPrinted_4 : decode cX2_notesPrinted 4 = .ok (.iload_n 2, 1) := by decide +kernel
theorem dX2_notesPrinted_5 : decode cX2_notesPrinted 5 = .ok (.aload_n 0, 1) := by decide +kernel
theorem dX2_notesPrinted_6 : decode cX2_notesPrinted 6 = .ok (.getfield 26, 3) := by decide +kernel
theorem dX2_notesPrinted_9 : decode cX2_notesPrinted 9 = .ok (.if_icmp .ge 21, 3) := by decide +kernel
theorem dX2_notesPrinted_12 : decode cX2_notesPrinted 12 = .ok (.iload_n 1, 1) := by decide +kernel
theorem dX2_notesPrinted_13 : decode cX2_notesPrinted 13 = .ok (.aload_n 0, 1) := by decide +kernel
theorem dX2_notesPrinted_14 : decode cX2_notesPrinted 14 = .ok (.getfield 17, 3) := by decide +kernel
theorem dX2_notesPrinted_17 : decode cX2_notesPrinted 17 = .ok (.iload_n 2, 1) := by decide +kernel
theorem dX2_notesPrinted_18 : decode cX2_notesPrinted 18 = .ok (.aaload, 1) := by decide +kernel
theorem dX2_notesPrinted_19 : decode cX2_notesPrinted 19 = .ok (.invokevirtual 47, 3) := by decide +kernel
theorem dX2_notesPrinted_22 : decode cX2_notesPrinted 22 = .ok (.iadd, 1) := by decide +kernel
theorem dX2_notesPrinted_23 : decode cX2_notesPrinted 23 = .ok (.istore_n 1, 1) := by decide +kernel
theorem dX2_notesPrinted_24 : decode cX2_notesPrinted 24 = .ok (.iinc 2 1, 3) := by decide +kernel
theorem dX2_notesPrinted_27 : decode cX2_notesPrinted 27 = .ok (.goto (-23), 3) := by decide +kernel
theorem dX2_notesPrinted_30 : decode cX2_notesPrinted 30 = .ok (.iload_n 1, 1) := by decide +kernel
theorem dX2_notesPrinted_31 : decode cX2_notesPrinted 31 = .ok (.ireturn, 1) := by decide +kernel
theorem dX2_sheetsRun_0 : decode cX2_sheetsRun 0 = .ok (.iconst 0, 1) := by decide +kernel
theorem dX2_sheetsRun_1 : decode cX2_sheetsRun 1 = .ok (.istore_n 1, 1) := by decide +kernel
theorem dX2_sheetsRun_2 : decode cX2_sheetsRun 2 = .ok (.iconst 0, 1) := by decide +kernel
theorem dX2_sheetsRun_3 : decode cX2_sheetsRun 3 = .ok (.istore_n 2, 1) := by decide +kernel
theorem dX2_sheetsRun_4 : decode cX2_sheetsRun 4 = .ok (.iload_n 2, 1) := by decide +kernel
theorem dX2_sheetsRun_5 : decode cX2_sheetsRun 5 = .ok (.aload_n 0, 1) := by decide +kernel
theorem dX2_sheetsRun_6 : decode cX2_sheetsRun 6 = .ok (.getfield 26, 3) := by decide +kernel
theorem dX2_sheetsRun_9 : decode cX2_sheetsRun 9 = .ok (.if_icmp .ge 21, 3) := by decide +kernel
theorem dX2_sheetsRun_12 : decode cX2_sheetsRun 12 = .ok (.iload_n 1, 1) := by decide +kernel
theorem dX2_sheetsRun_13 : decode cX2_sheetsRun 13 = .ok (.aload_n 0, 1) := by decide +kernel
theorem dX2_sheetsRun_14 : decode cX2_sheetsRun 14 = .ok (.getfield 17, 3) := by decide +kernel
theorem dX2_sheetsRun_17 : decode cX2_sheetsRun 17 = .ok (.iload_n 2, 1) := by decide +kernel
theorem dX2_sheetsRun_18 : decode cX2_sheetsRun 18 = .ok (.aaload, 1) := by decide +kernel
theorem dX2_sheetsRun_19 : decode cX2_sheetsRun 19 = .ok (.invokevirtual 51, 3) := by decide +kernel
theorem dX2_sheetsRun_22 : decode cX2_sheetsRun 22 = .ok (.iadd, 1) := by decide +kernel
theorem dX2_sheetsRun_23 : decode cX2_sheetsRun 23 = .ok (.istore_n 1, 1) := by decide +kernel
theorem dX2_sheetsRun_24 : decode cX2_sheetsRun 24 = .ok (.iinc 2 1, 3) := by decide +kernel
theorem dX2_sheetsRun_27 : decode cX2_sheetsRun 27 = .ok (.goto (-23), 3) := by decide +kernel
theorem dX2_sheetsRun_30 : decode cX2_sheetsRun 30 = .ok (.iload_n 1, 1) := by decide +kernel
theorem dX2_sheetsRun_31 : decode cX2_sheetsRun 31 = .ok (.ireturn, 1) := by decide +kernel
theorem dX2_wholePacks_0 : decode cX2_wholePacks 0 = .ok (.iconst 0, 1) := by decide +kernel
theorem dX2_wholePacks_1 : decode cX2_wholePacks 1 = .ok (.istore_n 1, 1) := by decide +kernel
theorem dX2_wholePacks_2 : decode cX2_wholePacks 2 = .ok (.iconst 0, 1) := by decide +kernel
theorem dX2_wholePacks_3 : decode cX2_wholePacks 3 = .ok (.istore_n 2, 1) := by decide +kernel
theorem dX2_wholePacks_4 : decode cX2_wholePacks 4 = .ok (.iload_n 2, 1) := by decide +kernel
theorem dX2_wholePacks_5 : decode cX2_wholePacks 5 = .ok (.aload_n 0, 1) := by decide +kernel
theorem dX2_wholePacks_6 : decode cX2_wholePacks 6 = .ok (.getfield 26, 3) := by decide +kernel
theorem dX2_wholePacks_9 : decode cX2_wholePacks 9 = .ok (.if_icmp .ge 21, 3) := by decide +kernel
theorem dX2_wholePacks_12 : decode cX2_wholePacks 12 = .ok (.iload_n 1, 1) := by decide +kernel
theorem dX2_wholePacks_13 : decode cX2_wholePacks 13 = .ok (.aload_n 0, 1) := by decide +kernel
theorem dX2_wholePacks_14 : decode cX2_wholePacks 14 = .ok (.getfield 17, 3) := by decide +kernel
theorem dX2_wholePacks_17 : decode cX2_wholePacks 17 = .ok (.iload_n 2, 1) := by decide +kernel
theorem dX2_wholePacks_18 : decode cX2_wholePacks 18 = .ok (.aaload, 1) := by decide +kernel
theorem dX2_wholePacks_19 : decode cX2_wholePacks 19 = .ok (.invokevirtual 54, 3) := by decide +kernel
theorem dX2_wholePacks_22 : decode cX2_wholePacks 22 = .ok (.iadd, 1) := by decide +kernel
theorem dX2_wholePacks_23 : decode cX2_wholePacks 23 = .ok (.istore_n 1, 1) := by decide +kernel
theorem dX2_wholePacks_24 : decode cX2_wholePacks 24 = .ok (.iinc 2 1, 3) := by decide +kernel
theorem dX2_wholePacks_27 : decode cX2_wholePacks 27 = .ok (.goto (-23), 3) := by decide +kernel
theorem dX2_wholePacks_30 : decode cX2_wholePacks 30 = .ok (.iload_n 1, 1) := by decide +kernel
theorem dX2_wholePacks_31 : decode cX2_wholePacks 31 = .ok (.ireturn, 1) := by decide +kernel
end
section
theorem dX3_init_0 : decode cX3_init 0 = .ok (.aload_n 0, 1) := by decide +kernel
theorem dX3_init_1 : decode cX3_init 1 = .ok (.invokespecial 3, 3) := by decide +kernel
theorem dX3_init_4 : decode cX3_init 4 = .ok (.aload_n 0, 1) := by decide +kernel
theorem dX3_init_5 : decode cX3_init 5 = .ok (.iconst 4, 1) := by decide +kernel
theorem dX3_init_6 : decode cX3_init 6 = .ok (.anewarray 9, 3) := by decide +kernel
theorem dX3_init_9 : decode cX3_init 9 = .ok (.putfield 11, 3) := by decide +kernel
theorem dX3_init_12 : decode cX3_init 12 = .ok (.iconst 0, 1) := by decide +kernel
theorem dX3_init_13 : decode cX3_init 13 = .ok (.istore_n 1, 1) := by decide +kernel
theorem dX3_init_14 : decode cX3_init 14 = .ok (.iload_n 1, 1) := by decide +kernel
theorem dX3_init_15 : decode cX3_init 15 = .ok (.iconst 4, 1) := by decide +kernel
theorem dX3_init_16 : decode cX3_init 16 = .ok (.if_icmp .ge 22, 3) := by decide +kernel
theorem dX3_init_19 : decode cX3_init 19 = .ok (.aload_n 0, 1) := by decide +kernel
theorem dX3_init_20 : decode cX3_init 20 = .ok (.getfield 11, 3) := by decide +kernel
theorem dX3_init_23 : decode cX3_init 23 = .ok (.iload_n 1, 1) := by decide +kernel
theorem dX3_init_24 : decode cX3_init 24 = .ok (.new 9, 3) := by decide +kernel
theorem dX3_init_27 : decode cX3_init 27 = .ok (.dup, 1) := by decide +kernel
theorem dX3_init_28 : decode cX3_init 28 = .ok (.invokespecial 17, 3) := by decide +kernel
theorem dX3_init_31 : decode cX3_init 31 = .ok (.aastore, 1) := by decide +kernel
theorem dX3_init_32 : decode cX3_init 32 = .ok (.iinc 1 1, 3) := by decide +kernel
theorem dX3_init_35 : decode cX3_init 35 = .ok (.goto (-21), 3) := by decide +kernel
theorem dX3_init_38 : decode cX3_init 38 = .ok (.return_, 1) := by decide +kernel
theorem dX3_begin_0 : decode cX3_begin 0 = .ok (.aload_n 0, 1) := by decide +kernel
theorem dX3_begin_1 : decode cX3_begin 1 = .ok (.iload_n 1, 1) := by decide +kernel
theorem dX3_begin_2 : decode cX3_begin 2 = .ok (.putfield 18, 3) := by decide +kernel
theorem dX3_begin_5 : decode cX3_begin 5 = .ok (.aload_n 0, 1) := by decide +kernel
theorem dX3_begin_6 : decode cX3_begin 6 = .ok (.iload_n 2, 1) := by decide +kernel
theorem dX3_begin_7 : decode cX3_begin 7 = .ok (.putfield 22, 3) := by decide +kernel
theorem dX3_begin_10 : decode cX3_begin 10 = .ok (.aload_n 0, 1) := by decide +kernel
theorem dX3_begin_11 : decode cX3_begin 11 = .ok (.iconst 0, 1) := by decide +kernel
theorem dX3_begin_12 : decode cX3_begin 12 = .ok (.putfield 25, 3) := by decide +kernel
theorem dX3_begin_15 : decode cX3_begin 15 = .ok (.aload_n 0, 1) := by decide +kernel
theorem dX3_begin_16 : decode cX3_begin 16 = .ok (.iconst 0, 1) := by decide +kernel
theorem dX3_begin_17 : decode cX3_begin 17 = .ok (.putfield 28, 3) := by decide +kernel
theorem dX3_begin_20 : decode cX3_begin 20 = .ok (.return_, 1) := by decide +kernel
theorem dX3_addShare_0 : decode cX3_addShare 0 = .ok (.aload_n 0, 1) := by decide +kernel
theorem dX3_addShare_1 : decode cX3_addShare 1 = .ok (.getfield 25, 3) := by decide +kernel
theorem dX3_addShare_4 : decode cX3_addShare 4 = .ok (.iconst 4, 1) := by decide +kernel
theorem dX3_addShare_5 : decode cX3_addShare 5 = .ok (.if_icmp .lt 4, 3) := by decide +kernel
theorem dX3_addShare_8 : decode cX3_addShare 8 = .ok (.return_, 1) := by decide +kernel
theorem dX3_addShare_9 : decode cX3_addShare 9 = .ok (.aload_n 0, 1) := by decide +kernel
theorem dX3_addShare_10 : decode cX3_addShare 10 = .ok (.getfield 11, 3) := by decide +kernel
theorem dX3_addShare_13 : decode cX3_addShare 13 = .ok (.aload_n 0, 1) := by decide +kernel
theorem dX3_addShare_14 : decode cX3_addShare 14 = .ok (.getfield 25, 3) := by decide +kernel
theorem dX3_addShare_17 : decode cX3_addShare 17 = .ok (.aaload, 1) := by decide +kernel
theorem dX3_addShare_18 : decode cX3_addShare 18 = .ok (.iload_n 1, 1) := by decide +kernel
theorem dX3_addShare_19 : decode cX3_addShare 19 = .ok (.iload_n 2, 1) := by decide +kernel
theorem dX3_addShare_20 : decode cX3_addShare 20 = .ok (.aload_n 0, 1) := by decide +kernel
theorem dX3_addShare_21 : decode cX3_addShare 21 = .ok (.getfield 28, 3) := by decide +kernel
theorem dX3_addShare_24 : decode cX3_addShare 24 = .ok (.invokevirtual 31, 3) := by decide +kernel
theorem dX3_addShare_27 : decode cX3_addShare 27 = .ok (.aload_n 0, 1) := by decide +kernel
theorem dX3_addShare_28 : decode cX3_addShare 28 = .ok (.dup, 1) := by decide +kernel
theorem dX3_addShare_29 : decode cX3_addShare 29 = .ok (.getfield 28, 3) := by decide +kernel
theorem dX3_addShare_32 : decode cX3_addShare 32 = .ok (.iload_n 1, 1) := by decide +kernel
theorem dX3_addShare_33 : decode cX3_addShare 33 = .ok (.iload_n 2, 1) := by decide +kernel
theorem dX3_addShare_34 : decode cX3_addShare 34 = .ok (.imul, 1) := by decide +kernel
theorem dX3_addShare_35 : decode cX3_addShare 35 = .ok (.iadd, 1) := by decide +kernel
theorem dX3_addShare_36 : decode cX3_addShare 36 = .ok (.putfield 28, 3) := by decide +kernel
theorem dX3_addShare_39 : decode cX3_addShare 39 = .ok (.aload_n 0, 1) := by decide +kernel
theorem dX3_addShare_40 : decode cX3_addShare 40 = .ok (.dup, 1) := by decide +kernel
theorem dX3_addShare_41 : decode cX3_addShare 41 = .ok (.getfield 25, 3) := by decide +kernel
theorem dX3_addShare_44 : decode cX3_addShare 44 = .ok (.iconst 1, 1) := by decide +kernel
theorem dX3_addShare_45 : decode cX3_addShare 45 = .ok (.iadd, 1) := by decide +kernel
theorem dX3_addShare_46 : decode cX3_addShare 46 = .ok (.putfield 25, 3) := by decide +kernel
theorem dX3_addShare_49 : decode cX3_addShare 49 = .ok (.return_, 1) := by decide +kernel
theorem dX3_shareAt_0 : decode cX3_shareAt 0 = .ok (.iload_n 1, 1) := by decide +kernel
theorem dX3_shareAt_1 : decode cX3_shareAt 1 = .ok (.iconst 0, 1) := by decide +kernel
theorem dX3_shareAt_2 : decode cX3_shareAt 2 = .ok (.aload_n 0, 1) := by decide +kernel
theorem dX3_shareAt_3 : decode cX3_shareAt 3 = .ok (.getfield 25, 3) := by decide +kernel
theorem dX3_shareAt_6 : decode cX3_shareAt 6 = .ok (.iconst 1, 1) := by decide +kernel
theorem dX3_shareAt_7 : decode cX3_shareAt 7 = .ok (.isub, 1) := by decide +kernel
theorem dX3_shareAt_8 : decode cX3_shareAt 8 = .ok (.invokestatic 35, 3) := by decide +kernel
theorem dX3_shareAt_11 : decode cX3_shareAt 11 = .ok (.ifCond .eq 12, 3) := by decide +kernel
theorem dX3_shareAt_14 : decode cX3_shareAt 14 = .ok (.aload_n 0, 1) := by decide +kernel
theorem dX3_shareAt_15 : decode cX3_shareAt 15 = .ok (.getfield 11, 3) := by decide +kernel
theorem dX3_shareAt_18 : decode cX3_shareAt 18 = .ok (.iload_n 1, 1) := by decide +kernel
theorem dX3_shareAt_19 : decode cX3_shareAt 19 = .ok (.aaload, 1) := by decide +kernel
theorem dX3_shareAt_20 : decode cX3_shareAt 20 = .ok (.goto 4, 3) := by decide +kernel
theorem dX3_shareAt_23 : decode cX3_shareAt 23 = .ok (.aconst_null, 1) := by decide +kernel
theorem dX3_shareAt_24 : decode cX3_shareAt 24 = .ok (.areturn, 1) := by decide +kernel
theorem dX3_hasNumber_0 : decode cX3_hasNumber 0 = .ok (.iload_n 1, 1) := by decide +kernel
theorem dX3_hasNumber_1 : decode cX3_hasNumber 1 = .ok (.iconst 0, 1) := by decide +kernel
theorem dX3_hasNumber_2 : decode cX3_hasNumber 2 = .ok (.aload_n 0, 1) := by decide +kernel
theorem dX3_hasNumber_3 : decode cX3_hasNumber 3 = .ok (.getfield 28, 3) := by decide +kernel
theorem dX3_hasNumber_6 : decode cX3_hasNumber 6 = .ok (.iconst 1, 1) := by decide +kernel
theorem dX3_hasNumber_7 : decode cX3_hasNumber 7 = .ok (.isub, 1) := by decide +kernel
theorem dX3_hasNumber_8 : decode cX3_hasNumber 8 = .ok (.invokestatic 35, 3) := by decide +kernel
theorem dX3_hasNumber_11 : decode cX3_hasNumber 11 = .ok (.ireturn, 1) := by decide +kernel
theorem dX3_pressOf_0 : decode cX3_pressOf 0 = .ok (.iconst 0, 1) := by decide +kernel
theorem dX3_pressOf_1 : decode cX3_pressOf 1 = .ok (.istore_n 2, 1) := by decide +kernel
theorem dX3_pressOf_2 : decode cX3_pressOf 2 = .ok (.iload_n 2, 1) := by decide +kernel
theorem dX3_pressOf_3 : decode cX3_pressOf 3 = .ok (.aload_n 0, 1) := by decide +kernel
theorem dX3_pressOf_4 : decode cX3_pressOf 4 = .ok (.getfield 25, 3) := by decide +kernel
theorem dX3_pressOf_7 : decode cX3_pressOf 7 = .ok (.if_icmp .ge 24, 3) := by decide +kernel
theorem dX3_pressOf_10 : decode cX3_pressOf 10 = .ok (.aload_n 0, 1) := by decide +kernel
theorem dX3_pressOf_11 : decode cX3_pressOf 11 = .ok (.getfield 11, 3) := by decide +kernel
theorem dX3_pressOf_14 : decode cX3_pressOf 14 = .ok (.iload_n 2, 1) := by decide +kernel
theorem dX3_pressOf_15 : decode cX3_pressOf 15 = .ok (.aaload, 1) := by decide +kernel
theorem dX3_pressOf_16 : decode cX3_pressOf 16 = .ok (.iload_n 1, 1) := by decide +kernel
theorem dX3_pressOf_17 : decode cX3_pressOf 17 = .ok (.invokevirtual 39, 3) := by decide +kernel
theorem dX3_pressOf_20 : decode cX3_pressOf 20 = .ok (.ifCond .eq 5, 3) := by decide +kernel
theorem dX3_pressOf_23 : decode cX3_pressOf 23 = .ok (.iload_n 2, 1) := by decide +kernel
theorem dX3_pressOf_24 : decode cX3_pressOf 24 = .ok (.ireturn, 1) := by decide +kernel
theorem dX3_pressOf_25 : decode cX3_pressOf 25 = .ok (.iinc 2 1, 3) := by decide +kernel
theorem dX3_pressOf_28 : decode cX3_pressOf 28 = .ok (.goto (-26), 3) := by decide +kernel
theorem dX3_pressOf_31 : decode cX3_pressOf 31 = .ok (.bipush (-4), 2) := by decide +kernel
theorem dX3_pressOf_33 : decode cX3_pressOf 33 = .ok (.ireturn, 1) := by decide +kernel
theorem dX3_isPrinted_0 : decode cX3_isPrinted 0 = .ok (.aload_n 0, 1) := by decide +kernel
theorem dX3_isPrinted_1 : decode cX3_isPrinted 1 = .ok (.aload_n 0, 1) := by decide +kernel
theorem dX3_isPrinted_2 : decode cX3_isPrinted 2 = .ok (.iload_n 1, 1) := by decide +kernel
theorem dX3_isPrinted_3 : decode cX3_isPrinted 3 = .ok (.invokevirtual 43, 3) := by decide +kernel
theorem dX3_isPrinted_6 : decode cX3_isPrinted 6 = .ok (.invokevirtual 47, 3) := by decide +kernel
theorem dX3_isPrinted_9 : decode cX3_isPrinted 9 = .ok (.astore_n 2, 1) := by decide +kernel
theorem dX3_isPrinted_10 : decode cX3_isPrinted 10 = .ok (.aload_n 2, 1) := by decide +kernel
theorem dX3_isPrinted_11 : decode cX3_isPrinted 11 = .ok (.ifnull 19, 3) := by decide +kernel
theorem dX3_isPrinted_14 : decode cX3_isPrinted 14 = .ok (.aload_n 2, 1) := by decide +kernel
theorem dX3_isPrinted_15 : decode cX3_isPrinted 15 = .ok (.iload_n 1, 1) := by decide +kernel
theorem dX3_isPrinted_16 : decode cX3_isPrinted 16 = .ok (.invokevirtual 51, 3) := by decide +kernel
theorem dX3_isPrinted_19 : decode cX3_isPrinted 19 = .ok (.aload_n 2, 1) := by decide +kernel
theorem dX3_isPrinted_20 : decode cX3_isPrinted 20 = .ok (.getfield 54, 3) := by decide +kernel
theorem dX3_isPrinted_23 : decode cX3_isPrinted 23 = .ok (.if_icmp .ge 7, 3) := by decide +kernel
theorem dX3_isPrinted_26 : decode cX3_isPrinted 26 = .ok (.iconst 1, 1) := by decide +kernel
theorem dX3_isPrinted_27 : decode cX3_isPrinted 27 = .ok (.goto 4, 3) := by decide +kernel
theorem dX3_isPrinted_30 : decode cX3_isPrinted 30 = .ok (.iconst 0, 1) := by decide +kernel
theorem dX3_isPrinted_31 : decode cX3_isPrinted 31 = .ok (.ireturn, 1) := by decide +kernel
theorem dX3_notesPrinted_0 : decode cX3_notesPrinted 0 = .ok (.iconst 0, 1) := by decide +kernel
theorem dX3_notesPrinted_1 : decode cX3_notesPrinted 1 = .ok (.istore_n 1, 1) := by decide +kernel
theorem dX3_notesPrinted_2 : decode cX3_notesPrinted 2 = .ok (.iconst 0, 1) := by decide +kernel
theorem dX3_notesPrinted_3 : decode cX3_notesPrinted 3 = .ok (.istore_n 2, 1) := by decide +kernel
theorem dX3_notesPrinted_4 : decode cX3_notesPrinted 4 = .ok (.iload_n 2, 1) := by decide +kernel
theorem dX3_notesPrinted_5 : decode cX3_notesPrinted 5 = .ok (.aload_n 0, 1) := by decide +kernel
theorem dX3_notesPrinted_6 : decode cX3_notesPrinted 6 = .ok (.getfield 25, 3) := by decide +kernel
theorem dX3_notesPrinted_9 : decode cX3_notesPrinted 9 = .ok (.if_icmp .ge 31, 3) := by decide +kernel
theorem dX3_notesPrinted_12 : decode cX3_notesPrinted 12 = .ok (.iload_n 1, 1) := by decide +kernel
theorem dX3_notesPrinted_13 : decode cX3_notesPrinted 13 = .ok (.aload_n 0, 1) := by decide +kernel
theorem dX3_notesPrinted_14 : decode cX3_notesPrinted 14 = .ok (.getfield 11, 3) := by decide +kernel
theorem dX3_notesPrinted_17 : decode cX3_notesPrinted 17 = .ok (.iload_n 2, 1) := by decide +kernel
theorem dX3_notesPrinted_18 : decode cX3_notesPrinted 18 = .ok (.aaload, 1) := by decide +kernel
theorem dX3_notesPrinted_19 : decode cX3_notesPrinted 19 = .ok (.getfield 54, 3) := by decide +kernel
theorem dX3_notesPrinted_22 : decode cX3_notesPrinted 22 = .ok (.aload_n 0, 1) := by decide +kernel
theorem dX3_notesPrinted_23 : decode cX3_notesPrinted 23 = .ok (.getfield 11, 3) := by decide +kernel
theorem dX3_notesPrinted_26 : decode cX3_notesPrinted 26 = .ok (.iload_n 2, 1) := by decide +kernel
theorem dX3_notesPrinted_27 : decode cX3_notesPrinted 27 = .ok (.aaload, 1) := by decide +kernel
theorem dX3_notesPrinted_28 : decode cX3_notesPrinted 28 = .ok (.getfield 57, 3) := by decide +kernel
theorem dX3_notesPrinted_31 : decode cX3_notesPrinted 31 = .ok (.imul, 1) := by decide +kernel
theorem dX3_notesPrinted_32 : decode cX3_notesPrinted 32 = .ok (.iadd, 1) := by decide +kernel
theorem dX3_notesPrinted_33 : decode cX3_notesPrinted 33 = .ok (.istore_n 1, 1) := by decide +kernel
theorem dX3_notesPrinted_34 : decode cX3_notesPrinted 34 = .ok (.iinc 2 1, 3) := by decide +kernel
theorem dX3_notesPrinted_37 : decode cX3_notesPrinted 37 = .ok (.goto (-33), 3) := by decide +kernel
theorem dX3_notesPrinted_40 : decode cX3_notesPrinted 40 = .ok (.iload_n 1, 1) := by decide +kernel
theorem dX3_notesPrinted_41 : decode cX3_notesPrinted 41 = .ok (.ireturn, 1) := by decide +kernel
theorem dX3_sheetsRun_0 : decode cX3_sheetsRun 0 = .ok (.iconst 0, 1) := by decide +kernel
theorem dX3_sheetsRun_1 : decode cX3_sheetsRun 1 = .ok (.istore_n 1, 1) := by decide +kernel
theorem dX3_sheetsRun_2 : decode cX3_sheetsRun 2 = .ok (.iconst 0, 1) := by decide +kernel
theorem dX3_sheetsRun_3 : decode cX3_sheetsRun 3 = .ok (.istore_n 2, 1) := by decide +kernel
theorem dX3_sheetsRun_4 : decode cX3_sheetsRun 4 = .ok (.iload_n 2, 1) := by decide +kernel
theorem dX3_sheetsRun_5 : decode cX3_sheetsRun 5 = .ok (.aload_n 0, 1) := by decide +kernel
theorem dX3_sheetsRun_6 : decode cX3_sheetsRun 6 = .ok (.getfield 25, 3) := by decide +kernel
theorem dX3_sheetsRun_9 : decode cX3_sheetsRun 9 = .ok (.if_icmp .ge 21, 3) := by decide +kernel
theorem dX3_sheetsRun_12 : decode cX3_sheetsRun 12 = .ok (.iload_n 1, 1) := by decide +kernel
theorem dX3_sheetsRun_13 : decode cX3_sheetsRun 13 = .ok (.aload_n 0, 1) := by decide +kernel
theorem dX3_sheetsRun_14 : decode cX3_sheetsRun 14 = .ok (.getfield 11, 3) := by decide +kernel
theorem dX3_sheetsRun_17 : decode cX3_sheetsRun 17 = .ok (.iload_n 2, 1) := by decide +kernel
theorem dX3_sheetsRun_18 : decode cX3_sheetsRun 18 = .ok (.aaload, 1) := by decide +kernel
theorem dX3_sheetsRun_19 : decode cX3_sheetsRun 19 = .ok (.getfield 54, 3) := by decide +kernel
theorem dX3_sheetsRun_22 : decode cX3_sheetsRun 22 = .ok (.iadd, 1) := by decide +kernel
theorem dX3_sheetsRun_23 : decode cX3_sheetsRun 23 = .ok (.istore_n 1, 1) := by decide +kernel
theorem dX3_sheetsRun_24 : decode cX3_sheetsRun 24 = .ok (.iinc 2 1, 3) := by decide +kernel
theorem dX3_sheetsRun_27 : decode cX3_sheetsRun 27 = .ok (.goto (-23), 3) := by decide +kernel
theorem dX3_sheetsRun_30 : decode cX3_sheetsRun 30 = .ok (.iload_n 1, 1) := by decide +kernel
theorem dX3_sheetsRun_31 : decode cX3_sheetsRun 31 = .ok (.ireturn, 1) := by decide +kernel
theorem dX3_sheetsLeft_0 : decode cX3_sheetsLeft 0 = .ok (.iconst 0, 1) := by decide +kernel
theorem dX3_sheetsLeft_1 : decode cX3_sheetsLeft 1 = .ok (.istore_n 1, 1) := by decide +kernel
theorem dX3_sheetsLeft_2 : decode cX3_sheetsLeft 2 = .ok (.iconst 0, 1) := by decide +kernel
theorem dX3_sheetsLeft_3 : decode cX3_sheetsLeft 3 = .ok (.istore_n 2, 1) := by decide +kernel
theorem dX3_sheetsLeft_4 : decode cX3_sheetsLeft 4 = .ok (.iload_n 2, 1) := by decide +kernel
theorem dX3_sheetsLeft_5 : decode cX3_sheetsLeft 5 = .ok (.aload_n 0, 1) := by decide +kernel
theorem dX3_sheetsLeft_6 : decode cX3_sheetsLeft 6 = .ok (.getfield 25, 3) := by decide +kernel
theorem dX3_sheetsLeft_9 : decode cX3_sheetsLeft 9 = .ok (.if_icmp .ge 21, 3) := by decide +kernel
theorem dX3_sheetsLeft_12 : decode cX3_sheetsLeft 12 = .ok (.iload_n 1, 1) := by decide +kernel
theorem dX3_sheetsLeft_13 : decode cX3_sheetsLeft 13 = .ok (.aload_n 0, 1) := by decide +kernel
theorem dX3_sheetsLeft_14 : decode cX3_sheetsLeft 14 = .ok (.getfield 11, 3) := by decide +kernel
theorem dX3_sheetsLeft_17 : decode cX3_sheetsLeft 17 = .ok (.iload_n 2, 1) := by decide +kernel
theorem dX3_sheetsLeft_18 : decode cX3_sheetsLeft 18 = .ok (.aaload, 1) := by decide +kernel
theorem dX3_sheetsLeft_19 : decode cX3_sheetsLeft 19 = .ok (.invokevirtual 60, 3) := by decide +kernel
theorem dX3_sheetsLeft_22 : decode cX3_sheetsLeft 22 = .ok (.iadd, 1) := by decide +kernel
theorem dX3_sheetsLeft_23 : decode cX3_sheetsLeft 23 = .ok (.istore_n 1, 1) := by decide +kernel
theorem dX3_sheetsLeft_24 : decode cX3_sheetsLeft 24 = .ok (.iinc 2 1, 3) := by decide +kernel
theorem dX3_sheetsLeft_27 : decode cX3_sheetsLeft 27 = .ok (.goto (-23), 3) := by decide +kernel
theorem dX3_sheetsLeft_30 : decode cX3_sheetsLeft 30 = .ok (.iload_n 1, 1) := by decide +kernel
theorem dX3_sheetsLeft_31 : decode cX3_sheetsLeft 31 = .ok (.ireturn, 1) := by decide +kernel
theorem dX3_packs_0 : decode cX3_packs 0 = .ok (.aload_n 0, 1) := by decide +kernel
theorem dX3_packs_1 : decode cX3_packs 1 = .ok (.getfield 28, 3) := by decide +kernel
theorem dX3_packs_4 : decode cX3_packs 4 = .ok (.bipush 10, 2) := by decide +kernel
theorem dX3_packs_6 : decode cX3_packs 6 = .ok (.iadd, 1) := by decide +kernel
theorem dX3_packs_7 : decode cX3_packs 7 = .ok (.iconst 1, 1) := by decide +kernel
theorem dX3_packs_8 : decode cX3_packs 8 = .ok (.isub, 1) := by decide +kernel
theorem dX3_packs_9 : decode cX3_packs 9 = .ok (.bipush 10, 2) := by decide +kernel
theorem dX3_packs_11 : decode cX3_packs 11 = .ok (.idiv, 1) := by decide +kernel
theorem dX3_packs_12 : decode cX3_packs 12 = .ok (.ireturn, 1) := by decide +kernel
theorem dX3_isWhole_0 : decode cX3_isWhole 0 = .ok (.bipush 10, 2) := by decide +kernel
theorem dX3_isWhole_2 : decode cX3_isWhole 2 = .ok (.iload_n 1, 1) := by decide +kernel
theorem dX3_isWhole_3 : decode cX3_isWhole 3 = .ok (.imul, 1) := by decide +kernel
theorem dX3_isWhole_4 : decode cX3_isWhole 4 = .ok (.bipush 10, 2) := by decide +kernel
theorem dX3_isWhole_6 : decode cX3_isWhole 6 = .ok (.iadd, 1) := by decide +kernel
theorem dX3_isWhole_7 : decode cX3_isWhole 7 = .ok (.aload_n 0, 1) := by decide +kernel
theorem dX3_isWhole_8 : decode cX3_isWhole 8 = .ok (.getfield 28, 3) := by decide +kernel
theorem dX3_isWhole_11 : decode cX3_isWhole 11 = .ok (.invokestatic 64, 3) := by decide +kernel
theorem dX3_isWhole_14 : decode cX3_isWhole 14 = .ok (.istore_n 2, 1) := by decide +kernel
theorem dX3_isWhole_15 : decode cX3_isWhole 15 = .ok (.bipush 10, 2) := by decide +kernel
theorem dX3_isWhole_17 : decode cX3_isWhole 17 = .ok (.iload_n 1, 1) := by decide +kernel
theorem dX3_isWhole_18 : decode cX3_isWhole 18 = .ok (.imul, 1) := by decide +kernel
theorem dX3_isWhole_19 : decode cX3_isWhole 19 = .ok (.istore_n 3, 1) := by decide +kernel
theorem dX3_isWhole_20 : decode cX3_isWhole 20 = .ok (.iload_n 3, 1) := by decide +kernel
theorem dX3_isWhole_21 : decode cX3_isWhole 21 = .ok (.iload_n 2, 1) := by decide +kernel
theorem dX3_isWhole_22 : decode cX3_isWhole 22 = .ok (.if_icmp .ge 19, 3) := by decide +kernel
theorem dX3_isWhole_25 : decode cX3_isWhole 25 = .ok (.aload_n 0, 1) := by decide +kernel
theorem dX3_isWhole_26 : decode cX3_isWhole 26 = .ok (.iload_n 3, 1) := by decide +kernel
theorem dX3_isWhole_27 : decode cX3_isWhole 27 = .ok (.invokevirtual 70, 3) := by decide +kernel
theorem dX3_isWhole_30 : decode cX3_isWhole 30 = .ok (.ifCond .ne 5, 3) := by decide +kernel
theorem dX3_isWhole_33 : decode cX3_isWhole 33 = .ok (.iconst 0, 1) := by decide +kernel
theorem dX3_isWhole_34 : decode cX3_isWhole 34 = .ok (.ireturn, 1) := by decide +kernel
theorem dX3_isWhole_35 : decode cX3_isWhole 35 = .ok (.iinc 3 1, 3) := by decide +kernel
theorem dX3_isWhole_38 : decode cX3_isWhole 38 = .ok (.goto (-18), 3) := by decide +kernel
theorem dX3_isWhole_41 : decode cX3_isWhole 41 = .ok (.iconst 1, 1) := by decide +kernel
theorem dX3_isWhole_42 : decode cX3_isWhole 42 = .ok (.ireturn, 1) := by decide +kernel
theorem dX3_wholePacks_0 : decode cX3_wholePacks 0 = .ok (.iconst 0, 1) := by decide +kernel
theorem dX3_wholePacks_1 : decode cX3_wholePacks 1 = .ok (.istore_n 1, 1) := by decide +kernel
theorem dX3_wholePacks_2 : decode cX3_wholePacks 2 = .ok (.iconst 0, 1) := by decide +kernel
theorem dX3_wholePacks_3 : decode cX3_wholePacks 3 = .ok (.istore_n 2, 1) := by decide +kernel
theorem dX3_wholePacks_4 : decode cX3_wholePacks 4 = .ok (.iload_n 2, 1) := by decide +kernel
theorem dX3_wholePacks_5 : decode cX3_wholePacks 5 = .ok (.aload_n 0, 1) := by decide +kernel
theorem dX3_wholePacks_6 : decode cX3_wholePacks 6 = .ok (.invokevirtual 73, 3) := by decide +kernel
theorem dX3_wholePacks_9 : decode cX3_wholePacks 9 = .ok (.if_icmp .ge 20, 3) := by decide +kernel
theorem dX3_wholePacks_12 : decode cX3_wholePacks 12 = .ok (.aload_n 0, 1) := by decide +kernel
theorem dX3_wholePacks_13 : decode cX3_wholePacks 13 = .ok (.iload_n 2, 1) := by decide +kernel
theorem dX3_wholePacks_14 : decode cX3_wholePacks 14 = .ok (.invokevirtual 76, 3) := by decide +kernel
theorem dX3_wholePacks_17 : decode cX3_wholePacks 17 = .ok (.ifCond .eq 6, 3) := by decide +kernel
theorem dX3_wholePacks_20 : decode cX3_wholePacks 20 = .ok (.iinc 1 1, 3) := by decide +kernel
theorem dX3_wholePacks_23 : decode cX3_wholePacks 23 = .ok (.iinc 2 1, 3) := by decide +kernel
theorem dX3_wholePacks_26 : decode cX3_wholePacks 26 = .ok (.goto (-22), 3) := by decide +kernel
theorem dX3_wholePacks_29 : decode cX3_wholePacks 29 = .ok (.iload_n 1, 1) := by decide +kernel
theorem dX3_wholePacks_30 : decode cX3_wholePacks 30 = .ok (.ireturn, 1) := by decide +kernel
end
section
theorem dX4_init_0 : decode cX4_init 0 = .ok (.aload_n 0, 1) := by decide +kernel
theorem dX4_init_1 : decode cX4_init 1 = .ok (.invokespecial 3, 3) := by decide +kernel
theorem dX4_init_4 : decode cX4_init 4 = .ok (.return_, 1) := by decide +kernel
theorem dX4_begin_0 : decode cX4_begin 0 = .ok (.aload_n 0, 1) := by decide +kernel
theorem dX4_begin_1 : decode cX4_begin 1 = .ok (.iload_n 1, 1) := by decide +kernel
theorem dX4_begin_2 : decode cX4_begin 2 = .ok (.putfield 9, 3) := by decide +kernel
theorem dX4_begin_5 : decode cX4_begin 5 = .ok (.aload_n 0, 1) := by decide +kernel
theorem dX4_begin_6 : decode cX4_begin 6 = .ok (.iload_n 2, 1) := by decide +kernel
theorem dX4_begin_7 : decode cX4_begin 7 = .ok (.putfield 15, 3) := by decide +kernel
theorem dX4_begin_10 : decode cX4_begin 10 = .ok (.aload_n 0, 1) := by decide +kernel
theorem dX4_begin_11 : decode cX4_begin 11 = .ok (.iload_n 3, 1) := by decide +kernel
theorem dX4_begin_12 : decode cX4_begin 12 = .ok (.putfield 18, 3) := by decide +kernel
theorem dX4_begin_15 : decode cX4_begin 15 = .ok (.aload_n 0, 1) := by decide +kernel
theorem dX4_begin_16 : decode cX4_begin 16 = .ok (.iconst 0, 1) := by decide +kernel
theorem dX4_begin_17 : decode cX4_begin 17 = .ok (.putfield 21, 3) := by decide +kernel
theorem dX4_begin_20 : decode cX4_begin 20 = .ok (.return_, 1) := by decide +kernel
theorem dX4_sheetsLeft_0 : decode cX4_sheetsLeft 0 = .ok (.aload_n 0, 1) := by decide +kernel
theorem dX4_sheetsLeft_1 : decode cX4_sheetsLeft 1 = .ok (.getfield 15, 3) := by decide +kernel
theorem dX4_sheetsLeft_4 : decode cX4_sheetsLeft 4 = .ok (.aload_n 0, 1) := by decide +kernel
theorem dX4_sheetsLeft_5 : decode cX4_sheetsLeft 5 = .ok (.getfield 21, 3) := by decide +kernel
theorem dX4_sheetsLeft_8 : decode cX4_sheetsLeft 8 = .ok (.isub, 1) := by decide +kernel
theorem dX4_sheetsLeft_9 : decode cX4_sheetsLeft 9 = .ok (.ireturn, 1) := by decide +kernel
theorem dX4_hasSheet_0 : decode cX4_hasSheet 0 = .ok (.iload_n 1, 1) := by decide +kernel
theorem dX4_hasSheet_1 : decode cX4_hasSheet 1 = .ok (.iconst 0, 1) := by decide +kernel
theorem dX4_hasSheet_2 : decode cX4_hasSheet 2 = .ok (.aload_n 0, 1) := by decide +kernel
theorem dX4_hasSheet_3 : decode cX4_hasSheet 3 = .ok (.getfield 15, 3) := by decide +kernel
theorem dX4_hasSheet_6 : decode cX4_hasSheet 6 = .ok (.iconst 1, 1) := by decide +kernel
theorem dX4_hasSheet_7 : decode cX4_hasSheet 7 = .ok (.isub, 1) := by decide +kernel
theorem dX4_hasSheet_8 : decode cX4_hasSheet 8 = .ok (.invokestatic 24, 3) := by decide +kernel
theorem dX4_hasSheet_11 : decode cX4_hasSheet 11 = .ok (.ireturn, 1) := by decide +kernel
theorem dX4_hasNumber_0 : decode cX4_hasNumber 0 = .ok (.iload_n 1, 1) := by decide +kernel
theorem dX4_hasNumber_1 : decode cX4_hasNumber 1 = .ok (.aload_n 0, 1) := by decide +kernel
theorem dX4_hasNumber_2 : decode cX4_hasNumber 2 = .ok (.getfield 18, 3) := by decide +kernel
theorem dX4_hasNumber_5 : decode cX4_hasNumber 5 = .ok (.if_icmp .lt 25, 3) := by decide +kernel
theorem dX4_hasNumber_8 : decode cX4_hasNumber 8 = .ok (.iload_n 1, 1) := by decide +kernel
theorem dX4_hasNumber_9 : decode cX4_hasNumber 9 = .ok (.aload_n 0, 1) := by decide +kernel
theorem dX4_hasNumber_10 : decode cX4_hasNumber 10 = .ok (.getfield 18, 3) := by decide +kernel
theorem dX4_hasNumber_13 : decode cX4_hasNumber 13 = .ok (.aload_n 0, 1) := by decide +kernel
theorem dX4_hasNumber_14 : decode cX4_hasNumber 14 = .ok (.getfield 9, 3) := by decide +kernel
theorem dX4_hasNumber_17 : decode cX4_hasNumber 17 = .ok (.aload_n 0, 1) := by decide +kernel
theorem dX4_hasNumber_18 : decode cX4_hasNumber 18 = .ok (.getfield 15, 3) := by decide +kernel
theorem dX4_hasNumber_21 : decode cX4_hasNumber 21 = .ok (.imul, 1) := by decide +kernel
theorem dX4_hasNumber_22 : decode cX4_hasNumber 22 = .ok (.iadd, 1) := by decide +kernel
theorem dX4_hasNumber_23 : decode cX4_hasNumber 23 = .ok (.if_icmp .ge 7, 3) := by decide +kernel
theorem dX4_hasNumber_26 : decode cX4_hasNumber 26 = .ok (.iconst 1, 1) := by decide +kernel
theorem dX4_hasNumber_27 : decode cX4_hasNumber 27 = .ok (.goto 4, 3) := by decide +kernel
theorem dX4_hasNumber_30 : decode cX4_hasNumber 30 = .ok (.iconst 0, 1) := by decide +kernel
theorem dX4_hasNumber_31 : decode cX4_hasNumber 31 = .ok (.ireturn, 1) := by decide +kernel
theorem dX4_numberAt_0 : decode cX4_numberAt 0 = .ok (.aload_n 0, 1) := by decide +kernel
theorem dX4_numberAt_1 : decode cX4_numberAt 1 = .ok (.getfield 18, 3) := by decide +kernel
theorem dX4_numberAt_4 : decode cX4_numberAt 4 = .ok (.iload_n 2, 1) := by decide +kernel
theorem dX4_numberAt_5 : decode cX4_numberAt 5 = .ok (.aload_n 0, 1) := by decide +kernel
theorem dX4_numberAt_6 : decode cX4_numberAt 6 = .ok (.getfield 15, 3) := by decide +kernel
theorem dX4_numberAt_9 : decode cX4_numberAt 9 = .ok (.imul, 1) := by decide +kernel
theorem dX4_numberAt_10 : decode cX4_numberAt 10 = .ok (.iadd, 1) := by decide +kernel
theorem dX4_numberAt_11 : decode cX4_numberAt 11 = .ok (.iload_n 1, 1) := by decide +kernel
theorem dX4_numberAt_12 : decode cX4_numberAt 12 = .ok (.iadd, 1) := by decide +kernel
theorem dX4_numberAt_13 : decode cX4_numberAt 13 = .ok (.ireturn, 1) := by decide +kernel
theorem dX4_sheetOf_0 : decode cX4_sheetOf 0 = .ok (.aload_n 0, 1) := by decide +kernel
theorem dX4_sheetOf_1 : decode cX4_sheetOf 1 = .ok (.getfield 15, 3) := by decide +kernel
theorem dX4_sheetOf_4 : decode cX4_sheetOf 4 = .ok (.iconst 1, 1) := by decide +kernel
theorem dX4_sheetOf_5 : decode cX4_sheetOf 5 = .ok (.if_icmp .ge 8, 3) := by decide +kernel
theorem dX4_sheetOf_8 : decode cX4_sheetOf 8 = .ok (.bipush (-4), 2) := by decide +kernel
theorem dX4_sheetOf_10 : decode cX4_sheetOf 10 = .ok (.goto 14, 3) := by decide +kernel
theorem dX4_sheetOf_13 : decode cX4_sheetOf 13 = .ok (.iload_n 1, 1) := by decide +kernel
theorem dX4_sheetOf_14 : decode cX4_sheetOf 14 = .ok (.aload_n 0, 1) := by decide +kernel
theorem dX4_sheetOf_15 : decode cX4_sheetOf 15 = .ok (.getfield 18, 3) := by decide +kernel
theorem dX4_sheetOf_18 : decode cX4_sheetOf 18 = .ok (.isub, 1) := by decide +kernel
theorem dX4_sheetOf_19 : decode cX4_sheetOf 19 = .ok (.aload_n 0, 1) := by decide +kernel
theorem dX4_sheetOf_20 : decode cX4_sheetOf 20 = .ok (.getfield 15, 3) := by decide +kernel
theorem dX4_sheetOf_23 : decode cX4_sheetOf 23 = .ok (.irem, 1) := by decide +kernel
theorem dX4_sheetOf_24 : decode cX4_sheetOf 24 = .ok (.ireturn, 1) := by decide +kernel
theorem dX4_placeOf_0 : decode cX4_placeOf 0 = .ok (.aload_n 0, 1) := by decide +kernel
theorem dX4_placeOf_1 : decode cX4_placeOf 1 = .ok (.getfield 15, 3) := by decide +kernel
theorem dX4_placeOf_4 : decode cX4_placeOf 4 = .ok (.iconst 1, 1) := by decide +kernel
theorem dX4_placeOf_5 : decode cX4_placeOf 5 = .ok (.if_icmp .ge 8, 3) := by decide +kernel
theorem dX4_placeOf_8 : decode cX4_placeOf 8 = .ok (.bipush (-4), 2) := by decide +kernel
theorem dX4_placeOf_10 : decode cX4_placeOf 10 = .ok (.goto 14, 3) := by decide +kernel
theorem dX4_placeOf_13 : decode cX4_placeOf 13 = .ok (.iload_n 1, 1) := by decide +kernel
theorem dX4_placeOf_14 : decode cX4_placeOf 14 = .ok (.aload_n 0, 1) := by decide +kernel
theorem dX4_placeOf_15 : decode cX4_placeOf 15 = .ok (.getfield 18, 3) := by decide +kernel
theorem dX4_placeOf_18 : decode cX4_placeOf 18 = .ok (.isub, 1) := by decide +kernel
theorem dX4_placeOf_19 : decode cX4_placeOf 19 = .ok (.aload_n 0, 1) := by decide +kernel
theorem dX4_placeOf_20 : decode cX4_placeOf 20 = .ok (.getfield 15, 3) := by decide +kernel
theorem dX4_placeOf_23 : decode cX4_placeOf 23 = .ok (.idiv, 1) := by decide +kernel
theorem dX4_placeOf_24 : decode cX4_placeOf 24 = .ok (.ireturn, 1) := by decide +kernel
end
section
theorem dX5_init_0 : decode cX5_init 0 = .ok (.aload_n 0, 1) := by decide +kernel
theorem dX5_init_1 : decode cX5_init 1 = .ok (.invokespecial 3, 3) := by decide +kernel
theorem dX5_init_4 : decode cX5_init 4 = .ok (.aload_n 0, 1) := by decide +kernel
theorem dX5_init_5 : decode cX5_init 5 = .ok (.bipush 99, 2) := by decide +kernel
theorem dX5_init_7 : decode cX5_init 7 = .ok (.newarray .int, 2) := by decide +kernel
theorem dX5_init_9 : decode cX5_init 9 = .ok (.putfield 9, 3) := by decide +kernel
theorem dX5_init_12 : decode cX5_init 12 = .ok (.aload_n 0, 1) := by decide +kernel
theorem dX5_init_13 : decode cX5_init 13 = .ok (.bipush 99, 2) := by decide +kernel
theorem dX5_init_15 : decode cX5_init 15 = .ok (.newarray .int, 2) := by decide +kernel
theorem dX5_init_17 : decode cX5_init 17 = .ok (.putfield 15, 3) := by decide +kernel
theorem dX5_init_20 : decode cX5_init 20 = .ok (.return_, 1) := by decide +kernel
theorem dX5_begin_0 : decode cX5_begin 0 = .ok (.aload_n 0, 1) := by decide +kernel
theorem dX5_begin_1 : decode cX5_begin 1 = .ok (.iload_n 1, 1) := by decide +kernel
theorem dX5_begin_2 : decode cX5_begin 2 = .ok (.bipush 99, 2) := by decide +kernel
theorem dX5_begin_4 : decode cX5_begin 4 = .ok (.invokestatic 18, 3) := by decide +kernel
theorem dX5_begin_7 : decode cX5_begin 7 = .ok (.putfield 24, 3) := by decide +kernel
theorem dX5_begin_10 : decode cX5_begin 10 = .ok (.aload_n 0, 1) := by decide +kernel
theorem dX5_begin_11 : decode cX5_begin 11 = .ok (.iconst 0, 1) := by decide +kernel
theorem dX5_begin_12 : decode cX5_begin 12 = .ok (.putfield 28, 3) := by decide +kernel
theorem dX5_begin_15 : decode cX5_begin 15 = .ok (.return_, 1) := by decide +kernel
theorem dX5_left_0 : decode cX5_left 0 = .ok (.aload_n 0, 1) := by decide +kernel
theorem dX5_left_1 : decode cX5_left 1 = .ok (.getfield 24, 3) := by decide +kernel
theorem dX5_left_4 : decode cX5_left 4 = .ok (.aload_n 0, 1) := by decide +kernel
theorem dX5_left_5 : decode cX5_left 5 = .ok (.getfield 28, 3) := by decide +kernel
theorem dX5_left_8 : decode cX5_left 8 = .ok (.isub, 1) := by decide +kernel
theorem dX5_left_9 : decode cX5_left 9 = .ok (.ireturn, 1) := by decide +kernel
theorem dX5_standFor_0 : decode cX5_standFor 0 = .ok (.aload_n 0, 1) := by decide +kernel
theorem dX5_standFor_1 : decode cX5_standFor 1 = .ok (.getfield 28, 3) := by decide +kernel
theorem dX5_standFor_4 : decode cX5_standFor 4 = .ok (.aload_n 0, 1) := by decide +kernel
theorem dX5_standFor_5 : decode cX5_standFor 5 = .ok (.getfield 24, 3) := by decide +kernel
theorem dX5_standFor_8 : decode cX5_standFor 8 = .ok (.if_icmp .lt 4, 3) := by decide +kernel
theorem dX5_standFor_11 : decode cX5_standFor 11 = .ok (.return_, 1) := by decide +kernel
theorem dX5_standFor_12 : decode cX5_standFor 12 = .ok (.aload_n 0, 1) := by decide +kernel
theorem dX5_standFor_13 : decode cX5_standFor 13 = .ok (.getfield 9, 3) := by decide +kernel
theorem dX5_standFor_16 : decode cX5_standFor 16 = .ok (.aload_n 0, 1) := by decide +kernel
theorem dX5_standFor_17 : decode cX5_standFor 17 = .ok (.getfield 28, 3) := by decide +kernel
theorem dX5_standFor_20 : decode cX5_standFor 20 = .ok (.iload_n 1, 1) := by decide +kernel
theorem dX5_standFor_21 : decode cX5_standFor 21 = .ok (.iastore, 1) := by decide +kernel
theorem dX5_standFor_22 : decode cX5_standFor 22 = .ok (.aload_n 0, 1) := by decide +kernel
theorem dX5_standFor_23 : decode cX5_standFor 23 = .ok (.getfield 15, 3) := by decide +kernel
theorem dX5_standFor_26 : decode cX5_standFor 26 = .ok (.aload_n 0, 1) := by decide +kernel
theorem dX5_standFor_27 : decode cX5_standFor 27 = .ok (.getfield 28, 3) := by decide +kernel
theorem dX5_standFor_30 : decode cX5_standFor 30 = .ok (.iload_n 2, 1) := by decide +kernel
theorem dX5_standFor_31 : decode cX5_standFor 31 = .ok (.iastore, 1) := by decide +kernel
theorem dX5_standFor_32 : decode cX5_standFor 32 = .ok (.aload_n 0, 1) := by decide +kernel
theorem dX5_standFor_33 : decode cX5_standFor 33 = .ok (.dup, 1) := by decide +kernel
theorem dX5_standFor_34 : decode cX5_standFor 34 = .ok (.getfield 28, 3) := by decide +kernel
theorem dX5_standFor_37 : decode cX5_standFor 37 = .ok (.iconst 1, 1) := by decide +kernel
theorem dX5_standFor_38 : decode cX5_standFor 38 = .ok (.iadd, 1) := by decide +kernel
theorem dX5_standFor_39 : decode cX5_standFor 39 = .ok (.putfield 28, 3) := by decide +kernel
theorem dX5_standFor_42 : decode cX5_standFor 42 = .ok (.return_, 1) := by decide +kernel
theorem dX5_takeBack_0 : decode cX5_takeBack 0 = .ok (.aload_n 0, 1) := by decide +kernel
theorem dX5_takeBack_1 : decode cX5_takeBack 1 = .ok (.aload_n 0, 1) := by decide +kernel
theorem dX5_takeBack_2 : decode cX5_takeBack 2 = .ok (.getfield 28, 3) := by decide +kernel
theorem dX5_takeBack_5 : decode cX5_takeBack 5 = .ok (.iload_n 1, 1) := by decide +kernel
theorem dX5_takeBack_6 : decode cX5_takeBack 6 = .ok (.isub, 1) := by decide +kernel
theorem dX5_takeBack_7 : decode cX5_takeBack 7 = .ok (.iconst 0, 1) := by decide +kernel
theorem dX5_takeBack_8 : decode cX5_takeBack 8 = .ok (.invokestatic 31, 3) := by decide +kernel
theorem dX5_takeBack_11 : decode cX5_takeBack 11 = .ok (.putfield 28, 3) := by decide +kernel
theorem dX5_takeBack_14 : decode cX5_takeBack 14 = .ok (.return_, 1) := by decide +kernel
theorem dX5_seriesOf_0 : decode cX5_seriesOf 0 = .ok (.iload_n 1, 1) := by decide +kernel
theorem dX5_seriesOf_1 : decode cX5_seriesOf 1 = .ok (.iconst 0, 1) := by decide +kernel
theorem dX5_seriesOf_2 : decode cX5_seriesOf 2 = .ok (.aload_n 0, 1) := by decide +kernel
theorem dX5_seriesOf_3 : decode cX5_seriesOf 3 = .ok (.getfield 28, 3) := by decide +kernel
theorem dX5_seriesOf_6 : decode cX5_seriesOf 6 = .ok (.iconst 1, 1) := by decide +kernel
theorem dX5_seriesOf_7 : decode cX5_seriesOf 7 = .ok (.isub, 1) := by decide +kernel
theorem dX5_seriesOf_8 : decode cX5_seriesOf 8 = .ok (.invokestatic 34, 3) := by decide +kernel
theorem dX5_seriesOf_11 : decode cX5_seriesOf 11 = .ok (.ifCond .eq 12, 3) := by decide +kernel
theorem dX5_seriesOf_14 : decode cX5_seriesOf 14 = .ok (.aload_n 0, 1) := by decide +kernel
theorem dX5_seriesOf_15 : decode cX5_seriesOf 15 = .ok (.getfield 9, 3) := by decide +kernel
theorem dX5_seriesOf_18 : decode cX5_seriesOf 18 = .ok (.iload_n 1, 1) := by decide +kernel
theorem dX5_seriesOf_19 : decode cX5_seriesOf 19 = .ok (.iaload, 1) := by decide +kernel
theorem dX5_seriesOf_20 : decode cX5_seriesOf 20 = .ok (.goto 5, 3) := by decide +kernel
theorem dX5_seriesOf_23 : decode cX5_seriesOf 23 = .ok (.bipush (-4), 2) := by decide +kernel
theorem dX5_seriesOf_25 : decode cX5_seriesOf 25 = .ok (.ireturn, 1) := by decide +kernel
theorem dX5_numberOf_0 : decode cX5_numberOf 0 = .ok (.iload_n 1, 1) := by decide +kernel
theorem dX5_numberOf_1 : decode cX5_numberOf 1 = .ok (.iconst 0, 1) := by decide +kernel
theorem dX5_numberOf_2 : decode cX5_numberOf 2 = .ok (.aload_n 0, 1) := by decide +kernel
theorem dX5_numberOf_3 : decode cX5_numberOf 3 = .ok (.getfield 28, 3) := by decide +kernel
theorem dX5_numberOf_6 : decode cX5_numberOf 6 = .ok (.iconst 1, 1) := by decide +kernel
theorem dX5_numberOf_7 : decode cX5_numberOf 7 = .ok (.isub, 1) := by decide +kernel
theorem dX5_numberOf_8 : decode cX5_numberOf 8 = .ok (.invokestatic 34, 3) := by decide +kernel
theorem dX5_numberOf_11 : decode cX5_numberOf 11 = .ok (.ifCond .eq 12, 3) := by decide +kernel
theorem dX5_numberOf_14 : decode cX5_numberOf 14 = .ok (.aload_n 0, 1) := by decide +kernel
theorem dX5_numberOf_15 : decode cX5_numberOf 15 = .ok (.getfield 15, 3) := by decide +kernel
theorem dX5_numberOf_18 : decode cX5_numberOf 18 = .ok (.iload_n 1, 1) := by decide +kernel
theorem dX5_numberOf_19 : decode cX5_numberOf 19 = .ok (.iaload, 1) := by decide +kernel
theorem dX5_numberOf_20 : decode cX5_numberOf 20 = .ok (.goto 5, 3) := by decide +kernel
theorem dX5_numberOf_23 : decode cX5_numberOf 23 = .ok (.bipush (-4), 2) := by decide +kernel
theorem dX5_numberOf_25 : decode cX5_numberOf 25 = .ok (.ireturn, 1) := by decide +kernel
theorem dX5_standingFor_0 : decode cX5_standingFor 0 = .ok (.iconst 0, 1) := by decide +kernel
theorem dX5_standingFor_1 : decode cX5_standingFor 1 = .ok (.istore_n 3, 1) := by decide +kernel
theorem dX5_standingFor_2 : decode cX5_standingFor 2 = .ok (.iload_n 3, 1) := by decide +kernel
theorem dX5_standingFor_3 : decode cX5_standingFor 3 = .ok (.aload_n 0, 1) := by decide +kernel
theorem dX5_standingFor_4 : decode cX5_standingFor 4 = .ok (.getfield 28, 3) := by decide +kernel
theorem dX5_standingFor_7 : decode cX5_standingFor 7 = .ok (.if_icmp .ge 31, 3) := by decide +kernel
theorem dX5_standingFor_10 : decode cX5_standingFor 10 = .ok (.aload_n 0, 1) := by decide +kernel
theorem dX5_standingFor_11 : decode cX5_standingFor 11 = .ok (.getfield 9, 3) := by decide +kernel
theorem dX5_standingFor_14 : decode cX5_standingFor 14 = .ok (.iload_n 3, 1) := by decide +kernel
theorem dX5_standingFor_15 : decode cX5_standingFor 15 = .ok (.iaload, 1) := by decide +kernel
theorem dX5_standingFor_16 : decode cX5_standingFor 16 = .ok (.iload_n 1, 1) := by decide +kernel
theorem dX5_standingFor_17 : decode cX5_standingFor 17 = .ok (.if_icmp .ne 15, 3) := by decide +kernel
theorem dX5_standingFor_20 : decode cX5_standingFor 20 = .ok (.aload_n 0, 1) := by decide +kernel
theorem dX5_standingFor_21 : decode cX5_standingFor 21 = .ok (.getfield 15, 3) := by decide +kernel
theorem dX5_standingFor_24 : decode cX5_standingFor 24 = .ok (.iload_n 3, 1) := by decide +kernel
theorem dX5_standingFor_25 : decode cX5_standingFor 25 = .ok (.iaload, 1) := by decide +kernel
theorem dX5_standingFor_26 : decode cX5_standingFor 26 = .ok (.iload_n 2, 1) := by decide +kernel
theorem dX5_standingFor_27 : decode cX5_standingFor 27 = .ok (.if_icmp .ne 5, 3) := by decide +kernel
theorem dX5_standingFor_30 : decode cX5_standingFor 30 = .ok (.iload_n 3, 1) := by decide +kernel
theorem dX5_standingFor_31 : decode cX5_standingFor 31 = .ok (.ireturn, 1) := by decide +kernel
theorem dX5_standingFor_32 : decode cX5_standingFor 32 = .ok (.iinc 3 1, 3) := by decide +kernel
theorem dX5_standingFor_35 : decode cX5_standingFor 35 = .ok (.goto (-33), 3) := by decide +kernel
theorem dX5_standingFor_38 : decode cX5_standingFor 38 = .ok (.bipush (-4), 2) := by decide +kernel
theorem dX5_standingFor_40 : decode cX5_standingFor 40 = .ok (.ireturn, 1) := by decide +kernel
theorem dX5_standsFor_0 : decode cX5_standsFor 0 = .ok (.aload_n 0, 1) := by decide +kernel
theorem dX5_standsFor_1 : decode cX5_standsFor 1 = .ok (.iload_n 1, 1) := by decide +kernel
theorem dX5_standsFor_2 : decode cX5_standsFor 2 = .ok (.iload_n 2, 1) := by decide +kernel
theorem dX5_standsFor_3 : decode cX5_standsFor 3 = .ok (.invokevirtual 38, 3) := by decide +kernel
theorem dX5_standsFor_6 : decode cX5_standsFor 6 = .ok (.bipush (-4), 2) := by decide +kernel
theorem dX5_standsFor_8 : decode cX5_standsFor 8 = .ok (.if_icmp .eq 7, 3) := by decide +kernel
theorem dX5_standsFor_11 : decode cX5_standsFor 11 = .ok (.iconst 1, 1) := by decide +kernel
theorem dX5_standsFor_12 : decode cX5_standsFor 12 = .ok (.goto 4, 3) := by decide +kernel
theorem dX5_standsFor_15 : decode cX5_standsFor 15 = .ok (.iconst 0, 1) := by decide +kernel
theorem dX5_standsFor_16 : decode cX5_standsFor 16 = .ok (.ireturn, 1) := by decide +kernel
theorem dX5_standingForSeries_0 : decode cX5_standingForSeries 0 = .ok (.iconst 0, 1) := by decide +kernel
theorem dX5_standingForSeries_1 : decode cX5_standingForSeries 1 = .ok (.istore_n 2, 1) := by decide +kernel
theorem dX5_standingForSeries_2 : decode cX5_standingForSeries 2 = .ok (.iconst 0, 1) := by decide +kernel
theorem dX5_standingForSeries_3 : decode cX5_standingForSeries 3 = .ok (.istore_n 3, 1) := by decide +kernel
theorem dX5_standingForSeries_4 : decode cX5_standingForSeries 4 = .ok (.iload_n 3, 1) := by decide +kernel
theorem dX5_standingForSeries_5 : decode cX5_standingForSeries 5 = .ok (.aload_n 0, 1) := by decide +kernel
theorem dX5_standingForSeries_6 : decode cX5_standingForSeries 6 = .ok (.getfield 28, 3) := by decide +kernel
theorem dX5_standingForSeries_9 : decode cX5_standingForSeries 9 = .ok (.if_icmp .ge 22, 3) := by decide +kernel
theorem dX5_standingForSeries_12 : decode cX5_standingForSeries 12 = .ok (.aload_n 0, 1) := by decide +kernel
theorem dX5_standingForSeries_13 : decode cX5_standingForSeries 13 = .ok (.getfield 9, 3) := by decide +kernel
theorem dX5_standingForSeries_16 : decode cX5_standingForSeries 16 = .ok (.iload_n 3, 1) := by decide +kernel
theorem dX5_standingForSeries_17 : decode cX5_standingForSeries 17 = .ok (.iaload, 1) := by decide +kernel
theorem dX5_standingForSeries_18 : decode cX5_standingForSeries 18 = .ok (.iload_n 1, 1) := by decide +kernel
theorem dX5_standingForSeries_19 : decode cX5_standingForSeries 19 = .ok (.if_icmp .ne 6, 3) := by decide +kernel
theorem dX5_standingForSeries_22 : decode cX5_standingForSeries 22 = .ok (.iinc 2 1, 3) := by decide +kernel
theorem dX5_standingForSeries_25 : decode cX5_standingForSeries 25 = .ok (.iinc 3 1, 3) := by decide +kernel
theorem dX5_standingForSeries_28 : decode cX5_standingForSeries 28 = .ok (.goto (-24), 3) := by decide +kernel
theorem dX5_standingForSeries_31 : decode cX5_standingForSeries 31 = .ok (.iload_n 2, 1) := by decide +kernel
theorem dX5_standingForSeries_32 : decode cX5_standingForSeries 32 = .ok (.ireturn, 1) := by decide +kernel
end
section
theorem dX6_init_0 : decode cX6_init 0 = .ok (.aload_n 0, 1) := by decide +kernel
theorem dX6_init_1 : decode cX6_init 1 = .ok (.invokespecial 3, 3) := by decide +kernel
theorem dX6_init_4 : decode cX6_init 4 = .ok (.aload_n 0, 1) := by decide +kernel
theorem dX6_init_5 : decode cX6_init 5 = .ok (.sipush 200, 3) := by decide +kernel
theorem dX6_init_8 : decode cX6_init 8 = .ok (.newarray .int, 2) := by decide +kernel
theorem dX6_init_10 : decode cX6_init 10 = .ok (.putfield 9, 3) := by decide +kernel
theorem dX6_init_13 : decode cX6_init 13 = .ok (.return_, 1) := by decide +kernel
theorem dX6_append_0 : decode cX6_append 0 = .ok (.aload_n 0, 1) := by decide +kernel
theorem dX6_append_1 : decode cX6_append 1 = .ok (.getfield 15, 3) := by decide +kernel
theorem dX6_append_4 : decode cX6_append 4 = .ok (.sipush 200, 3) := by decide +kernel
theorem dX6_append_7 : decode cX6_append 7 = .ok (.if_icmp .lt 5, 3) := by decide +kernel
theorem dX6_append_10 : decode cX6_append 10 = .ok (.iconst 0, 1) := by decide +kernel
theorem dX6_append_11 : decode cX6_append 11 = .ok (.ireturn, 1) := by decide +kernel
theorem dX6_append_12 : decode cX6_append 12 = .ok (.aload_n 0, 1) := by decide +kernel
theorem dX6_append_13 : decode cX6_append 13 = .ok (.getfield 9, 3) := by decide +kernel
theorem dX6_append_16 : decode cX6_append 16 = .ok (.aload_n 0, 1) := by decide +kernel
theorem dX6_append_17 : decode cX6_append 17 = .ok (.getfield 15, 3) := by decide +kernel
theorem dX6_append_20 : decode cX6_append 20 = .ok (.iload_n 1, 1) := by decide +kernel
theorem dX6_append_21 : decode cX6_append 21 = .ok (.iastore, 1) := by decide +kernel
theorem dX6_append_22 : decode cX6_append 22 = .ok (.aload_n 0, 1) := by decide +kernel
theorem dX6_append_23 : decode cX6_append 23 = .ok (.dup, 1) := by decide +kernel
theorem dX6_append_24 : decode cX6_append 24 = .ok (.getfield 15, 3) := by decide +kernel
theorem dX6_append_27 : decode cX6_append 27 = .ok (.iconst 1, 1) := by decide +kernel
theorem dX6_append_28 : decode cX6_append 28 = .ok (.iadd, 1) := by decide +kernel
theorem dX6_append_29 : decode cX6_append 29 = .ok (.putfield 15, 3) := by decide +kernel
theorem dX6_append_32 : decode cX6_append 32 = .ok (.iconst 1, 1) := by decide +kernel
theorem dX6_append_33 : decode cX6_append 33 = .ok (.ireturn, 1) := by decide +kernel
theorem dX6_clear_0 : decode cX6_clear 0 = .ok (.aload_n 0, 1) := by decide +kernel
theorem dX6_clear_1 : decode cX6_clear 1 = .ok (.iconst 0, 1) := by decide +kernel
theorem dX6_clear_2 : decode cX6_clear 2 = .ok (.putfield 15, 3) := by decide +kernel
theorem dX6_clear_5 : decode cX6_clear 5 = .ok (.return_, 1) := by decide +kernel
theorem dX6_readInto_0 : decode cX6_readInto 0 = .ok (.aload_n 1, 1) := by decide +kernel
theorem dX6_readInto_1 : decode cX6_readInto 1 = .ok (.invokevirtual 19, 3) := by decide +kernel
theorem dX6_readInto_4 : decode cX6_readInto 4 = .ok (.aload_n 0, 1) := by decide +kernel
theorem dX6_readInto_5 : decode cX6_readInto 5 = .ok (.iconst 0, 1) := by decide +kernel
theorem dX6_readInto_6 : decode cX6_readInto 6 = .ok (.putfield 24, 3) := by decide +kernel
theorem dX6_readInto_9 : decode cX6_readInto 9 = .ok (.iconst 0, 1) := by decide +kernel
theorem dX6_readInto_10 : decode cX6_readInto 10 = .ok (.istore_n 2, 1) := by decide +kernel
theorem dX6_readInto_11 : decode cX6_readInto 11 = .ok (.iload_n 2, 1) := by decide +kernel
theorem dX6_readInto_12 : decode cX6_readInto 12 = .ok (.sipush 200, 3) := by decide +kernel
theorem dX6_readInto_15 : decode cX6_readInto 15 = .ok (.if_icmp .ge 35, 3) := by decide +kernel
theorem dX6_readInto_18 : decode cX6_readInto 18 = .ok (.aload_n 0, 1) := by decide +kernel
theorem dX6_readInto_19 : decode cX6_readInto 19 = .ok (.getfield 24, 3) := by decide +kernel
theorem dX6_readInto_22 : decode cX6_readInto 22 = .ok (.aload_n 0, 1) := by decide +kernel
theorem dX6_readInto_23 : decode cX6_readInto 23 = .ok (.getfield 15, 3) := by decide +kernel
theorem dX6_readInto_26 : decode cX6_readInto 26 = .ok (.if_icmp .ge 24, 3) := by decide +kernel
theorem dX6_readInto_29 : decode cX6_readInto 29 = .ok (.aload_n 0, 1) := by decide +kernel
theorem dX6_readInto_30 : decode cX6_readInto 30 = .ok (.getfield 24, 3) := by decide +kernel
theorem dX6_readInto_33 : decode cX6_readInto 33 = .ok (.istore_n 3, 1) := by decide +kernel
theorem dX6_readInto_34 : decode cX6_readInto 34 = .ok (.aload_n 0, 1) := by decide +kernel
theorem dX6_readInto_35 : decode cX6_readInto 35 = .ok (.aload_n 1, 1) := by decide +kernel
theorem dX6_readInto_36 : decode cX6_readInto 36 = .ok (.invokevirtual 27, 3) := by decide +kernel
theorem dX6_readInto_39 : decode cX6_readInto 39 = .ok (.ifCond .ne 5, 3) := by decide +kernel
theorem dX6_readInto_42 : decode cX6_readInto 42 = .ok (.iload_n 3, 1) := by decide +kernel
theorem dX6_readInto_43 : decode cX6_readInto 43 = .ok (.ireturn, 1) := by decide +kernel
theorem dX6_readInto_44 : decode cX6_readInto 44 = .ok (.iinc 2 1, 3) := by decide +kernel
theorem dX6_readInto_47 : decode cX6_readInto 47 = .ok (.goto (-36), 3) := by decide +kernel
theorem dX6_readInto_50 : decode cX6_readInto 50 = .ok (.bipush (-4), 2) := by decide +kernel
theorem dX6_readInto_52 : decode cX6_readInto 52 = .ok (.ireturn, 1) := by decide +kernel
theorem dX6_readItem_0 : decode cX6_readItem 0 = .ok (.aload_n 0, 1) := by decide +kernel
theorem dX6_readItem_1 : decode cX6_readItem 1 = .ok (.bipush 112, 2) := by decide +kernel
theorem dX6_readItem_3 : decode cX6_readItem 3 = .ok (.invokevirtual 31, 3) := by decide +kernel
theorem dX6_readItem_6 : decode cX6_readItem 6 = .ok (.ifCond .eq 9, 3) := by decide +kernel
theorem dX6_readItem_9 : decode cX6_readItem 9 = .ok (.aload_n 0, 1) := by decide +kernel
theorem dX6_readItem_10 : decode cX6_readItem 10 = .ok (.aload_n 1, 1) := by decide +kernel
theorem dX6_readItem_11 : decode cX6_readItem 11 = .ok (.invokevirtual 35, 3) := by decide +kernel
theorem dX6_readItem_14 : decode cX6_readItem 14 = .ok (.ireturn, 1) := by decide +kernel
theorem dX6_readItem_15 : decode cX6_readItem 15 = .ok (.aload_n 0, 1) := by decide +kernel
theorem dX6_readItem_16 : decode cX6_readItem 16 = .ok (.bipush 115, 2) := by decide +kernel
theorem dX6_readItem_18 : decode cX6_readItem 18 = .ok (.invokevirtual 31, 3) := by decide +kernel
theorem dX6_readItem_21 : decode cX6_readItem 21 = .ok (.ifCond .eq 9, 3) := by decide +kernel
theorem dX6_readItem_24 : decode cX6_readItem 24 = .ok (.aload_n 0, 1) := by decide +kernel
theorem dX6_readItem_25 : decode cX6_readItem 25 = .ok (.aload_n 1, 1) := by decide +kernel
theorem dX6_readItem_26 : decode cX6_readItem 26 = .ok (.invokevirtual 38, 3) := by decide +kernel
theorem dX6_readItem_29 : decode cX6_readItem 29 = .ok (.ireturn, 1) := by decide +kernel
theorem dX6_readItem_30 : decode cX6_readItem 30 = .ok (.aload_n 0, 1) := by decide +kernel
theorem dX6_readItem_31 : decode cX6_readItem 31 = .ok (.bipush 122, 2) := by decide +kernel
theorem dX6_readItem_33 : decode cX6_readItem 33 = .ok (.invokevirtual 31, 3) := by decide +kernel
theorem dX6_readItem_36 : decode cX6_readItem 36 = .ok (.ifCond .eq 15, 3) := by decide +kernel
theorem dX6_readItem_39 : decode cX6_readItem 39 = .ok (.aload_n 0, 1) := by decide +kernel
theorem dX6_readItem_40 : decode cX6_readItem 40 = .ok (.aload_n 1, 1) := by decide +kernel
theorem dX6_readItem_41 : decode cX6_readItem 41 = .ok (.invokevirtual 41, 3) := by decide +kernel
theorem dX6_readItem_44 : decode cX6_readItem 44 = .ok (.ifCond .eq 7, 3) := by decide +kernel
theorem dX6_readItem_47 : decode cX6_readItem 47 = .ok (.iconst 1, 1) := by decide +kernel
theorem dX6_readItem_48 : decode cX6_readItem 48 = .ok (.goto 4, 3) := by decide +kernel
theorem dX6_readItem_51 : decode cX6_readItem 51 = .ok (.iconst 0, 1) := by decide +kernel
theorem dX6_readItem_52 : decode cX6_readItem 52 = .ok (.ireturn, 1) := by decide +kernel
theorem dX6_readPress_0 : decode cX6_readPress 0 = .ok (.aload_n 0, 1) := by decide +kernel
theorem dX6_readPress_1 : decode cX6_readPress 1 = .ok (.invokevirtual 44, 3) := by decide +kernel
theorem dX6_readPress_4 : decode cX6_readPress 4 = .ok (.istore_n 2, 1) := by decide +kernel
theorem dX6_readPress_5 : decode cX6_readPress 5 = .ok (.iload_n 2, 1) := by decide +kernel
theorem dX6_readPress_6 : decode cX6_readPress 6 = .ok (.iconst 1, 1) := by decide +kernel
theorem dX6_readPress_7 : decode cX6_readPress 7 = .ok (.bipush 8, 2) := by decide +kernel
theorem dX6_readPress_9 : decode cX6_readPress 9 = .ok (.invokestatic 48, 3) := by decide +kernel
theorem dX6_readPress_12 : decode cX6_readPress 12 = .ok (.ifCond .eq 24, 3) := by decide +kernel
theorem dX6_readPress_15 : decode cX6_readPress 15 = .ok (.aload_n 0, 1) := by decide +kernel
theorem dX6_readPress_16 : decode cX6_readPress 16 = .ok (.bipush 59, 2) := by decide +kernel
theorem dX6_readPress_18 : decode cX6_readPress 18 = .ok (.invokevirtual 31, 3) := by decide +kernel
theorem dX6_readPress_21 : decode cX6_readPress 21 = .ok (.ifCond .eq 15, 3) := by decide +kernel
theorem dX6_readPress_24 : decode cX6_readPress 24 = .ok (.aload_n 1, 1) := by decide +kernel
theorem dX6_readPress_25 : decode cX6_readPress 25 = .ok (.iload_n 2, 1) := by decide +kernel
theorem dX6_readPress_26 : decode cX6_readPress 26 = .ok (.invokevirtual 52, 3) := by decide +kernel
theorem dX6_readPress_29 : decode cX6_readPress 29 = .ok (.ifCond .eq 7, 3) := by decide +kernel
theorem dX6_readPress_32 : decode cX6_readPress 32 = .ok (.iconst 1, 1) := by decide +kernel
theorem dX6_readPress_33 : decode cX6_readPress 33 = .ok (.goto 4, 3) := by decide +kernel
theorem dX6_readPress_36 : decode cX6_readPress 36 = .ok (.iconst 0, 1) := by decide +kernel
theorem dX6_readPress_37 : decode cX6_readPress 37 = .ok (.ireturn, 1) := by decide +kernel
theorem dX6_readStars_0 : decode cX6_readStars 0 = .ok (.aload_n 0, 1) := by decide +kernel
theorem dX6_readStars_1 : decode cX6_readStars 1 = .ok (.invokevirtual 44, 3) := by decide +kernel
theorem dX6_readStars_4 : decode cX6_readStars 4 = .ok (.istore_n 2, 1) := by decide +kernel
theorem dX6_readStars_5 : decode cX6_readStars 5 = .ok (.iload_n 2, 1) := by decide +kernel
theorem dX6_readStars_6 : decode cX6_readStars 6 = .ok (.iconst 0, 1) := by decide +kernel
theorem dX6_readStars_7 : decode cX6_readStars 7 = .ok (.bipush 99, 2) := by decide +kernel
theorem dX6_readStars_9 : decode cX6_readStars 9 = .ok (.invokestatic 48, 3) := by decide +kernel
theorem dX6_readStars_12 : decode cX6_readStars 12 = .ok (.ifCond .eq 12, 3) := by decide +kernel
theorem dX6_readStars_15 : decode cX6_readStars 15 = .ok (.aload_n 0, 1) := by decide +kernel
theorem dX6_readStars_16 : decode cX6_readStars 16 = .ok (.bipush 59, 2) := by decide +kernel
theorem dX6_readStars_18 : decode cX6_readStars 18 = .ok (.invokevirtual 31, 3) := by decide +kernel
theorem dX6_readStars_21 : decode cX6_readStars 21 = .ok (.ifCond .ne 5, 3) := by decide +kernel
theorem dX6_readStars_24 : decode cX6_readStars 24 = .ok (.iconst 0, 1) := by decide +kernel
theorem dX6_readStars_25 : decode cX6_readStars 25 = .ok (.ireturn, 1) := by decide +kernel
theorem dX6_readStars_26 : decode cX6_readStars 26 = .ok (.aload_n 1, 1) := by decide +kernel
theorem dX6_readStars_27 : decode cX6_readStars 27 = .ok (.iload_n 2, 1) := by decide +kernel
theorem dX6_readStars_28 : decode cX6_readStars 28 = .ok (.putfield 55, 3) := by decide +kernel
theorem dX6_readStars_31 : decode cX6_readStars 31 = .ok (.iconst 1, 1) := by decide +kernel
theorem dX6_readStars_32 : decode cX6_readStars 32 = .ok (.ireturn, 1) := by decide +kernel
theorem dX6_readSeries_0 : decode cX6_readSeries 0 = .ok (.aload_n 1, 1) := by decide +kernel
theorem dX6_readSeries_1 : decode cX6_readSeries 1 = .ok (.invokevirtual 58, 3) := by decide +kernel
theorem dX6_readSeries_4 : decode cX6_readSeries 4 = .ok (.astore_n 2, 1) := by decide +kernel
theorem dX6_readSeries_5 : decode cX6_readSeries 5 = .ok (.aload_n 0, 1) := by decide +kernel
theorem dX6_readSeries_6 : decode cX6_readSeries 6 = .ok (.invokevirtual 62, 3) := by decide +kernel
theorem dX6_readSeries_9 : decode cX6_readSeries 9 = .ok (.istore_n 3, 1) := by decide +kernel
theorem dX6_readSeries_10 : decode cX6_readSeries 10 = .ok (.aload_n 2, 1) := by decide +kernel
theorem dX6_readSeries_11 : decode cX6_readSeries 11 = .ok (.ifnull 28, 3) := by decide +kernel
theorem dX6_readSeries_14 : decode cX6_readSeries 14 = .ok (.iload_n 3, 1) := by decide +kernel
theorem dX6_readSeries_15 : decode cX6_readSeries 15 = .ok (.bipush (-4), 2) := by decide +kernel
theorem dX6_readSeries_17 : decode cX6_readSeries 17 = .ok (.if_icmp .eq 22, 3) := by decide +kernel
theorem dX6_readSeries_20 : decode cX6_readSeries 20 = .ok (.aload_n 1, 1) := by decide +kernel
theorem dX6_readSeries_21 : decode cX6_readSeries 21 = .ok (.iload_n 3, 1) := by decide +kernel
theorem dX6_readSeries_22 : decode cX6_readSeries 22 = .ok (.invokevirtual 65, 3) := by decide +kernel
theorem dX6_readSeries_25 : decode cX6_readSeries 25 = .ok (.bipush (-4), 2) := by decide +kernel
theorem dX6_readSeries_27 : decode cX6_readSeries 27 = .ok (.if_icmp .ne 12, 3) := by decide +kernel
theorem dX6_readSeries_30 : decode cX6_readSeries 30 = .ok (.aload_n 0, 1) := by decide +kernel
theorem dX6_readSeries_31 : decode cX6_readSeries 31 = .ok (.bipush 44, 2) := by decide +kernel
theorem dX6_readSeries_33 : decode cX6_readSeries 33 = .ok (.invokevirtual 31, 3) := by decide +kernel
theorem dX6_readSeries_36 : decode cX6_readSeries 36 = .ok (.ifCond .ne 5, 3) := by decide +kernel
theorem dX6_readSeries_39 : decode cX6_readSeries 39 = .ok (.iconst 0, 1) := by decide +kernel
theorem dX6_readSeries_40 : decode cX6_readSeries 40 = .ok (.ireturn, 1) := by decide +kernel
theorem dX6_readSeries_41 : decode cX6_readSeries 41 = .ok (.aload_n 0, 1) := by decide +kernel
theorem dX6_readSeries_42 : decode cX6_readSeries 42 = .ok (.invokevirtual 44, 3) := by decide +kernel
theorem dX6_readSeries_45 : decode cX6_readSeries 45 = .ok (.istore 4, 2) := by decide +kernel
theorem dX6_readSeries_47 : decode cX6_readSeries 47 = .ok (.iload 4, 2) := by decide +kernel
theorem dX6_readSeries_49 : decode cX6_readSeries 49 = .ok (.iconst 0, 1) := by decide +kernel
theorem dX6_readSeries_50 : decode cX6_readSeries 50 = .ok (.iconst 2, 1) := by decide +kernel
theorem dX6_readSeries_51 : decode cX6_readSeries 51 = .ok (.invokestatic 48, 3) := by decide +kernel
theorem dX6_readSeries_54 : decode cX6_readSeries 54 = .ok (.ifCond .ne 5, 3) := by decide +kernel
theorem dX6_readSeries_57 : decode cX6_readSeries 57 = .ok (.iconst 0, 1) := by decide +kernel
theorem dX6_readSeries_58 : decode cX6_readSeries 58 = .ok (.ireturn, 1) := by decide +kernel
theorem dX6_readSeries_59 : decode cX6_readSeries 59 = .ok (.aload_n 2, 1) := by decide +kernel
theorem dX6_readSeries_60 : decode cX6_readSeries 60 = .ok (.iload_n 3, 1) := by decide +kernel
theorem dX6_readSeries_61 : decode cX6_readSeries 61 = .ok (.iload 4, 2) := by decide +kernel
theorem dX6_readSeries_63 : decode cX6_readSeries 63 = .ok (.invokevirtual 69, 3) := by decide +kernel
theorem dX6_readSeries_66 : decode cX6_readSeries 66 = .ok (.iconst 0, 1) := by decide +kernel
theorem dX6_readSeries_67 : decode cX6_readSeries 67 = .ok (.istore 5, 2) := by decide +kernel
theorem dX6_readSeries_69 : decode cX6_readSeries 69 = .ok (.iload 5, 2) := by decide +kernel
theorem dX6_readSeries_71 : decode cX6_readSeries 71 = .ok (.aload_n 1, 1) := by decide +kernel
theorem dX6_readSeries_72 : decode cX6_readSeries 72 = .ok (.getfield 75, 3) := by decide +kernel
theorem dX6_readSeries_75 : decode cX6_readSeries 75 = .ok (.if_icmp .ge 55, 3) := by decide +kernel
theorem dX6_readSeries_78 : decode cX6_readSeries 78 = .ok (.aload_n 0, 1) := by decide +kernel
theorem dX6_readSeries_79 : decode cX6_readSeries 79 = .ok (.bipush 44, 2) := by decide +kernel
theorem dX6_readSeries_81 : decode cX6_readSeries 81 = .ok (.invokevirtual 31, 3) := by decide +kernel
theorem dX6_readSeries_84 : decode cX6_readSeries 84 = .ok (.ifCond .eq 10, 3) := by decide +kernel
theorem dX6_readSeries_87 : decode cX6_readSeries 87 = .ok (.aload_n 0, 1) := by decide +kernel
theorem dX6_readSeries_88 : decode cX6_readSeries 88 = .ok (.invokevirtual 44, 3) := by decide +kernel
theorem dX6_readSeries_91 : decode cX6_readSeries 91 = .ok (.goto 5, 3) := by decide +kernel
theorem dX6_readSeries_94 : decode cX6_readSeries 94 = .ok (.bipush (-4), 2) := by decide +kernel
theorem dX6_readSeries_96 : decode cX6_readSeries 96 = .ok (.istore 6, 2) := by decide +kernel
theorem dX6_readSeries_98 : decode cX6_readSeries 98 = .ok (.iload 6, 2) := by decide +kernel
theorem dX6_readSeries_100 : decode cX6_readSeries 100 = .ok (.iconst 0, 1) := by decide +kernel
theorem dX6_readSeries_101 : decode cX6_readSeries 101 = .ok (.bipush 40, 2) := by decide +kernel
theorem dX6_readSeries_103 : decode cX6_readSeries 103 = .ok (.invokestatic 48, 3) := by decide +kernel
theorem dX6_readSeries_106 : decode cX6_readSeries 106 = .ok (.ifCond .ne 5, 3) := by decide +kernel
theorem dX6_readSeries_109 : decode cX6_readSeries 109 = .ok (.iconst 0, 1) := by decide +kernel
theorem dX6_readSeries_110 : decode cX6_readSeries 110 = .ok (.ireturn, 1) := by decide +kernel
theorem dX6_readSeries_111 : decode cX6_readSeries 111 = .ok (.aload_n 2, 1) := by decide +kernel
theorem dX6_readSeries_112 : decode cX6_readSeries 112 = .ok (.aload_n 1, 1) := by decide +kernel
theorem dX6_readSeries_113 : decode cX6_readSeries 113 = .ok (.getfield 78, 3) := by decide +kernel
theorem dX6_readSeries_116 : decode cX6_readSeries 116 = .ok (.iload 5, 2) := by decide +kernel
theorem dX6_readSeries_118 : decode cX6_readSeries 118 = .ok (.iaload, 1) := by decide +kernel
theorem dX6_readSeries_119 : decode cX6_readSeries 119 = .ok (.iload 6, 2) := by decide +kernel
theorem dX6_readSeries_121 : decode cX6_readSeries 121 = .ok (.invokevirtual 81, 3) := by decide +kernel
theorem dX6_readSeries_124 : decode cX6_readSeries 124 = .ok (.iinc 5 1, 3) := by decide +kernel
theorem dX6_readSeries_127 : decode cX6_readSeries 127 = .ok (.goto (-58), 3) := by decide +kernel
theorem dX6_readSeries_130 : decode cX6_readSeries 130 = .ok (.aload_n 0, 1) := by decide +kernel
theorem dX6_readSeries_131 : decode cX6_readSeries 131 = .ok (.bipush 59, 2) := by decide +kernel
theorem dX6_readSeries_133 : decode cX6_readSeries 133 = .ok (.invokevirtual 31, 3) := by decide +kernel
theorem dX6_readSeries_136 : decode cX6_readSeries 136 = .ok (.ifCond .eq 17, 3) := by decide +kernel
theorem dX6_readSeries_139 : decode cX6_readSeries 139 = .ok (.aload_n 2, 1) := by decide +kernel
theorem dX6_readSeries_140 : decode cX6_readSeries 140 = .ok (.getfield 84, 3) := by decide +kernel
theorem dX6_readSeries_143 : decode cX6_readSeries 143 = .ok (.iconst 1, 1) := by decide +kernel
theorem dX6_readSeries_144 : decode cX6_readSeries 144 = .ok (.sipush 999, 3) := by decide +kernel
theorem dX6_readSeries_147 : decode cX6_readSeries 147 = .ok (.invokestatic 48, 3) := by decide +kernel
theorem dX6_readSeries_150 : decode cX6_readSeries 150 = .ok (.ifCond .ne 5, 3) := by decide +kernel
theorem dX6_readSeries_153 : decode cX6_readSeries 153 = .ok (.iconst 0, 1) := by decide +kernel
theorem dX6_readSeries_154 : decode cX6_readSeries 154 = .ok (.ireturn, 1) := by decide +kernel
theorem dX6_readSeries_155 : decode cX6_readSeries 155 = .ok (.aload_n 1, 1) := by decide +kernel
theorem dX6_readSeries_156 : decode cX6_readSeries 156 = .ok (.invokevirtual 87, 3) := by decide +kernel
theorem dX6_readSeries_159 : decode cX6_readSeries 159 = .ok (.iconst 1, 1) := by decide +kernel
theorem dX6_readSeries_160 : decode cX6_readSeries 160 = .ok (.ireturn, 1) := by decide +kernel
theorem dX6_skip_0 : decode cX6_skip 0 = .ok (.aload_n 0, 1) := by decide +kernel
theorem dX6_skip_1 : decode cX6_skip 1 = .ok (.getfield 24, 3) := by decide +kernel
theorem dX6_skip_4 : decode cX6_skip 4 = .ok (.aload_n 0, 1) := by decide +kernel
theorem dX6_skip_5 : decode cX6_skip 5 = .ok (.getfield 15, 3) := by decide +kernel
theorem dX6_skip_8 : decode cX6_skip 8 = .ok (.if_icmp .ge 16, 3) := by decide +kernel
theorem dX6_skip_11 : decode cX6_skip 11 = .ok (.aload_n 0, 1) := by decide +kernel
theorem dX6_skip_12 : decode cX6_skip 12 = .ok (.getfield 9, 3) := by decide +kernel
theorem dX6_skip_15 : decode cX6_skip 15 = .ok (.aload_n 0, 1) := by decide +kernel
theorem dX6_skip_16 : decode cX6_skip 16 = .ok (.getfield 24, 3) := by decide +kernel
theorem dX6_skip_19 : decode cX6_skip 19 = .ok (.iaload, 1) := by decide +kernel
theorem dX6_skip_20 : decode cX6_skip 20 = .ok (.iload_n 1, 1) := by decide +kernel
theorem dX6_skip_21 : decode cX6_skip 21 = .ok (.if_icmp .eq 5, 3) := by decide +kernel
theorem dX6_skip_24 : decode cX6_skip 24 = .ok (.iconst 0, 1) := by decide +kernel
theorem dX6_skip_25 : decode cX6_skip 25 = .ok (.ireturn, 1) := by decide +kernel
theorem dX6_skip_26 : decode cX6_skip 26 = .ok (.aload_n 0, 1) := by decide +kernel
theorem dX6_skip_27 : decode cX6_skip 27 = .ok (.dup, 1) := by decide +kernel
theorem dX6_skip_28 : decode cX6_skip 28 = .ok (.getfield 24, 3) := by decide +kernel
theorem dX6_skip_31 : decode cX6_skip 31 = .ok (.iconst 1, 1) := by decide +kernel
theorem dX6_skip_32 : decode cX6_skip 32 = .ok (.iadd, 1) := by decide +kernel
theorem dX6_skip_33 : decode cX6_skip 33 = .ok (.putfield 24, 3) := by decide +kernel
theorem dX6_skip_36 : decode cX6_skip 36 = .ok (.iconst 1, 1) := by decide +kernel
theorem dX6_skip_37 : decode cX6_skip 37 = .ok (.ireturn, 1) := by decide +kernel
theorem dX6_readLetter_0 : decode cX6_readLetter 0 = .ok (.aload_n 0, 1) := by decide +kernel
theorem dX6_readLetter_1 : decode cX6_readLetter 1 = .ok (.getfield 24, 3) := by decide +kernel
theorem dX6_readLetter_4 : decode cX6_readLetter 4 = .ok (.aload_n 0, 1) := by decide +kernel
theorem dX6_readLetter_5 : decode cX6_readLetter 5 = .ok (.getfield 15, 3) := by decide +kernel
theorem dX6_readLetter_8 : decode cX6_readLetter 8 = .ok (.if_icmp .ge 31, 3) := by decide +kernel
theorem dX6_readLetter_11 : decode cX6_readLetter 11 = .ok (.aload_n 0, 1) := by decide +kernel
theorem dX6_readLetter_12 : decode cX6_readLetter 12 = .ok (.getfield 9, 3) := by decide +kernel
theorem dX6_readLetter_15 : decode cX6_readLetter 15 = .ok (.aload_n 0, 1) := by decide +kernel
theorem dX6_readLetter_16 : decode cX6_readLetter 16 = .ok (.getfield 24, 3) := by decide +kernel
theorem dX6_readLetter_19 : decode cX6_readLetter 19 = .ok (.iaload, 1) := by decide +kernel
theorem dX6_readLetter_20 : decode cX6_readLetter 20 = .ok (.bipush 97, 2) := by decide +kernel
theorem dX6_readLetter_22 : decode cX6_readLetter 22 = .ok (.if_icmp .lt 17, 3) := by decide +kernel
theorem dX6_readLetter_25 : decode cX6_readLetter 25 = .ok (.aload_n 0, 1) := by decide +kernel
theorem dX6_readLetter_26 : decode cX6_readLetter 26 = .ok (.getfield 9, 3) := by decide +kernel
theorem dX6_readLetter_29 : decode cX6_readLetter 29 = .ok (.aload_n 0, 1) := by decide +kernel
theorem dX6_readLetter_30 : decode cX6_readLetter 30 = .ok (.getfield 24, 3) := by decide +kernel
theorem dX6_readLetter_33 : decode cX6_readLetter 33 = .ok (.iaload, 1) := by decide +kernel
theorem dX6_readLetter_34 : decode cX6_readLetter 34 = .ok (.bipush 122, 2) := by decide +kernel
theorem dX6_readLetter_36 : decode cX6_readLetter 36 = .ok (.if_icmp .le 6, 3) := by decide +kernel
theorem dX6_readLetter_39 : decode cX6_readLetter 39 = .ok (.bipush (-4), 2) := by decide +kernel
theorem dX6_readLetter_41 : decode cX6_readLetter 41 = .ok (.ireturn, 1) := by decide +kernel
theorem dX6_readLetter_42 : decode cX6_readLetter 42 = .ok (.aload_n 0, 1) := by decide +kernel
theorem dX6_readLetter_43 : decode cX6_readLetter 43 = .ok (.dup, 1) := by decide +kernel
theorem dX6_readLetter_44 : decode cX6_readLetter 44 = .ok (.getfield 24, 3) := by decide +kernel
theorem dX6_readLetter_47 : decode cX6_readLetter 47 = .ok (.iconst 1, 1) := by decide +kernel
theorem dX6_readLetter_48 : decode cX6_readLetter 48 = .ok (.iadd, 1) := by decide +kernel
theorem dX6_readLetter_49 : decode cX6_readLetter 49 = .ok (.putfield 24, 3) := by decide +kernel
theorem dX6_readLetter_52 : decode cX6_readLetter 52 = .ok (.aload_n 0, 1) := by decide +kernel
theorem dX6_readLetter_53 : decode cX6_readLetter 53 = .ok (.getfield 9, 3) := by decide +kernel
theorem dX6_readLetter_56 : decode cX6_readLetter 56 = .ok (.aload_n 0, 1) := by decide +kernel
theorem dX6_readLetter_57 : decode cX6_readLetter 57 = .ok (.getfield 24, 3) := by decide +kernel
theorem dX6_readLetter_60 : decode cX6_readLetter 60 = .ok (.iconst 1, 1) := by decide +kernel
theorem dX6_readLetter_61 : decode cX6_readLetter 61 = .ok (.isub, 1) := by decide +kernel
theorem dX6_readLetter_62 : decode cX6_readLetter 62 = .ok (.iaload, 1) := by decide +kernel
theorem dX6_readLetter_63 : decode cX6_readLetter 63 = .ok (.bipush 97, 2) := by decide +kernel
theorem dX6_readLetter_65 : decode cX6_readLetter 65 = .ok (.isub, 1) := by decide +kernel
theorem dX6_readLetter_66 : decode cX6_readLetter 66 = .ok (.iconst 1, 1) := by decide +kernel
theorem dX6_readLetter_67 : decode cX6_readLetter 67 = .ok (.iadd, 1) := by decide +kernel
theorem dX6_readLetter_68 : decode cX6_readLetter 68 = .ok (.ireturn, 1) := by decide +kernel
theorem dX6_readNumber_0 : decode cX6_readNumber 0 = .ok (.aload_n 0, 1) := by decide +kernel
theorem dX6_readNumber_1 : decode cX6_readNumber 1 = .ok (.invokevirtual 90, 3) := by decide +kernel
theorem dX6_readNumber_4 : decode cX6_readNumber 4 = .ok (.istore_n 1, 1) := by decide +kernel
theorem dX6_readNumber_5 : decode cX6_readNumber 5 = .ok (.iload_n 1, 1) := by decide +kernel
theorem dX6_readNumber_6 : decode cX6_readNumber 6 = .ok (.bipush (-4), 2) := by decide +kernel
theorem dX6_readNumber_8 : decode cX6_readNumber 8 = .ok (.if_icmp .ne 6, 3) := by decide +kernel
theorem dX6_readNumber_11 : decode cX6_readNumber 11 = .ok (.bipush (-4), 2) := by decide +kernel
theorem dX6_readNumber_13 : decode cX6_readNumber 13 = .ok (.ireturn, 1) := by decide +kernel
theorem dX6_readNumber_14 : decode cX6_readNumber 14 = .ok (.aload_n 0, 1) := by decide +kernel
theorem dX6_readNumber_15 : decode cX6_readNumber 15 = .ok (.invokevirtual 90, 3) := by decide +kernel
theorem dX6_readNumber_18 : decode cX6_readNumber 18 = .ok (.istore_n 2, 1) := by decide +kernel
theorem dX6_readNumber_19 : decode cX6_readNumber 19 = .ok (.iload_n 2, 1) := by decide +kernel
theorem dX6_readNumber_20 : decode cX6_readNumber 20 = .ok (.bipush (-4), 2) := by decide +kernel
theorem dX6_readNumber_22 : decode cX6_readNumber 22 = .ok (.if_icmp .ne 7, 3) := by decide +kernel
theorem dX6_readNumber_25 : decode cX6_readNumber 25 = .ok (.iload_n 1, 1) := by decide +kernel
theorem dX6_readNumber_26 : decode cX6_readNumber 26 = .ok (.goto 9, 3) := by decide +kernel
theorem dX6_readNumber_29 : decode cX6_readNumber 29 = .ok (.bipush 10, 2) := by decide +kernel
theorem dX6_readNumber_31 : decode cX6_readNumber 31 = .ok (.iload_n 1, 1) := by decide +kernel
theorem dX6_readNumber_32 : decode cX6_readNumber 32 = .ok (.imul, 1) := by decide +kernel
theorem dX6_readNumber_33 : decode cX6_readNumber 33 = .ok (.iload_n 2, 1) := by decide +kernel
theorem dX6_readNumber_34 : decode cX6_readNumber 34 = .ok (.iadd, 1) := by decide +kernel
theorem dX6_readNumber_35 : decode cX6_readNumber 35 = .ok (.ireturn, 1) := by decide +kernel
theorem dX6_readFigure_0 : decode cX6_readFigure 0 = .ok (.aload_n 0, 1) := by decide +kernel
theorem dX6_readFigure_1 : decode cX6_readFigure 1 = .ok (.getfield 24, 3) := by decide +kernel
theorem dX6_readFigure_4 : decode cX6_readFigure 4 = .ok (.aload_n 0, 1) := by decide +kernel
theorem dX6_readFigure_5 : decode cX6_readFigure 5 = .ok (.getfield 15, 3) := by decide +kernel
theorem dX6_readFigure_8 : decode cX6_readFigure 8 = .ok (.if_icmp .ge 31, 3) := by decide +kernel
theorem dX6_readFigure_11 : decode cX6_readFigure 11 = .ok (.aload_n 0, 1) := by decide +kernel
theorem dX6_readFigure_12 : decode cX6_readFigure 12 = .ok (.getfield 9, 3) := by decide +kernel
theorem dX6_readFigure_15 : decode cX6_readFigure 15 = .ok (.aload_n 0, 1) := by decide +kernel
theorem dX6_readFigure_16 : decode cX6_readFigure 16 = .ok (.getfield 24, 3) := by decide +kernel
theorem dX6_readFigure_19 : decode cX6_readFigure 19 = .ok (.iaload, 1) := by decide +kernel
theorem dX6_readFigure_20 : decode cX6_readFigure 20 = .ok (.bipush 48, 2) := by decide +kernel
theorem dX6_readFigure_22 : decode cX6_readFigure 22 = .ok (.if_icmp .lt 17, 3) := by decide +kernel
theorem dX6_readFigure_25 : decode cX6_readFigure 25 = .ok (.aload_n 0, 1) := by decide +kernel
theorem dX6_readFigure_26 : decode cX6_readFigure 26 = .ok (.getfield 9, 3) := by decide +kernel
theorem dX6_readFigure_29 : decode cX6_readFigure 29 = .ok (.aload_n 0, 1) := by decide +kernel
theorem dX6_readFigure_30 : decode cX6_readFigure 30 = .ok (.getfield 24, 3) := by decide +kernel
theorem dX6_readFigure_33 : decode cX6_readFigure 33 = .ok (.iaload, 1) := by decide +kernel
theorem dX6_readFigure_34 : decode cX6_readFigure 34 = .ok (.bipush 57, 2) := by decide +kernel
theorem dX6_readFigure_36 : decode cX6_readFigure 36 = .ok (.if_icmp .le 6, 3) := by decide +kernel
theorem dX6_readFigure_39 : decode cX6_readFigure 39 = .ok (.bipush (-4), 2) := by decide +kernel
theorem dX6_readFigure_41 : decode cX6_readFigure 41 = .ok (.ireturn, 1) := by decide +kernel
theorem dX6_readFigure_42 : decode cX6_readFigure 42 = .ok (.aload_n 0, 1) := by decide +kernel
theorem dX6_readFigure_43 : decode cX6_readFigure 43 = .ok (.dup, 1) := by decide +kernel
theorem dX6_readFigure_44 : decode cX6_readFigure 44 = .ok (.getfield 24, 3) := by decide +kernel
theorem dX6_readFigure_47 : decode cX6_readFigure 47 = .ok (.iconst 1, 1) := by decide +kernel
theorem dX6_readFigure_48 : decode cX6_readFigure 48 = .ok (.iadd, 1) := by decide +kernel
theorem dX6_readFigure_49 : decode cX6_readFigure 49 = .ok (.putfield 24, 3) := by decide +kernel
theorem dX6_readFigure_52 : decode cX6_readFigure 52 = .ok (.aload_n 0, 1) := by decide +kernel
theorem dX6_readFigure_53 : decode cX6_readFigure 53 = .ok (.getfield 9, 3) := by decide +kernel
theorem dX6_readFigure_56 : decode cX6_readFigure 56 = .ok (.aload_n 0, 1) := by decide +kernel
theorem dX6_readFigure_57 : decode cX6_readFigure 57 = .ok (.getfield 24, 3) := by decide +kernel
theorem dX6_readFigure_60 : decode cX6_readFigure 60 = .ok (.iconst 1, 1) := by decide +kernel
theorem dX6_readFigure_61 : decode cX6_readFigure 61 = .ok (.isub, 1) := by decide +kernel
theorem dX6_readFigure_62 : decode cX6_readFigure 62 = .ok (.iaload, 1) := by decide +kernel
theorem dX6_readFigure_63 : decode cX6_readFigure 63 = .ok (.bipush 48, 2) := by decide +kernel
theorem dX6_readFigure_65 : decode cX6_readFigure 65 = .ok (.isub, 1) := by decide +kernel
theorem dX6_readFigure_66 : decode cX6_readFigure 66 = .ok (.ireturn, 1) := by decide +kernel
end
section
theorem dX7_init_0 : decode cX7_init 0 = .ok (.aload_n 0, 1) := by decide +kernel
theorem dX7_init_1 : decode cX7_init 1 = .ok (.invokespecial 1, 3) := by decide +kernel
theorem dX7_init_4 : decode cX7_init 4 = .ok (.aload_n 0, 1) := by decide +kernel
theorem dX7_init_5 : decode cX7_init 5 = .ok (.new 7, 3) := by decide +kernel
theorem dX7_init_8 : decode cX7_init 8 = .ok (.dup, 1) := by decide +kernel
theorem dX7_init_9 : decode cX7_init 9 = .ok (.invokespecial 9, 3) := by decide +kernel
theorem dX7_init_12 : decode cX7_init 12 = .ok (.putfield 10, 3) := by decide +kernel
theorem dX7_init_15 : decode cX7_init 15 = .ok (.aload_n 0, 1) := by decide +kernel
theorem dX7_init_16 : decode cX7_init 16 = .ok (.new 16, 3) := by decide +kernel
theorem dX7_init_19 : decode cX7_init 19 = .ok (.dup, 1) := by decide +kernel
theorem dX7_init_20 : decode cX7_init 20 = .ok (.invokespecial 18, 3) := by decide +kernel
theorem dX7_init_23 : decode cX7_init 23 = .ok (.putfield 19, 3) := by decide +kernel
theorem dX7_init_26 : decode cX7_init 26 = .ok (.aload_n 0, 1) := by decide +kernel
theorem dX7_init_27 : decode cX7_init 27 = .ok (.new 23, 3) := by decide +kernel
theorem dX7_init_30 : decode cX7_init 30 = .ok (.dup, 1) := by decide +kernel
theorem dX7_init_31 : decode cX7_init 31 = .ok (.invokespecial 25, 3) := by decide +kernel
theorem dX7_init_34 : decode cX7_init 34 = .ok (.putfield 26, 3) := by decide +kernel
theorem dX7_init_37 : decode cX7_init 37 = .ok (.aload_n 0, 1) := by decide +kernel
theorem dX7_init_38 : decode cX7_init 38 = .ok (.new 30, 3) := by decide +kernel
theorem dX7_init_41 : decode cX7_init 41 = .ok (.dup, 1) := by decide +kernel
theorem dX7_init_42 : decode cX7_init 42 = .ok (.invokespecial 32, 3) := by decide +kernel
theorem dX7_init_45 : decode cX7_init 45 = .ok (.putfield 33, 3) := by decide +kernel
theorem dX7_init_48 : decode cX7_init 48 = .ok (.aload_n 0, 1) := by decide +kernel
theorem dX7_init_49 : decode cX7_init 49 = .ok (.new 30, 3) := by decide +kernel
theorem dX7_init_52 : decode cX7_init 52 = .ok (.dup, 1) := by decide +kernel
theorem dX7_init_53 : decode cX7_init 53 = .ok (.invokespecial 32, 3) := by decide +kernel
theorem dX7_init_56 : decode cX7_init 56 = .ok (.putfield 37, 3) := by decide +kernel
theorem dX7_init_59 : decode cX7_init 59 = .ok (.iconst 0, 1) := by decide +kernel
theorem dX7_init_60 : decode cX7_init 60 = .ok (.istore_n 1, 1) := by decide +kernel
theorem dX7_init_61 : decode cX7_init 61 = .ok (.iload_n 1, 1) := by decide +kernel
theorem dX7_init_62 : decode cX7_init 62 = .ok (.ldc 40, 2) := by decide +kernel
theorem dX7_init_64 : decode cX7_init 64 = .ok (.invokevirtual 42, 3) := by decide +kernel
theorem dX7_init_67 : decode cX7_init 67 = .ok (.if_icmp .ge 23, 3) := by decide +kernel
theorem dX7_init_70 : decode cX7_init 70 = .ok (.aload_n 0, 1) := by decide +kernel
theorem dX7_init_71 : decode cX7_init 71 = .ok (.getfield 10, 3) := by decide +kernel
theorem dX7_init_74 : decode cX7_init 74 = .ok (.ldc 40, 2) := by decide +kernel
theorem dX7_init_76 : decode cX7_init 76 = .ok (.iload_n 1, 1) := by decide +kernel
theorem dX7_init_77 : decode cX7_init 77 = .ok (.invokevirtual 48, 3) := by decide +kernel
theorem dX7_init_80 : decode cX7_init 80 = .ok (.invokevirtual 52, 3) := by decide +kernel
theorem dX7_init_83 : decode cX7_init 83 = .ok (.pop, 1) := by decide +kernel
theorem dX7_init_84 : decode cX7_init 84 = .ok (.iinc 1 1, 3) := by decide +kernel
theorem dX7_init_87 : decode cX7_init 87 = .ok (.goto (-26), 3) := by decide +kernel
theorem dX7_init_90 : decode cX7_init 90 = .ok (.aload_n 0, 1) := by decide +kernel
theorem dX7_init_91 : decode cX7_init 91 = .ok (.invokevirtual 56, 3) := by decide +kernel
theorem dX7_init_94 : decode cX7_init 94 = .ok (.pop, 1) := by decide +kernel
theorem dX7_init_95 : decode cX7_init 95 = .ok (.aload_n 0, 1) := by decide +kernel
theorem dX7_init_96 : decode cX7_init 96 = .ok (.getfield 10, 3) := by decide +kernel
theorem dX7_init_99 : decode cX7_init 99 = .ok (.invokevirtual 60, 3) := by decide +kernel
theorem dX7_init_102 : decode cX7_init 102 = .ok (.return_, 1) := by decide +kernel
theorem dX7_write_0 : decode cX7_write 0 = .ok (.iload_n 1, 1) := by decide +kernel
theorem dX7_write_1 : decode cX7_write 1 = .ok (.bipush 32, 2) := by decide +kernel
theorem dX7_write_3 : decode cX7_write 3 = .ok (.bipush 126, 2) := by decide +kernel
theorem dX7_write_5 : decode cX7_write 5 = .ok (.invokestatic 63, 3) := by decide +kernel
theorem dX7_write_8 : decode cX7_write 8 = .ok (.ifCond .ne 5, 3) := by decide +kernel
theorem dX7_write_11 : decode cX7_write 11 = .ok (.iconst (-1), 1) := by decide +kernel
theorem dX7_write_12 : decode cX7_write 12 = .ok (.ireturn, 1) := by decide +kernel
theorem dX7_write_13 : decode cX7_write 13 = .ok (.aload_n 0, 1) := by decide +kernel
theorem dX7_write_14 : decode cX7_write 14 = .ok (.getfield 10, 3) := by decide +kernel
theorem dX7_write_17 : decode cX7_write 17 = .ok (.iload_n 1, 1) := by decide +kernel
theorem dX7_write_18 : decode cX7_write 18 = .ok (.invokevirtual 52, 3) := by decide +kernel
theorem dX7_write_21 : decode cX7_write 21 = .ok (.ifCond .eq 13, 3) := by decide +kernel
theorem dX7_write_24 : decode cX7_write 24 = .ok (.aload_n 0, 1) := by decide +kernel
theorem dX7_write_25 : decode cX7_write 25 = .ok (.getfield 10, 3) := by decide +kernel
theorem dX7_write_28 : decode cX7_write 28 = .ok (.getfield 67, 3) := by decide +kernel
theorem dX7_write_31 : decode cX7_write 31 = .ok (.goto 5, 3) := by decide +kernel
theorem dX7_write_34 : decode cX7_write 34 = .ok (.bipush (-3), 2) := by decide +kernel
theorem dX7_write_36 : decode cX7_write 36 = .ok (.ireturn, 1) := by decide +kernel
theorem dX7_wipe_0 : decode cX7_wipe 0 = .ok (.aload_n 0, 1) := by decide +kernel
theorem dX7_wipe_1 : decode cX7_wipe 1 = .ok (.getfield 10, 3) := by decide +kernel
theorem dX7_wipe_4 : decode cX7_wipe 4 = .ok (.getfield 67, 3) := by decide +kernel
theorem dX7_wipe_7 : decode cX7_wipe 7 = .ok (.istore_n 1, 1) := by decide +kernel
theorem dX7_wipe_8 : decode cX7_wipe 8 = .ok (.aload_n 0, 1) := by decide +kernel
theorem dX7_wipe_9 : decode cX7_wipe 9 = .ok (.getfield 10, 3) := by decide +kernel
theorem dX7_wipe_12 : decode cX7_wipe 12 = .ok (.invokevirtual 60, 3) := by decide +kernel
theorem dX7_wipe_15 : decode cX7_wipe 15 = .ok (.iload_n 1, 1) := by decide +kernel
theorem dX7_wipe_16 : decode cX7_wipe 16 = .ok (.ireturn, 1) := by decide +kernel
theorem dX7_fault_0 : decode cX7_fault 0 = .ok (.aload_n 0, 1) := by decide +kernel
theorem dX7_fault_1 : decode cX7_fault 1 = .ok (.getfield 10, 3) := by decide +kernel
theorem dX7_fault_4 : decode cX7_fault 4 = .ok (.aload_n 0, 1) := by decide +kernel
theorem dX7_fault_5 : decode cX7_fault 5 = .ok (.getfield 37, 3) := by decide +kernel
theorem dX7_fault_8 : decode cX7_fault 8 = .ok (.invokevirtual 70, 3) := by decide +kernel
theorem dX7_fault_11 : decode cX7_fault 11 = .ok (.ireturn, 1) := by decide +kernel
theorem dX7_lay_0 : decode cX7_lay 0 = .ok (.aload_n 0, 1) := by decide +kernel
theorem dX7_lay_1 : decode cX7_lay 1 = .ok (.invokevirtual 56, 3) := by decide +kernel
theorem dX7_lay_4 : decode cX7_lay 4 = .ok (.ifCond .eq 13, 3) := by decide +kernel
theorem dX7_lay_7 : decode cX7_lay 7 = .ok (.aload_n 0, 1) := by decide +kernel
theorem dX7_lay_8 : decode cX7_lay 8 = .ok (.getfield 33, 3) := by decide +kernel
theorem dX7_lay_11 : decode cX7_lay 11 = .ok (.getfield 74, 3) := by decide +kernel
theorem dX7_lay_14 : decode cX7_lay 14 = .ok (.goto 5, 3) := by decide +kernel
theorem dX7_lay_17 : decode cX7_lay 17 = .ok (.bipush (-2), 2) := by decide +kernel
theorem dX7_lay_19 : decode cX7_lay 19 = .ok (.ireturn, 1) := by decide +kernel
theorem dX7_run_0 : decode cX7_run 0 = .ok (.aload_n 0, 1) := by decide +kernel
theorem dX7_run_1 : decode cX7_run 1 = .ok (.getfield 33, 3) := by decide +kernel
theorem dX7_run_4 : decode cX7_run 4 = .ok (.iload_n 1, 1) := by decide +kernel
theorem dX7_run_5 : decode cX7_run 5 = .ok (.iload_n 2, 1) := by decide +kernel
theorem dX7_run_6 : decode cX7_run 6 = .ok (.invokevirtual 77, 3) := by decide +kernel
theorem dX7_run_9 : decode cX7_run 9 = .ok (.astore 4, 2) := by decide +kernel
theorem dX7_run_11 : decode cX7_run 11 = .ok (.aload 4, 2) := by decide +kernel
theorem dX7_run_13 : decode cX7_run 13 = .ok (.ifnull 13, 3) := by decide +kernel
theorem dX7_run_16 : decode cX7_run 16 = .ok (.iload_n 3, 1) := by decide +kernel
theorem dX7_run_17 : decode cX7_run 17 = .ok (.iconst 1, 1) := by decide +kernel
theorem dX7_run_18 : decode cX7_run 18 = .ok (.bipush 40, 2) := by decide +kernel
theorem dX7_run_20 : decode cX7_run 20 = .ok (.invokestatic 63, 3) := by decide +kernel
theorem dX7_run_23 : decode cX7_run 23 = .ok (.ifCond .ne 5, 3) := by decide +kernel
theorem dX7_run_26 : decode cX7_run 26 = .ok (.iconst (-1), 1) := by decide +kernel
theorem dX7_run_27 : decode cX7_run 27 = .ok (.ireturn, 1) := by decide +kernel
theorem dX7_run_28 : decode cX7_run 28 = .ok (.iload_n 3, 1) := by decide +kernel
theorem dX7_run_29 : decode cX7_run 29 = .ok (.aload 4, 2) := by decide +kernel
theorem dX7_run_31 : decode cX7_run 31 = .ok (.invokevirtual 81, 3) := by decide +kernel
theorem dX7_run_34 : decode cX7_run 34 = .ok (.if_icmp .le 6, 3) := by decide +kernel
theorem dX7_run_37 : decode cX7_run 37 = .ok (.bipush (-2), 2) := by decide +kernel
theorem dX7_run_39 : decode cX7_run 39 = .ok (.ireturn, 1) := by decide +kernel
theorem dX7_run_40 : decode cX7_run 40 = .ok (.aload 4, 2) := by decide +kernel
theorem dX7_run_42 : decode cX7_run 42 = .ok (.dup, 1) := by decide +kernel
theorem dX7_run_43 : decode cX7_run 43 = .ok (.getfield 86, 3) := by decide +kernel
theorem dX7_run_46 : decode cX7_run 46 = .ok (.iload_n 3, 1) := by decide +kernel
theorem dX7_run_47 : decode cX7_run 47 = .ok (.iadd, 1) := by decide +kernel
theorem dX7_run_48 : decode cX7_run 48 = .ok (.putfield 86, 3) := by decide +kernel
theorem dX7_run_51 : decode cX7_run 51 = .ok (.aload_n 0, 1) := by decide +kernel
theorem dX7_run_52 : decode cX7_run 52 = .ok (.getfield 26, 3) := by decide +kernel
theorem dX7_run_55 : decode cX7_run 55 = .ok (.aload 4, 2) := by decide +kernel
theorem dX7_run_57 : decode cX7_run 57 = .ok (.iload_n 3, 1) := by decide +kernel
theorem dX7_run_58 : decode cX7_run 58 = .ok (.invokevirtual 89, 3) := by decide +kernel
theorem dX7_run_61 : decode cX7_run 61 = .ok (.iload_n 3, 1) := by decide +kernel
theorem dX7_run_62 : decode cX7_run 62 = .ok (.aload 4, 2) := by decide +kernel
theorem dX7_run_64 : decode cX7_run 64 = .ok (.getfield 93, 3) := by decide +kernel
theorem dX7_run_67 : decode cX7_run 67 = .ok (.imul, 1) := by decide +kernel
theorem dX7_run_68 : decode cX7_run 68 = .ok (.ireturn, 1) := by decide +kernel
theorem dX7_spoil_0 : decode cX7_spoil 0 = .ok (.aload_n 0, 1) := by decide +kernel
theorem dX7_spoil_1 : decode cX7_spoil 1 = .ok (.getfield 33, 3) := by decide +kernel
theorem dX7_spoil_4 : decode cX7_spoil 4 = .ok (.iload_n 1, 1) := by decide +kernel
theorem dX7_spoil_5 : decode cX7_spoil 5 = .ok (.invokevirtual 96, 3) := by decide +kernel
theorem dX7_spoil_8 : decode cX7_spoil 8 = .ok (.astore_n 3, 1) := by decide +kernel
theorem dX7_spoil_9 : decode cX7_spoil 9 = .ok (.aload_n 3, 1) := by decide +kernel
theorem dX7_spoil_10 : decode cX7_spoil 10 = .ok (.ifnull 11, 3) := by decide +kernel
theorem dX7_spoil_13 : decode cX7_spoil 13 = .ok (.aload_n 3, 1) := by decide +kernel
theorem dX7_spoil_14 : decode cX7_spoil 14 = .ok (.iload_n 2, 1) := by decide +kernel
theorem dX7_spoil_15 : decode cX7_spoil 15 = .ok (.invokevirtual 100, 3) := by decide +kernel
theorem dX7_spoil_18 : decode cX7_spoil 18 = .ok (.ifCond .ne 5, 3) := by decide +kernel
theorem dX7_spoil_21 : decode cX7_spoil 21 = .ok (.iconst (-1), 1) := by decide +kernel
theorem dX7_spoil_22 : decode cX7_spoil 22 = .ok (.ireturn, 1) := by decide +kernel
theorem dX7_spoil_23 : decode cX7_spoil 23 = .ok (.aload_n 3, 1) := by decide +kernel
theorem dX7_spoil_24 : decode cX7_spoil 24 = .ok (.iload_n 2, 1) := by decide +kernel
theorem dX7_spoil_25 : decode cX7_spoil 25 = .ok (.invokevirtual 105, 3) := by decide +kernel
theorem dX7_spoil_28 : decode cX7_spoil 28 = .ok (.ifCond .eq 15, 3) := by decide +kernel
theorem dX7_spoil_31 : decode cX7_spoil 31 = .ok (.aload_n 0, 1) := by decide +kernel
theorem dX7_spoil_32 : decode cX7_spoil 32 = .ok (.getfield 19, 3) := by decide +kernel
theorem dX7_spoil_35 : decode cX7_spoil 35 = .ok (.iload_n 1, 1) := by decide +kernel
theorem dX7_spoil_36 : decode cX7_spoil 36 = .ok (.iload_n 2, 1) := by decide +kernel
theorem dX7_spoil_37 : decode cX7_spoil 37 = .ok (.invokevirtual 108, 3) := by decide +kernel
theorem dX7_spoil_40 : decode cX7_spoil 40 = .ok (.ifCond .eq 6, 3) := by decide +kernel
theorem dX7_spoil_43 : decode cX7_spoil 43 = .ok (.bipush (-2), 2) := by decide +kernel
theorem dX7_spoil_45 : decode cX7_spoil 45 = .ok (.ireturn, 1) := by decide +kernel
theorem dX7_spoil_46 : decode cX7_spoil 46 = .ok (.aload_n 0, 1) := by decide +kernel
theorem dX7_spoil_47 : decode cX7_spoil 47 = .ok (.getfield 19, 3) := by decide +kernel
theorem dX7_spoil_50 : decode cX7_spoil 50 = .ok (.invokevirtual 112, 3) := by decide +kernel
theorem dX7_spoil_53 : decode cX7_spoil 53 = .ok (.iconst 1, 1) := by decide +kernel
theorem dX7_spoil_54 : decode cX7_spoil 54 = .ok (.if_icmp .ge 6, 3) := by decide +kernel
theorem dX7_spoil_57 : decode cX7_spoil 57 = .ok (.bipush (-3), 2) := by decide +kernel
theorem dX7_spoil_59 : decode cX7_spoil 59 = .ok (.ireturn, 1) := by decide +kernel
theorem dX7_spoil_60 : decode cX7_spoil 60 = .ok (.aload_n 0, 1) := by decide +kernel
theorem dX7_spoil_61 : decode cX7_spoil 61 = .ok (.getfield 19, 3) := by decide +kernel
theorem dX7_spoil_64 : decode cX7_spoil 64 = .ok (.iload_n 1, 1) := by decide +kernel
theorem dX7_spoil_65 : decode cX7_spoil 65 = .ok (.iload_n 2, 1) := by decide +kernel
theorem dX7_spoil_66 : decode cX7_spoil 66 = .ok (.invokevirtual 115, 3) := by decide +kernel
theorem dX7_spoil_69 : decode cX7_spoil 69 = .ok (.aload_n 0, 1) := by decide +kernel
theorem dX7_spoil_70 : decode cX7_spoil 70 = .ok (.getfield 26, 3) := by decide +kernel
theorem dX7_spoil_73 : decode cX7_spoil 73 = .ok (.iconst 1, 1) := by decide +kernel
theorem dX7_spoil_74 : decode cX7_spoil 74 = .ok (.invokevirtual 119, 3) := by decide +kernel
theorem dX7_spoil_77 : decode cX7_spoil 77 = .ok (.aload_n 0, 1) := by decide +kernel
theorem dX7_spoil_78 : decode cX7_spoil 78 = .ok (.getfield 19, 3) := by decide +kernel
theorem dX7_spoil_81 : decode cX7_spoil 81 = .ok (.getfield 123, 3) := by decide +kernel
theorem dX7_spoil_84 : decode cX7_spoil 84 = .ok (.iconst 1, 1) := by decide +kernel
theorem dX7_spoil_85 : decode cX7_spoil 85 = .ok (.isub, 1) := by decide +kernel
theorem dX7_spoil_86 : decode cX7_spoil 86 = .ok (.ireturn, 1) := by decide +kernel
theorem dX7_spoilSheet_0 : decode cX7_spoilSheet 0 = .ok (.aload_n 0, 1) := by decide +kernel
theorem dX7_spoilSheet_1 : decode cX7_spoilSheet 1 = .ok (.getfield 33, 3) := by decide +kernel
theorem dX7_spoilSheet_4 : decode cX7_spoilSheet 4 = .ok (.iload_n 1, 1) := by decide +kernel
theorem dX7_spoilSheet_5 : decode cX7_spoilSheet 5 = .ok (.iload_n 2, 1) := by decide +kernel
theorem dX7_spoilSheet_6 : decode cX7_spoilSheet 6 = .ok (.invokevirtual 77, 3) := by decide +kernel
theorem dX7_spoilSheet_9 : decode cX7_spoilSheet 9 = .ok (.astore 4, 2) := by decide +kernel
theorem dX7_spoilSheet_11 : decode cX7_spoilSheet 11 = .ok (.aload 4, 2) := by decide +kernel
theorem dX7_spoilSheet_13 : decode cX7_spoilSheet 13 = .ok (.ifnull 12, 3) := by decide +kernel
theorem dX7_spoilSheet_16 : decode cX7_spoilSheet 16 = .ok (.aload 4, 2) := by decide +kernel
theorem dX7_spoilSheet_18 : decode cX7_spoilSheet 18 = .ok (.iload_n 3, 1) := by decide +kernel
theorem dX7_spoilSheet_19 : decode cX7_spoilSheet 19 = .ok (.invokevirtual 126, 3) := by decide +kernel
theorem dX7_spoilSheet_22 : decode cX7_spoilSheet 22 = .ok (.ifCond .ne 5, 3) := by decide +kernel
theorem dX7_spoilSheet_25 : decode cX7_spoilSheet 25 = .ok (.iconst (-1), 1) := by decide +kernel
theorem dX7_spoilSheet_26 : decode cX7_spoilSheet 26 = .ok (.ireturn, 1) := by decide +kernel
theorem dX7_spoilSheet_27 : decode cX7_spoilSheet 27 = .ok (.aload_n 0, 1) := by decide +kernel
theorem dX7_spoilSheet_28 : decode cX7_spoilSheet 28 = .ok (.iload_n 1, 1) := by decide +kernel
theorem dX7_spoilSheet_29 : decode cX7_spoilSheet 29 = .ok (.aload 4, 2) := by decide +kernel
theorem dX7_spoilSheet_31 : decode cX7_spoilSheet 31 = .ok (.iload_n 3, 1) := by decide +kernel
theorem dX7_spoilSheet_32 : decode cX7_spoilSheet 32 = .ok (.invokevirtual 129, 3) := by decide +kernel
theorem dX7_spoilSheet_35 : decode cX7_spoilSheet 35 = .ok (.istore 5, 2) := by decide +kernel
theorem dX7_spoilSheet_37 : decode cX7_spoilSheet 37 = .ok (.iload_n 3, 1) := by decide +kernel
theorem dX7_spoilSheet_38 : decode cX7_spoilSheet 38 = .ok (.aload 4, 2) := by decide +kernel
theorem dX7_spoilSheet_40 : decode cX7_spoilSheet 40 = .ok (.getfield 86, 3) := by decide +kernel
theorem dX7_spoilSheet_43 : decode cX7_spoilSheet 43 = .ok (.if_icmp .ge 8, 3) := by decide +kernel
theorem dX7_spoilSheet_46 : decode cX7_spoilSheet 46 = .ok (.iload 5, 2) := by decide +kernel
theorem dX7_spoilSheet_48 : decode cX7_spoilSheet 48 = .ok (.ifCond .ne 6, 3) := by decide +kernel
theorem dX7_spoilSheet_51 : decode cX7_spoilSheet 51 = .ok (.bipush (-2), 2) := by decide +kernel
theorem dX7_spoilSheet_53 : decode cX7_spoilSheet 53 = .ok (.ireturn, 1) := by decide +kernel
theorem dX7_spoilSheet_54 : decode cX7_spoilSheet 54 = .ok (.aload_n 0, 1) := by decide +kernel
theorem dX7_spoilSheet_55 : decode cX7_spoilSheet 55 = .ok (.getfield 19, 3) := by decide +kernel
theorem dX7_spoilSheet_58 : decode cX7_spoilSheet 58 = .ok (.invokevirtual 112, 3) := by decide +kernel
theorem dX7_spoilSheet_61 : decode cX7_spoilSheet 61 = .ok (.iload 5, 2) := by decide +kernel
theorem dX7_spoilSheet_63 : decode cX7_spoilSheet 63 = .ok (.if_icmp .ge 6, 3) := by decide +kernel
theorem dX7_spoilSheet_66 : decode cX7_spoilSheet 66 = .ok (.bipush (-3), 2) := by decide +kernel
theorem dX7_spoilSheet_68 : decode cX7_spoilSheet 68 = .ok (.ireturn, 1) := by decide +kernel
theorem dX7_spoilSheet_69 : decode cX7_spoilSheet 69 = .ok (.iconst 0, 1) := by decide +kernel
theorem dX7_spoilSheet_70 : decode cX7_spoilSheet 70 = .ok (.istore 6, 2) := by decide +kernel
theorem dX7_spoilSheet_72 : decode cX7_spoilSheet 72 = .ok (.iload 6, 2) := by decide +kernel
theorem dX7_spoilSheet_74 : decode cX7_spoilSheet 74 = .ok (.aload 4, 2) := by decide +kernel
theorem dX7_spoilSheet_76 : decode cX7_spoilSheet 76 = .ok (.getfield 93, 3) := by decide +kernel
theorem dX7_spoilSheet_79 : decode cX7_spoilSheet 79 = .ok (.if_icmp .ge 42, 3) := by decide +kernel
theorem dX7_spoilSheet_82 : decode cX7_spoilSheet 82 = .ok (.aload 4, 2) := by decide +kernel
theorem dX7_spoilSheet_84 : decode cX7_spoilSheet 84 = .ok (.iload_n 3, 1) := by decide +kernel
theorem dX7_spoilSheet_85 : decode cX7_spoilSheet 85 = .ok (.iload 6, 2) := by decide +kernel
theorem dX7_spoilSheet_87 : decode cX7_spoilSheet 87 = .ok (.invokevirtual 133, 3) := by decide +kernel
theorem dX7_spoilSheet_90 : decode cX7_spoilSheet 90 = .ok (.istore 7, 2) := by decide +kernel
theorem dX7_spoilSheet_92 : decode cX7_spoilSheet 92 = .ok (.aload_n 0, 1) := by decide +kernel
theorem dX7_spoilSheet_93 : decode cX7_spoilSheet 93 = .ok (.getfield 19, 3) := by decide +kernel
theorem dX7_spoilSheet_96 : decode cX7_spoilSheet 96 = .ok (.iload_n 1, 1) := by decide +kernel
theorem dX7_spoilSheet_97 : decode cX7_spoilSheet 97 = .ok (.iload 7, 2) := by decide +kernel
theorem dX7_spoilSheet_99 : decode cX7_spoilSheet 99 = .ok (.invokevirtual 108, 3) := by decide +kernel
theorem dX7_spoilSheet_102 : decode cX7_spoilSheet 102 = .ok (.ifCond .ne 13, 3) := by decide +kernel
theorem dX7_spoilSheet_105 : decode cX7_spoilSheet 105 = .ok (.aload_n 0, 1) := by decide +kernel
theorem dX7_spoilSheet_106 : decode cX7_spoilSheet 106 = .ok (.getfield 19, 3) := by decide +kernel
theorem dX7_spoilSheet_109 : decode cX7_spoilSheet 109 = .ok (.iload_n 1, 1) := by decide +kernel
theorem dX7_spoilSheet_110 : decode cX7_spoilSheet 110 = .ok (.iload 7, 2) := by decide +kernel
theorem dX7_spoilSheet_112 : decode cX7_spoilSheet 112 = .ok (.invokevirtual 115, 3) := by decide +kernel
theorem dX7_spoilSheet_115 : decode cX7_spoilSheet 115 = .ok (.iinc 6 1, 3) := by decide +kernel
theorem dX7_spoilSheet_118 : decode cX7_spoilSheet 118 = .ok (.goto (-46), 3) := by decide +kernel
theorem dX7_spoilSheet_121 : decode cX7_spoilSheet 121 = .ok (.aload_n 0, 1) := by decide +kernel
theorem dX7_spoilSheet_122 : decode cX7_spoilSheet 122 = .ok (.getfield 26, 3) := by decide +kernel
theorem dX7_spoilSheet_125 : decode cX7_spoilSheet 125 = .ok (.iload 5, 2) := by decide +kernel
theorem dX7_spoilSheet_127 : decode cX7_spoilSheet 127 = .ok (.invokevirtual 119, 3) := by decide +kernel
theorem dX7_spoilSheet_130 : decode cX7_spoilSheet 130 = .ok (.iload 5, 2) := by decide +kernel
theorem dX7_spoilSheet_132 : decode cX7_spoilSheet 132 = .ok (.ireturn, 1) := by decide +kernel
theorem dX7_undo_0 : decode cX7_undo 0 = .ok (.aload_n 0, 1) := by decide +kernel
theorem dX7_undo_1 : decode cX7_undo 1 = .ok (.getfield 26, 3) := by decide +kernel
theorem dX7_undo_4 : decode cX7_undo 4 = .ok (.getfield 137, 3) := by decide +kernel
theorem dX7_undo_7 : decode cX7_undo 7 = .ok (.iconst 1, 1) := by decide +kernel
theorem dX7_undo_8 : decode cX7_undo 8 = .ok (.if_icmp .ge 6, 3) := by decide +kernel
theorem dX7_undo_11 : decode cX7_undo 11 = .ok (.bipush (-2), 2) := by decide +kernel
theorem dX7_undo_13 : decode cX7_undo 13 = .ok (.ireturn, 1) := by decide +kernel
theorem dX7_undo_14 : decode cX7_undo 14 = .ok (.aload_n 0, 1) := by decide +kernel
theorem dX7_undo_15 : decode cX7_undo 15 = .ok (.getfield 26, 3) := by decide +kernel
theorem dX7_undo_18 : decode cX7_undo 18 = .ok (.invokevirtual 140, 3) := by decide +kernel
theorem dX7_undo_21 : decode cX7_undo 21 = .ok (.astore_n 1, 1) := by decide +kernel
theorem dX7_undo_22 : decode cX7_undo 22 = .ok (.aload_n 0, 1) := by decide +kernel
theorem dX7_undo_23 : decode cX7_undo 23 = .ok (.getfield 26, 3) := by decide +kernel
theorem dX7_undo_26 : decode cX7_undo 26 = .ok (.invokevirtual 144, 3) := by decide +kernel
theorem dX7_undo_29 : decode cX7_undo 29 = .ok (.istore_n 2, 1) := by decide +kernel
theorem dX7_undo_30 : decode cX7_undo 30 = .ok (.aload_n 1, 1) := by decide +kernel
theorem dX7_undo_31 : decode cX7_undo 31 = .ok (.ifnonnull 14, 3) := by decide +kernel
theorem dX7_undo_34 : decode cX7_undo 34 = .ok (.aload_n 0, 1) := by decide +kernel
theorem dX7_undo_35 : decode cX7_undo 35 = .ok (.getfield 19, 3) := by decide +kernel
theorem dX7_undo_38 : decode cX7_undo 38 = .ok (.iload_n 2, 1) := by decide +kernel
theorem dX7_undo_39 : decode cX7_undo 39 = .ok (.invokevirtual 147, 3) := by decide +kernel
theorem dX7_undo_42 : decode cX7_undo 42 = .ok (.goto 13, 3) := by decide +kernel
theorem dX7_undo_45 : decode cX7_undo 45 = .ok (.aload_n 1, 1) := by decide +kernel
theorem dX7_undo_46 : decode cX7_undo 46 = .ok (.dup, 1) := by decide +kernel
theorem dX7_undo_47 : decode cX7_undo 47 = .ok (.getfield 86, 3) := by decide +kernel
theorem dX7_undo_50 : decode cX7_undo 50 = .ok (.iload_n 2, 1) := by decide +kernel
theorem dX7_undo_51 : decode cX7_undo 51 = .ok (.isub, 1) := by decide +kernel
theorem dX7_undo_52 : decode cX7_undo 52 = .ok (.putfield 86, 3) := by decide +kernel
theorem dX7_undo_55 : decode cX7_undo 55 = .ok (.aload_n 0, 1) := by decide +kernel
theorem dX7_undo_56 : decode cX7_undo 56 = .ok (.getfield 26, 3) := by decide +kernel
theorem dX7_undo_59 : decode cX7_undo 59 = .ok (.invokevirtual 150, 3) := by decide +kernel
theorem dX7_undo_62 : decode cX7_undo 62 = .ok (.aload_n 0, 1) := by decide +kernel
theorem dX7_undo_63 : decode cX7_undo 63 = .ok (.getfield 26, 3) := by decide +kernel
theorem dX7_undo_66 : decode cX7_undo 66 = .ok (.getfield 137, 3) := by decide +kernel
theorem dX7_undo_69 : decode cX7_undo 69 = .ok (.ireturn, 1) := by decide +kernel
theorem dX7_series_0 : decode cX7_series 0 = .ok (.aload_n 0, 1) := by decide +kernel
theorem dX7_series_1 : decode cX7_series 1 = .ok (.getfield 33, 3) := by decide +kernel
theorem dX7_series_4 : decode cX7_series 4 = .ok (.iload_n 1, 1) := by decide +kernel
theorem dX7_series_5 : decode cX7_series 5 = .ok (.invokevirtual 96, 3) := by decide +kernel
theorem dX7_series_8 : decode cX7_series 8 = .ok (.astore_n 3, 1) := by decide +kernel
theorem dX7_series_9 : decode cX7_series 9 = .ok (.aload_n 3, 1) := by decide +kernel
theorem dX7_series_10 : decode cX7_series 10 = .ok (.ifnonnull 5, 3) := by decide +kernel
theorem dX7_series_13 : decode cX7_series 13 = .ok (.iconst (-1), 1) := by decide +kernel
theorem dX7_series_14 : decode cX7_series 14 = .ok (.ireturn, 1) := by decide +kernel
theorem dX7_series_15 : decode cX7_series 15 = .ok (.iload_n 2, 1) := by decide +kernel
theorem dX7_series_16 : decode cX7_series 16 = .ok (.tableswitch 92 0 7 #[48, 53, 58, 63, 68, 77, 82, 87], 48) := by decide +kernel
theorem dX7_series_64 : decode cX7_series 64 = .ok (.aload_n 3, 1) := by decide +kernel
theorem dX7_series_65 : decode cX7_series 65 = .ok (.getfield 153, 3) := by decide +kernel
theorem dX7_series_68 : decode cX7_series 68 = .ok (.ireturn, 1) := by decide +kernel
theorem dX7_series_69 : decode cX7_series 69 = .ok (.aload_n 3, 1) := by decide +kernel
theorem dX7_series_70 : decode cX7_series 70 = .ok (.getfield 156, 3) := by decide +kernel
theorem dX7_series_73 : decode cX7_series 73 = .ok (.ireturn, 1) := by decide +kernel
theorem dX7_series_74 : decode cX7_series 74 = .ok (.aload_n 3, 1) := by decide +kernel
theorem dX7_series_75 : decode cX7_series 75 = .ok (.getfield 159, 3) := by decide +kernel
theorem dX7_series_78 : decode cX7_series 78 = .ok (.ireturn, 1) := by decide +kernel
theorem dX7_series_79 : decode cX7_series 79 = .ok (.aload_n 3, 1) := by decide +kernel
theorem dX7_series_80 : decode cX7_series 80 = .ok (.invokevirtual 162, 3) := by decide +kernel
theorem dX7_series_83 : decode cX7_series 83 = .ok (.ireturn, 1) := by decide +kernel
theorem dX7_series_84 : decode cX7_series 84 = .ok (.aload_n 0, 1) := by decide +kernel
theorem dX7_series_85 : decode cX7_series 85 = .ok (.getfield 19, 3) := by decide +kernel
theorem dX7_series_88 : decode cX7_series 88 = .ok (.iload_n 1, 1) := by decide +kernel
theorem dX7_series_89 : decode cX7_series 89 = .ok (.invokevirtual 165, 3) := by decide +kernel
theorem dX7_series_92 : decode cX7_series 92 = .ok (.ireturn, 1) := by decide +kernel
theorem dX7_series_93 : decode cX7_series 93 = .ok (.aload_n 3, 1) := by decide +kernel
theorem dX7_series_94 : decode cX7_series 94 = .ok (.invokevirtual 169, 3) := by decide +kernel
theorem dX7_series_97 : decode cX7_series 97 = .ok (.ireturn, 1) := by decide +kernel
theorem dX7_series_98 : decode cX7_series 98 = .ok (.aload_n 3, 1) := by decide +kernel
theorem dX7_series_99 : decode cX7_series 99 = .ok (.invokevirtual 170, 3) := by decide +kernel
theorem dX7_series_102 : decode cX7_series 102 = .ok (.ireturn, 1) := by decide +kernel
theorem dX7_series_103 : decode cX7_series 103 = .ok (.aload_n 3, 1) := by decide +kernel
theorem dX7_series_104 : decode cX7_series 104 = .ok (.invokevirtual 173, 3) := by decide +kernel
theorem dX7_series_107 : decode cX7_series 107 = .ok (.ireturn, 1) := by decide +kernel
theorem dX7_series_108 : decode cX7_series 108 = .ok (.iconst (-1), 1) := by decide +kernel
theorem dX7_series_109 : decode cX7_series 109 = .ok (.ireturn, 1) := by decide +kernel
theorem dX7_share_0 : decode cX7_share 0 = .ok (.aload_n 0, 1) := by decide +kernel
theorem dX7_share_1 : decode cX7_share 1 = .ok (.getfield 33, 3) := by decide +kernel
theorem dX7_share_4 : decode cX7_share 4 = .ok (.iload_n 1, 1) := by decide +kernel
theorem dX7_share_5 : decode cX7_share 5 = .ok (.iload_n 2, 1) := by decide +kernel
theorem dX7_share_6 : decode cX7_share 6 = .ok (.invokevirtual 77, 3) := by decide +kernel
theorem dX7_share_9 : decode cX7_share 9 = .ok (.astore 4, 2) := by decide +kernel
theorem dX7_share_11 : decode cX7_share 11 = .ok (.aload 4, 2) := by decide +kernel
theorem dX7_share_13 : decode cX7_share 13 = .ok (.ifnonnull 5, 3) := by decide +kernel
theorem dX7_share_16 : decode cX7_share 16 = .ok (.iconst (-1), 1) := by decide +kernel
theorem dX7_share_17 : decode cX7_share 17 = .ok (.ireturn, 1) := by decide +kernel
theorem dX7_share_18 : decode cX7_share 18 = .ok (.iload_n 3, 1) := by decide +kernel
theorem dX7_share_19 : decode cX7_share 19 = .ok (.tableswitch 53 0 3 #[29, 35, 41, 47], 29) := by decide +kernel
theorem dX7_share_48 : decode cX7_share 48 = .ok (.aload 4, 2) := by decide +kernel
theorem dX7_share_50 : decode cX7_share 50 = .ok (.getfield 176, 3) := by decide +kernel
theorem dX7_share_53 : decode cX7_share 53 = .ok (.ireturn, 1) := by decide +kernel
theorem dX7_share_54 : decode cX7_share 54 = .ok (.aload 4, 2) := by decide +kernel
theorem dX7_share_56 : decode cX7_share 56 = .ok (.getfield 86, 3) := by decide +kernel
theorem dX7_share_59 : decode cX7_share 59 = .ok (.ireturn, 1) := by decide +kernel
theorem dX7_share_60 : decode cX7_share 60 = .ok (.aload 4, 2) := by decide +kernel
theorem dX7_share_62 : decode cX7_share 62 = .ok (.getfield 179, 3) := by decide +kernel
theorem dX7_share_65 : decode cX7_share 65 = .ok (.ireturn, 1) := by decide +kernel
theorem dX7_share_66 : decode cX7_share 66 = .ok (.aload 4, 2) := by decide +kernel
theorem dX7_share_68 : decode cX7_share 68 = .ok (.getfield 93, 3) := by decide +kernel
theorem dX7_share_71 : decode cX7_share 71 = .ok (.ireturn, 1) := by decide +kernel
theorem dX7_share_72 : decode cX7_share 72 = .ok (.iconst (-1), 1) := by decide +kernel
theorem dX7_share_73 : decode cX7_share 73 = .ok (.ireturn, 1) := by decide +kernel
theorem dX7_where_0 : decode cX7_where 0 = .ok (.aload_n 0, 1) := by decide +kernel
theorem dX7_where_1 : decode cX7_where 1 = .ok (.getfield 33, 3) := by decide +kernel
theorem dX7_where_4 : decode cX7_where 4 = .ok (.iload_n 1, 1) := by decide +kernel
theorem dX7_where_5 : decode cX7_where 5 = .ok (.invokevirtual 96, 3) := by decide +kernel
theorem dX7_where_8 : decode cX7_where 8 = .ok (.astore 4, 2) := by decide +kernel
theorem dX7_where_10 : decode cX7_where 10 = .ok (.aload 4, 2) := by decide +kernel
theorem dX7_where_12 : decode cX7_where 12 = .ok (.ifnonnull 5, 3) := by decide +kernel
theorem dX7_where_15 : decode cX7_where 15 = .ok (.iconst (-1), 1) := by decide +kernel
theorem dX7_where_16 : decode cX7_where 16 = .ok (.ireturn, 1) := by decide +kernel
theorem dX7_where_17 : decode cX7_where 17 = .ok (.aload 4, 2) := by decide +kernel
theorem dX7_where_19 : decode cX7_where 19 = .ok (.iload_n 2, 1) := by decide +kernel
theorem dX7_where_20 : decode cX7_where 20 = .ok (.invokevirtual 182, 3) := by decide +kernel
theorem dX7_where_23 : decode cX7_where 23 = .ok (.istore 5, 2) := by decide +kernel
theorem dX7_where_25 : decode cX7_where 25 = .ok (.aload 4, 2) := by decide +kernel
theorem dX7_where_27 : decode cX7_where 27 = .ok (.iload 5, 2) := by decide +kernel
theorem dX7_where_29 : decode cX7_where 29 = .ok (.invokevirtual 185, 3) := by decide +kernel
theorem dX7_where_32 : decode cX7_where 32 = .ok (.astore 6, 2) := by decide +kernel
theorem dX7_where_34 : decode cX7_where 34 = .ok (.aload 6, 2) := by decide +kernel
theorem dX7_where_36 : decode cX7_where 36 = .ok (.ifnonnull 5, 3) := by decide +kernel
theorem dX7_where_39 : decode cX7_where 39 = .ok (.iconst (-1), 1) := by decide +kernel
theorem dX7_where_40 : decode cX7_where 40 = .ok (.ireturn, 1) := by decide +kernel
theorem dX7_where_41 : decode cX7_where 41 = .ok (.iload_n 3, 1) := by decide +kernel
theorem dX7_where_42 : decode cX7_where 42 = .ok (.tableswitch 43 0 2 #[26, 29, 36], 26) := by decide +kernel
theorem dX7_where_68 : decode cX7_where 68 = .ok (.iload 5, 2) := by decide +kernel
theorem dX7_where_70 : decode cX7_where 70 = .ok (.ireturn, 1) := by decide +kernel
theorem dX7_where_71 : decode cX7_where 71 = .ok (.aload 6, 2) := by decide +kernel
theorem dX7_where_73 : decode cX7_where 73 = .ok (.iload_n 2, 1) := by decide +kernel
theorem dX7_where_74 : decode cX7_where 74 = .ok (.invokevirtual 188, 3) := by decide +kernel
theorem dX7_where_77 : decode cX7_where 77 = .ok (.ireturn, 1) := by decide +kernel
theorem dX7_where_78 : decode cX7_where 78 = .ok (.aload 6, 2) := by decide +kernel
theorem dX7_where_80 : decode cX7_where 80 = .ok (.iload_n 2, 1) := by decide +kernel
theorem dX7_where_81 : decode cX7_where 81 = .ok (.invokevirtual 191, 3) := by decide +kernel
theorem dX7_where_84 : decode cX7_where 84 = .ok (.ireturn, 1) := by decide +kernel
theorem dX7_where_85 : decode cX7_where 85 = .ok (.iconst (-1), 1) := by decide +kernel
theorem dX7_where_86 : decode cX7_where 86 = .ok (.ireturn, 1) := by decide +kernel
theorem dX7_number_0 : decode cX7_number 0 = .ok (.aload_n 0, 1) := by decide +kernel
theorem dX7_number_1 : decode cX7_number 1 = .ok (.getfield 33, 3) := by decide +kernel
theorem dX7_number_4 : decode cX7_number 4 = .ok (.iload_n 1, 1) := by decide +kernel
theorem dX7_number_5 : decode cX7_number 5 = .ok (.iload_n 2, 1) := by decide +kernel
theorem dX7_number_6 : decode cX7_number 6 = .ok (.invokevirtual 77, 3) := by decide +kernel
theorem dX7_number_9 : decode cX7_number 9 = .ok (.astore 5, 2) := by decide +kernel
theorem dX7_number_11 : decode cX7_number 11 = .ok (.aload 5, 2) := by decide +kernel
theorem dX7_number_13 : decode cX7_number 13 = .ok (.ifnull 28, 3) := by decide +kernel
theorem dX7_number_16 : decode cX7_number 16 = .ok (.aload 5, 2) := by decide +kernel
theorem dX7_number_18 : decode cX7_number 18 = .ok (.iload_n 3, 1) := by decide +kernel
theorem dX7_number_19 : decode cX7_number 19 = .ok (.invokevirtual 126, 3) := by decide +kernel
theorem dX7_number_22 : decode cX7_number 22 = .ok (.ifCond .eq 19, 3) := by decide +kernel
theorem dX7_number_25 : decode cX7_number 25 = .ok (.iload 4, 2) := by decide +kernel
theorem dX7_number_27 : decode cX7_number 27 = .ok (.iconst 0, 1) := by decide +kernel
theorem dX7_number_28 : decode cX7_number 28 = .ok (.aload 5, 2) := by decide +kernel
theorem dX7_number_30 : decode cX7_number 30 = .ok (.getfield 93, 3) := by decide +kernel
theorem dX7_number_33 : decode cX7_number 33 = .ok (.iconst 1, 1) := by decide +kernel
theorem dX7_number_34 : decode cX7_number 34 = .ok (.isub, 1) := by decide +kernel
theorem dX7_number_35 : decode cX7_number 35 = .ok (.invokestatic 63, 3) := by decide +kernel
theorem dX7_number_38 : decode cX7_number 38 = .ok (.ifCond .ne 5, 3) := by decide +kernel
theorem dX7_number_41 : decode cX7_number 41 = .ok (.iconst (-1), 1) := by decide +kernel
theorem dX7_number_42 : decode cX7_number 42 = .ok (.ireturn, 1) := by decide +kernel
theorem dX7_number_43 : decode cX7_number 43 = .ok (.aload 5, 2) := by decide +kernel
theorem dX7_number_45 : decode cX7_number 45 = .ok (.iload_n 3, 1) := by decide +kernel
theorem dX7_number_46 : decode cX7_number 46 = .ok (.iload 4, 2) := by decide +kernel
theorem dX7_number_48 : decode cX7_number 48 = .ok (.invokevirtual 133, 3) := by decide +kernel
theorem dX7_number_51 : decode cX7_number 51 = .ok (.ireturn, 1) := by decide +kernel
theorem dX7_check_0 : decode cX7_check 0 = .ok (.aload_n 0, 1) := by decide +kernel
theorem dX7_check_1 : decode cX7_check 1 = .ok (.getfield 33, 3) := by decide +kernel
theorem dX7_check_4 : decode cX7_check 4 = .ok (.iload_n 1, 1) := by decide +kernel
theorem dX7_check_5 : decode cX7_check 5 = .ok (.invokevirtual 96, 3) := by decide +kernel
theorem dX7_check_8 : decode cX7_check 8 = .ok (.astore_n 3, 1) := by decide +kernel
theorem dX7_check_9 : decode cX7_check 9 = .ok (.aload_n 3, 1) := by decide +kernel
theorem dX7_check_10 : decode cX7_check 10 = .ok (.ifnull 14, 3) := by decide +kernel
theorem dX7_check_13 : decode cX7_check 13 = .ok (.iload_n 2, 1) := by decide +kernel
theorem dX7_check_14 : decode cX7_check 14 = .ok (.iconst 0, 1) := by decide +kernel
theorem dX7_check_15 : decode cX7_check 15 = .ok (.sipush 999, 3) := by decide +kernel
theorem dX7_check_18 : decode cX7_check 18 = .ok (.invokestatic 63, 3) := by decide +kernel
theorem dX7_check_21 : decode cX7_check 21 = .ok (.ifCond .ne 5, 3) := by decide +kernel
theorem dX7_check_24 : decode cX7_check 24 = .ok (.iconst (-1), 1) := by decide +kernel
theorem dX7_check_25 : decode cX7_check 25 = .ok (.ireturn, 1) := by decide +kernel
theorem dX7_check_26 : decode cX7_check 26 = .ok (.aload_n 3, 1) := by decide +kernel
theorem dX7_check_27 : decode cX7_check 27 = .ok (.getfield 156, 3) := by decide +kernel
theorem dX7_check_30 : decode cX7_check 30 = .ok (.aload_n 3, 1) := by decide +kernel
theorem dX7_check_31 : decode cX7_check 31 = .ok (.getfield 153, 3) := by decide +kernel
theorem dX7_check_34 : decode cX7_check 34 = .ok (.iload_n 2, 1) := by decide +kernel
theorem dX7_check_35 : decode cX7_check 35 = .ok (.invokestatic 194, 3) := by decide +kernel
theorem dX7_check_38 : decode cX7_check 38 = .ok (.ireturn, 1) := by decide +kernel
theorem dX7_missed_0 : decode cX7_missed 0 = .ok (.aload_n 0, 1) := by decide +kernel
theorem dX7_missed_1 : decode cX7_missed 1 = .ok (.getfield 33, 3) := by decide +kernel
theorem dX7_missed_4 : decode cX7_missed 4 = .ok (.iload_n 1, 1) := by decide +kernel
theorem dX7_missed_5 : decode cX7_missed 5 = .ok (.invokevirtual 96, 3) := by decide +kernel
theorem dX7_missed_8 : decode cX7_missed 8 = .ok (.astore 4, 2) := by decide +kernel
theorem dX7_missed_10 : decode cX7_missed 10 = .ok (.aload 4, 2) := by decide +kernel
theorem dX7_missed_12 : decode cX7_missed 12 = .ok (.ifnull 14, 3) := by decide +kernel
theorem dX7_missed_15 : decode cX7_missed 15 = .ok (.iload_n 2, 1) := by decide +kernel
theorem dX7_missed_16 : decode cX7_missed 16 = .ok (.iconst 0, 1) := by decide +kernel
theorem dX7_missed_17 : decode cX7_missed 17 = .ok (.sipush 999, 3) := by decide +kernel
theorem dX7_missed_20 : decode cX7_missed 20 = .ok (.invokestatic 63, 3) := by decide +kernel
theorem dX7_missed_23 : decode cX7_missed 23 = .ok (.ifCond .ne 5, 3) := by decide +kernel
theorem dX7_missed_26 : decode cX7_missed 26 = .ok (.iconst (-1), 1) := by decide +kernel
theorem dX7_missed_27 : decode cX7_missed 27 = .ok (.ireturn, 1) := by decide +kernel
theorem dX7_missed_28 : decode cX7_missed 28 = .ok (.iload_n 3, 1) := by decide +kernel
theorem dX7_missed_29 : decode cX7_missed 29 = .ok (.lookupswitch 57 #[(0, 27), (1, 42)], 27) := by decide +kernel
theorem dX7_missed_56 : decode cX7_missed 56 = .ok (.aload 4, 2) := by decide +kernel
theorem dX7_missed_58 : decode cX7_missed 58 = .ok (.getfield 156, 3) := by decide +kernel
theorem dX7_missed_61 : decode cX7_missed 61 = .ok (.aload 4, 2) := by decide +kernel
theorem dX7_missed_63 : decode cX7_missed 63 = .ok (.getfield 153, 3) := by decide +kernel
theorem dX7_missed_66 : decode cX7_missed 66 = .ok (.iload_n 2, 1) := by decide +kernel
theorem dX7_missed_67 : decode cX7_missed 67 = .ok (.invokestatic 200, 3) := by decide +kernel
theorem dX7_missed_70 : decode cX7_missed 70 = .ok (.ireturn, 1) := by decide +kernel
theorem dX7_missed_71 : decode cX7_missed 71 = .ok (.aload 4, 2) := by decide +kernel
theorem dX7_missed_73 : decode cX7_missed 73 = .ok (.getfield 156, 3) := by decide +kernel
theorem dX7_missed_76 : decode cX7_missed 76 = .ok (.aload 4, 2) := by decide +kernel
theorem dX7_missed_78 : decode cX7_missed 78 = .ok (.getfield 153, 3) := by decide +kernel
theorem dX7_missed_81 : decode cX7_missed 81 = .ok (.iload_n 2, 1) := by decide +kernel
theorem dX7_missed_82 : decode cX7_missed 82 = .ok (.invokestatic 203, 3) := by decide +kernel
theorem dX7_missed_85 : decode cX7_missed 85 = .ok (.ireturn, 1) := by decide +kernel
theorem dX7_missed_86 : decode cX7_missed 86 = .ok (.iconst (-1), 1) := by decide +kernel
theorem dX7_missed_87 : decode cX7_missed 87 = .ok (.ireturn, 1) := by decide +kernel
theorem dX7_note_0 : decode cX7_note 0 = .ok (.aload_n 0, 1) := by decide +kernel
theorem dX7_note_1 : decode cX7_note 1 = .ok (.getfield 33, 3) := by decide +kernel
theorem dX7_note_4 : decode cX7_note 4 = .ok (.iload_n 1, 1) := by decide +kernel
theorem dX7_note_5 : decode cX7_note 5 = .ok (.invokevirtual 96, 3) := by decide +kernel
theorem dX7_note_8 : decode cX7_note 8 = .ok (.astore_n 3, 1) := by decide +kernel
theorem dX7_note_9 : decode cX7_note 9 = .ok (.aload_n 3, 1) := by decide +kernel
theorem dX7_note_10 : decode cX7_note 10 = .ok (.ifnull 11, 3) := by decide +kernel
theorem dX7_note_13 : decode cX7_note 13 = .ok (.aload_n 3, 1) := by decide +kernel
theorem dX7_note_14 : decode cX7_note 14 = .ok (.iload_n 2, 1) := by decide +kernel
theorem dX7_note_15 : decode cX7_note 15 = .ok (.invokevirtual 100, 3) := by decide +kernel
theorem dX7_note_18 : decode cX7_note 18 = .ok (.ifCond .ne 5, 3) := by decide +kernel
theorem dX7_note_21 : decode cX7_note 21 = .ok (.iconst (-1), 1) := by decide +kernel
theorem dX7_note_22 : decode cX7_note 22 = .ok (.ireturn, 1) := by decide +kernel
theorem dX7_note_23 : decode cX7_note 23 = .ok (.aload_n 3, 1) := by decide +kernel
theorem dX7_note_24 : decode cX7_note 24 = .ok (.iload_n 2, 1) := by decide +kernel
theorem dX7_note_25 : decode cX7_note 25 = .ok (.invokevirtual 105, 3) := by decide +kernel
theorem dX7_note_28 : decode cX7_note 28 = .ok (.ifCond .ne 5, 3) := by decide +kernel
theorem dX7_note_31 : decode cX7_note 31 = .ok (.iconst 0, 1) := by decide +kernel
theorem dX7_note_32 : decode cX7_note 32 = .ok (.ireturn, 1) := by decide +kernel
theorem dX7_note_33 : decode cX7_note 33 = .ok (.aload_n 0, 1) := by decide +kernel
theorem dX7_note_34 : decode cX7_note 34 = .ok (.getfield 19, 3) := by decide +kernel
theorem dX7_note_37 : decode cX7_note 37 = .ok (.iload_n 1, 1) := by decide +kernel
theorem dX7_note_38 : decode cX7_note 38 = .ok (.iload_n 2, 1) := by decide +kernel
theorem dX7_note_39 : decode cX7_note 39 = .ok (.invokevirtual 108, 3) := by decide +kernel
theorem dX7_note_42 : decode cX7_note 42 = .ok (.ifCond .eq 7, 3) := by decide +kernel
theorem dX7_note_45 : decode cX7_note 45 = .ok (.iconst 2, 1) := by decide +kernel
theorem dX7_note_46 : decode cX7_note 46 = .ok (.goto 4, 3) := by decide +kernel
theorem dX7_note_49 : decode cX7_note 49 = .ok (.iconst 1, 1) := by decide +kernel
theorem dX7_note_50 : decode cX7_note 50 = .ok (.ireturn, 1) := by decide +kernel
theorem dX7_star_0 : decode cX7_star 0 = .ok (.iload_n 1, 1) := by decide +kernel
theorem dX7_star_1 : decode cX7_star 1 = .ok (.iconst 0, 1) := by decide +kernel
theorem dX7_star_2 : decode cX7_star 2 = .ok (.aload_n 0, 1) := by decide +kernel
theorem dX7_star_3 : decode cX7_star 3 = .ok (.getfield 19, 3) := by decide +kernel
theorem dX7_star_6 : decode cX7_star 6 = .ok (.getfield 206, 3) := by decide +kernel
theorem dX7_star_9 : decode cX7_star 9 = .ok (.iconst 1, 1) := by decide +kernel
theorem dX7_star_10 : decode cX7_star 10 = .ok (.isub, 1) := by decide +kernel
theorem dX7_star_11 : decode cX7_star 11 = .ok (.invokestatic 63, 3) := by decide +kernel
theorem dX7_star_14 : decode cX7_star 14 = .ok (.ifCond .ne 5, 3) := by decide +kernel
theorem dX7_star_17 : decode cX7_star 17 = .ok (.iconst (-1), 1) := by decide +kernel
theorem dX7_star_18 : decode cX7_star 18 = .ok (.ireturn, 1) := by decide +kernel
theorem dX7_star_19 : decode cX7_star 19 = .ok (.iload_n 2, 1) := by decide +kernel
theorem dX7_star_20 : decode cX7_star 20 = .ok (.tableswitch 51 0 2 #[28, 37, 46], 28) := by decide +kernel
theorem dX7_star_48 : decode cX7_star 48 = .ok (.aload_n 0, 1) := by decide +kernel
theorem dX7_star_49 : decode cX7_star 49 = .ok (.getfield 19, 3) := by decide +kernel
theorem dX7_star_52 : decode cX7_star 52 = .ok (.iload_n 1, 1) := by decide +kernel
theorem dX7_star_53 : decode cX7_star 53 = .ok (.invokevirtual 209, 3) := by decide +kernel
theorem dX7_star_56 : decode cX7_star 56 = .ok (.ireturn, 1) := by decide +kernel
theorem dX7_star_57 : decode cX7_star 57 = .ok (.aload_n 0, 1) := by decide +kernel
theorem dX7_star_58 : decode cX7_star 58 = .ok (.getfield 19, 3) := by decide +kernel
theorem dX7_star_61 : decode cX7_star 61 = .ok (.iload_n 1, 1) := by decide +kernel
theorem dX7_star_62 : decode cX7_star 62 = .ok (.invokevirtual 212, 3) := by decide +kernel
theorem dX7_star_65 : decode cX7_star 65 = .ok (.ireturn, 1) := by decide +kernel
theorem dX7_star_66 : decode cX7_star 66 = .ok (.iload_n 1, 1) := by decide +kernel
theorem dX7_star_67 : decode cX7_star 67 = .ok (.invokestatic 215, 3) := by decide +kernel
theorem dX7_star_70 : decode cX7_star 70 = .ok (.ireturn, 1) := by decide +kernel
theorem dX7_star_71 : decode cX7_star 71 = .ok (.iconst (-1), 1) := by decide +kernel
theorem dX7_star_72 : decode cX7_star 72 = .ok (.ireturn, 1) := by decide +kernel
theorem dX7_starOf_0 : decode cX7_starOf 0 = .ok (.aload_n 0, 1) := by decide +kernel
theorem dX7_starOf_1 : decode cX7_starOf 1 = .ok (.getfield 33, 3) := by decide +kernel
theorem dX7_starOf_4 : decode cX7_starOf 4 = .ok (.iload_n 1, 1) := by decide +kernel
theorem dX7_starOf_5 : decode cX7_starOf 5 = .ok (.invokevirtual 96, 3) := by decide +kernel
theorem dX7_starOf_8 : decode cX7_starOf 8 = .ok (.astore_n 3, 1) := by decide +kernel
theorem dX7_starOf_9 : decode cX7_starOf 9 = .ok (.aload_n 3, 1) := by decide +kernel
theorem dX7_starOf_10 : decode cX7_starOf 10 = .ok (.ifnull 11, 3) := by decide +kernel
theorem dX7_starOf_13 : decode cX7_starOf 13 = .ok (.aload_n 3, 1) := by decide +kernel
theorem dX7_starOf_14 : decode cX7_starOf 14 = .ok (.iload_n 2, 1) := by decide +kernel
theorem dX7_starOf_15 : decode cX7_starOf 15 = .ok (.invokevirtual 100, 3) := by decide +kernel
theorem dX7_starOf_18 : decode cX7_starOf 18 = .ok (.ifCond .ne 5, 3) := by decide +kernel
theorem dX7_starOf_21 : decode cX7_starOf 21 = .ok (.iconst (-1), 1) := by decide +kernel
theorem dX7_starOf_22 : decode cX7_starOf 22 = .ok (.ireturn, 1) := by decide +kernel
theorem dX7_starOf_23 : decode cX7_starOf 23 = .ok (.aload_n 0, 1) := by decide +kernel
theorem dX7_starOf_24 : decode cX7_starOf 24 = .ok (.getfield 19, 3) := by decide +kernel
theorem dX7_starOf_27 : decode cX7_starOf 27 = .ok (.iload_n 1, 1) := by decide +kernel
theorem dX7_starOf_28 : decode cX7_starOf 28 = .ok (.iload_n 2, 1) := by decide +kernel
theorem dX7_starOf_29 : decode cX7_starOf 29 = .ok (.invokevirtual 218, 3) := by decide +kernel
theorem dX7_starOf_32 : decode cX7_starOf 32 = .ok (.ireturn, 1) := by decide +kernel
theorem dX7_judge_0 : decode cX7_judge 0 = .ok (.iload_n 1, 1) := by decide +kernel
theorem dX7_judge_1 : decode cX7_judge 1 = .ok (.iconst 0, 1) := by decide +kernel
theorem dX7_judge_2 : decode cX7_judge 2 = .ok (.bipush 26, 2) := by decide +kernel
theorem dX7_judge_4 : decode cX7_judge 4 = .ok (.invokestatic 63, 3) := by decide +kernel
theorem dX7_judge_7 : decode cX7_judge 7 = .ok (.ifCond .eq 24, 3) := by decide +kernel
theorem dX7_judge_10 : decode cX7_judge 10 = .ok (.iload_n 2, 1) := by decide +kernel
theorem dX7_judge_11 : decode cX7_judge 11 = .ok (.iconst 0, 1) := by decide +kernel
theorem dX7_judge_12 : decode cX7_judge 12 = .ok (.sipush 999, 3) := by decide +kernel
theorem dX7_judge_15 : decode cX7_judge 15 = .ok (.invokestatic 63, 3) := by decide +kernel
theorem dX7_judge_18 : decode cX7_judge 18 = .ok (.ifCond .eq 13, 3) := by decide +kernel
theorem dX7_judge_21 : decode cX7_judge 21 = .ok (.iload_n 3, 1) := by decide +kernel
theorem dX7_judge_22 : decode cX7_judge 22 = .ok (.iconst 0, 1) := by decide +kernel
theorem dX7_judge_23 : decode cX7_judge 23 = .ok (.bipush 99, 2) := by decide +kernel
theorem dX7_judge_25 : decode cX7_judge 25 = .ok (.invokestatic 63, 3) := by decide +kernel
theorem dX7_judge_28 : decode cX7_judge 28 = .ok (.ifCond .ne 5, 3) := by decide +kernel
theorem dX7_judge_31 : decode cX7_judge 31 = .ok (.iconst (-1), 1) := by decide +kernel
theorem dX7_judge_32 : decode cX7_judge 32 = .ok (.ireturn, 1) := by decide +kernel
theorem dX7_judge_33 : decode cX7_judge 33 = .ok (.iload_n 1, 1) := by decide +kernel
theorem dX7_judge_34 : decode cX7_judge 34 = .ok (.ifCond .ne 12, 3) := by decide +kernel
theorem dX7_judge_37 : decode cX7_judge 37 = .ok (.aload_n 0, 1) := by decide +kernel
theorem dX7_judge_38 : decode cX7_judge 38 = .ok (.iload_n 2, 1) := by decide +kernel
theorem dX7_judge_39 : decode cX7_judge 39 = .ok (.iload_n 3, 1) := by decide +kernel
theorem dX7_judge_40 : decode cX7_judge 40 = .ok (.invokevirtual 221, 3) := by decide +kernel
theorem dX7_judge_43 : decode cX7_judge 43 = .ok (.goto 10, 3) := by decide +kernel
theorem dX7_judge_46 : decode cX7_judge 46 = .ok (.aload_n 0, 1) := by decide +kernel
theorem dX7_judge_47 : decode cX7_judge 47 = .ok (.iload_n 1, 1) := by decide +kernel
theorem dX7_judge_48 : decode cX7_judge 48 = .ok (.iload_n 2, 1) := by decide +kernel
theorem dX7_judge_49 : decode cX7_judge 49 = .ok (.iload_n 3, 1) := by decide +kernel
theorem dX7_judge_50 : decode cX7_judge 50 = .ok (.invokevirtual 224, 3) := by decide +kernel
theorem dX7_judge_53 : decode cX7_judge 53 = .ok (.ireturn, 1) := by decide +kernel
theorem dX7_pack_0 : decode cX7_pack 0 = .ok (.aload_n 0, 1) := by decide +kernel
theorem dX7_pack_1 : decode cX7_pack 1 = .ok (.getfield 33, 3) := by decide +kernel
theorem dX7_pack_4 : decode cX7_pack 4 = .ok (.iload_n 1, 1) := by decide +kernel
theorem dX7_pack_5 : decode cX7_pack 5 = .ok (.invokevirtual 96, 3) := by decide +kernel
theorem dX7_pack_8 : decode cX7_pack 8 = .ok (.astore 4, 2) := by decide +kernel
theorem dX7_pack_10 : decode cX7_pack 10 = .ok (.aload 4, 2) := by decide +kernel
theorem dX7_pack_12 : decode cX7_pack 12 = .ok (.ifnull 28, 3) := by decide +kernel
theorem dX7_pack_15 : decode cX7_pack 15 = .ok (.iload_n 2, 1) := by decide +kernel
theorem dX7_pack_16 : decode cX7_pack 16 = .ok (.iconst 0, 1) := by decide +kernel
theorem dX7_pack_17 : decode cX7_pack 17 = .ok (.aload 4, 2) := by decide +kernel
theorem dX7_pack_19 : decode cX7_pack 19 = .ok (.invokevirtual 170, 3) := by decide +kernel
theorem dX7_pack_22 : decode cX7_pack 22 = .ok (.iconst 1, 1) := by decide +kernel
theorem dX7_pack_23 : decode cX7_pack 23 = .ok (.isub, 1) := by decide +kernel
theorem dX7_pack_24 : decode cX7_pack 24 = .ok (.invokestatic 63, 3) := by decide +kernel
theorem dX7_pack_27 : decode cX7_pack 27 = .ok (.ifCond .eq 13, 3) := by decide +kernel
theorem dX7_pack_30 : decode cX7_pack 30 = .ok (.iload_n 3, 1) := by decide +kernel
theorem dX7_pack_31 : decode cX7_pack 31 = .ok (.iconst 0, 1) := by decide +kernel
theorem dX7_pack_32 : decode cX7_pack 32 = .ok (.bipush 9, 2) := by decide +kernel
theorem dX7_pack_34 : decode cX7_pack 34 = .ok (.invokestatic 63, 3) := by decide +kernel
theorem dX7_pack_37 : decode cX7_pack 37 = .ok (.ifCond .ne 5, 3) := by decide +kernel
theorem dX7_pack_40 : decode cX7_pack 40 = .ok (.iconst (-1), 1) := by decide +kernel
theorem dX7_pack_41 : decode cX7_pack 41 = .ok (.ireturn, 1) := by decide +kernel
theorem dX7_pack_42 : decode cX7_pack 42 = .ok (.aload 4, 2) := by decide +kernel
theorem dX7_pack_44 : decode cX7_pack 44 = .ok (.iload_n 2, 1) := by decide +kernel
theorem dX7_pack_45 : decode cX7_pack 45 = .ok (.invokevirtual 227, 3) := by decide +kernel
theorem dX7_pack_48 : decode cX7_pack 48 = .ok (.ifCond .ne 6, 3) := by decide +kernel
theorem dX7_pack_51 : decode cX7_pack 51 = .ok (.bipush (-2), 2) := by decide +kernel
theorem dX7_pack_53 : decode cX7_pack 53 = .ok (.ireturn, 1) := by decide +kernel
theorem dX7_pack_54 : decode cX7_pack 54 = .ok (.bipush 10, 2) := by decide +kernel
theorem dX7_pack_56 : decode cX7_pack 56 = .ok (.iload_n 2, 1) := by decide +kernel
theorem dX7_pack_57 : decode cX7_pack 57 = .ok (.imul, 1) := by decide +kernel
theorem dX7_pack_58 : decode cX7_pack 58 = .ok (.iload_n 3, 1) := by decide +kernel
theorem dX7_pack_59 : decode cX7_pack 59 = .ok (.iadd, 1) := by decide +kernel
theorem dX7_pack_60 : decode cX7_pack 60 = .ok (.istore 5, 2) := by decide +kernel
theorem dX7_pack_62 : decode cX7_pack 62 = .ok (.aload 4, 2) := by decide +kernel
theorem dX7_pack_64 : decode cX7_pack 64 = .ok (.iload 5, 2) := by decide +kernel
theorem dX7_pack_66 : decode cX7_pack 66 = .ok (.invokevirtual 100, 3) := by decide +kernel
theorem dX7_pack_69 : decode cX7_pack 69 = .ok (.ifCond .ne 6, 3) := by decide +kernel
theorem dX7_pack_72 : decode cX7_pack 72 = .ok (.bipush (-4), 2) := by decide +kernel
theorem dX7_pack_74 : decode cX7_pack 74 = .ok (.ireturn, 1) := by decide +kernel
theorem dX7_pack_75 : decode cX7_pack 75 = .ok (.aload_n 0, 1) := by decide +kernel
theorem dX7_pack_76 : decode cX7_pack 76 = .ok (.getfield 19, 3) := by decide +kernel
theorem dX7_pack_79 : decode cX7_pack 79 = .ok (.iload_n 1, 1) := by decide +kernel
theorem dX7_pack_80 : decode cX7_pack 80 = .ok (.iload 5, 2) := by decide +kernel
theorem dX7_pack_82 : decode cX7_pack 82 = .ok (.invokevirtual 218, 3) := by decide +kernel
theorem dX7_pack_85 : decode cX7_pack 85 = .ok (.istore 6, 2) := by decide +kernel
theorem dX7_pack_87 : decode cX7_pack 87 = .ok (.iload 6, 2) := by decide +kernel
theorem dX7_pack_89 : decode cX7_pack 89 = .ok (.bipush (-4), 2) := by decide +kernel
theorem dX7_pack_91 : decode cX7_pack 91 = .ok (.if_icmp .ne 8, 3) := by decide +kernel
theorem dX7_pack_94 : decode cX7_pack 94 = .ok (.iload 5, 2) := by decide +kernel
theorem dX7_pack_96 : decode cX7_pack 96 = .ok (.goto 9, 3) := by decide +kernel
theorem dX7_pack_99 : decode cX7_pack 99 = .ok (.sipush 1000, 3) := by decide +kernel
theorem dX7_pack_102 : decode cX7_pack 102 = .ok (.iload 6, 2) := by decide +kernel
theorem dX7_pack_104 : decode cX7_pack 104 = .ok (.iadd, 1) := by decide +kernel
theorem dX7_pack_105 : decode cX7_pack 105 = .ok (.ireturn, 1) := by decide +kernel
theorem dX7_count_0 : decode cX7_count 0 = .ok (.iload_n 1, 1) := by decide +kernel
theorem dX7_count_1 : decode cX7_count 1 = .ok (.tableswitch 135 0 9 #[55, 63, 71, 79, 87, 95, 103, 111, 119, 127], 55) := by decide +kernel
theorem dX7_count_56 : decode cX7_count 56 = .ok (.aload_n 0, 1) := by decide +kernel
theorem dX7_count_57 : decode cX7_count 57 = .ok (.getfield 33, 3) := by decide +kernel
theorem dX7_count_60 : decode cX7_count 60 = .ok (.getfield 230, 3) := by decide +kernel
theorem dX7_count_63 : decode cX7_count 63 = .ok (.ireturn, 1) := by decide +kernel
theorem dX7_count_64 : decode cX7_count 64 = .ok (.aload_n 0, 1) := by decide +kernel
theorem dX7_count_65 : decode cX7_count 65 = .ok (.getfield 33, 3) := by decide +kernel
theorem dX7_count_68 : decode cX7_count 68 = .ok (.getfield 74, 3) := by decide +kernel
theorem dX7_count_71 : decode cX7_count 71 = .ok (.ireturn, 1) := by decide +kernel
theorem dX7_count_72 : decode cX7_count 72 = .ok (.aload_n 0, 1) := by decide +kernel
theorem dX7_count_73 : decode cX7_count 73 = .ok (.getfield 19, 3) := by decide +kernel
theorem dX7_count_76 : decode cX7_count 76 = .ok (.getfield 206, 3) := by decide +kernel
theorem dX7_count_79 : decode cX7_count 79 = .ok (.ireturn, 1) := by decide +kernel
theorem dX7_count_80 : decode cX7_count 80 = .ok (.aload_n 0, 1) := by decide +kernel
theorem dX7_count_81 : decode cX7_count 81 = .ok (.getfield 19, 3) := by decide +kernel
theorem dX7_count_84 : decode cX7_count 84 = .ok (.getfield 123, 3) := by decide +kernel
theorem dX7_count_87 : decode cX7_count 87 = .ok (.ireturn, 1) := by decide +kernel
theorem dX7_count_88 : decode cX7_count 88 = .ok (.aload_n 0, 1) := by decide +kernel
theorem dX7_count_89 : decode cX7_count 89 = .ok (.getfield 33, 3) := by decide +kernel
theorem dX7_count_92 : decode cX7_count 92 = .ok (.invokevirtual 233, 3) := by decide +kernel
theorem dX7_count_95 : decode cX7_count 95 = .ok (.ireturn, 1) := by decide +kernel
theorem dX7_count_96 : decode cX7_count 96 = .ok (.aload_n 0, 1) := by decide +kernel
theorem dX7_count_97 : decode cX7_count 97 = .ok (.getfield 19, 3) := by decide +kernel
theorem dX7_count_100 : decode cX7_count 100 = .ok (.getfield 123, 3) := by decide +kernel
theorem dX7_count_103 : decode cX7_count 103 = .ok (.ireturn, 1) := by decide +kernel
theorem dX7_count_104 : decode cX7_count 104 = .ok (.aload_n 0, 1) := by decide +kernel
theorem dX7_count_105 : decode cX7_count 105 = .ok (.getfield 33, 3) := by decide +kernel
theorem dX7_count_108 : decode cX7_count 108 = .ok (.invokevirtual 234, 3) := by decide +kernel
theorem dX7_count_111 : decode cX7_count 111 = .ok (.ireturn, 1) := by decide +kernel
theorem dX7_count_112 : decode cX7_count 112 = .ok (.aload_n 0, 1) := by decide +kernel
theorem dX7_count_113 : decode cX7_count 113 = .ok (.getfield 33, 3) := by decide +kernel
theorem dX7_count_116 : decode cX7_count 116 = .ok (.invokevirtual 236, 3) := by decide +kernel
theorem dX7_count_119 : decode cX7_count 119 = .ok (.ireturn, 1) := by decide +kernel
theorem dX7_count_120 : decode cX7_count 120 = .ok (.aload_n 0, 1) := by decide +kernel
theorem dX7_count_121 : decode cX7_count 121 = .ok (.getfield 26, 3) := by decide +kernel
theorem dX7_count_124 : decode cX7_count 124 = .ok (.getfield 137, 3) := by decide +kernel
theorem dX7_count_127 : decode cX7_count 127 = .ok (.ireturn, 1) := by decide +kernel
theorem dX7_count_128 : decode cX7_count 128 = .ok (.aload_n 0, 1) := by decide +kernel
theorem dX7_count_129 : decode cX7_count 129 = .ok (.getfield 10, 3) := by decide +kernel
theorem dX7_count_132 : decode cX7_count 132 = .ok (.getfield 67, 3) := by decide +kernel
theorem dX7_count_135 : decode cX7_count 135 = .ok (.ireturn, 1) := by decide +kernel
theorem dX7_count_136 : decode cX7_count 136 = .ok (.iconst (-1), 1) := by decide +kernel
theorem dX7_count_137 : decode cX7_count 137 = .ok (.ireturn, 1) := by decide +kernel
theorem dX7_isFromTo_0 : decode cX7_isFromTo 0 = .ok (.iload_n 0, 1) := by decide +kernel
theorem dX7_isFromTo_1 : decode cX7_isFromTo 1 = .ok (.iload_n 1, 1) := by decide +kernel
theorem dX7_isFromTo_2 : decode cX7_isFromTo 2 = .ok (.if_icmp .lt 12, 3) := by decide +kernel
theorem dX7_isFromTo_5 : decode cX7_isFromTo 5 = .ok (.iload_n 0, 1) := by decide +kernel
theorem dX7_isFromTo_6 : decode cX7_isFromTo 6 = .ok (.iload_n 2, 1) := by decide +kernel
theorem dX7_isFromTo_7 : decode cX7_isFromTo 7 = .ok (.if_icmp .gt 7, 3) := by decide +kernel
theorem dX7_isFromTo_10 : decode cX7_isFromTo 10 = .ok (.iconst 1, 1) := by decide +kernel
theorem dX7_isFromTo_11 : decode cX7_isFromTo 11 = .ok (.goto 4, 3) := by decide +kernel
theorem dX7_isFromTo_14 : decode cX7_isFromTo 14 = .ok (.iconst 0, 1) := by decide +kernel
theorem dX7_isFromTo_15 : decode cX7_isFromTo 15 = .ok (.ireturn, 1) := by decide +kernel
theorem dX7_layText_0 : decode cX7_layText 0 = .ok (.aload_n 0, 1) := by decide +kernel
theorem dX7_layText_1 : decode cX7_layText 1 = .ok (.getfield 10, 3) := by decide +kernel
theorem dX7_layText_4 : decode cX7_layText 4 = .ok (.aload_n 0, 1) := by decide +kernel
theorem dX7_layText_5 : decode cX7_layText 5 = .ok (.getfield 37, 3) := by decide +kernel
theorem dX7_layText_8 : decode cX7_layText 8 = .ok (.invokevirtual 70, 3) := by decide +kernel
theorem dX7_layText_11 : decode cX7_layText 11 = .ok (.bipush (-4), 2) := by decide +kernel
theorem dX7_layText_13 : decode cX7_layText 13 = .ok (.if_icmp .ne 14, 3) := by decide +kernel
theorem dX7_layText_16 : decode cX7_layText 16 = .ok (.aload_n 0, 1) := by decide +kernel
theorem dX7_layText_17 : decode cX7_layText 17 = .ok (.getfield 37, 3) := by decide +kernel
theorem dX7_layText_20 : decode cX7_layText 20 = .ok (.getfield 74, 3) := by decide +kernel
theorem dX7_layText_23 : decode cX7_layText 23 = .ok (.iconst 1, 1) := by decide +kernel
theorem dX7_layText_24 : decode cX7_layText 24 = .ok (.if_icmp .ge 5, 3) := by decide +kernel
theorem dX7_layText_27 : decode cX7_layText 27 = .ok (.iconst 0, 1) := by decide +kernel
theorem dX7_layText_28 : decode cX7_layText 28 = .ok (.ireturn, 1) := by decide +kernel
theorem dX7_layText_29 : decode cX7_layText 29 = .ok (.aload_n 0, 1) := by decide +kernel
theorem dX7_layText_30 : decode cX7_layText 30 = .ok (.getfield 33, 3) := by decide +kernel
theorem dX7_layText_33 : decode cX7_layText 33 = .ok (.astore_n 1, 1) := by decide +kernel
theorem dX7_layText_34 : decode cX7_layText 34 = .ok (.aload_n 0, 1) := by decide +kernel
theorem dX7_layText_35 : decode cX7_layText 35 = .ok (.aload_n 0, 1) := by decide +kernel
theorem dX7_layText_36 : decode cX7_layText 36 = .ok (.getfield 37, 3) := by decide +kernel
theorem dX7_layText_39 : decode cX7_layText 39 = .ok (.putfield 33, 3) := by decide +kernel
theorem dX7_layText_42 : decode cX7_layText 42 = .ok (.aload_n 0, 1) := by decide +kernel
theorem dX7_layText_43 : decode cX7_layText 43 = .ok (.aload_n 1, 1) := by decide +kernel
theorem dX7_layText_44 : decode cX7_layText 44 = .ok (.putfield 37, 3) := by decide +kernel
theorem dX7_layText_47 : decode cX7_layText 47 = .ok (.aload_n 0, 1) := by decide +kernel
theorem dX7_layText_48 : decode cX7_layText 48 = .ok (.getfield 19, 3) := by decide +kernel
theorem dX7_layText_51 : decode cX7_layText 51 = .ok (.aload_n 0, 1) := by decide +kernel
theorem dX7_layText_52 : decode cX7_layText 52 = .ok (.getfield 33, 3) := by decide +kernel
theorem dX7_layText_55 : decode cX7_layText 55 = .ok (.getfield 237, 3) := by decide +kernel
theorem dX7_layText_58 : decode cX7_layText 58 = .ok (.invokevirtual 240, 3) := by decide +kernel
theorem dX7_layText_61 : decode cX7_layText 61 = .ok (.aload_n 0, 1) := by decide +kernel
theorem dX7_layText_62 : decode cX7_layText 62 = .ok (.getfield 26, 3) := by decide +kernel
theorem dX7_layText_65 : decode cX7_layText 65 = .ok (.invokevirtual 243, 3) := by decide +kernel
theorem dX7_layText_68 : decode cX7_layText 68 = .ok (.iconst 1, 1) := by decide +kernel
theorem dX7_layText_69 : decode cX7_layText 69 = .ok (.ireturn, 1) := by decide +kernel
theorem dX7_unspoiledOfSheet_0 : decode cX7_unspoiledOfSheet 0 = .ok (.iconst 0, 1) := by decide +kernel
theorem dX7_unspoiledOfSheet_1 : decode cX7_unspoiledOfSheet 1 = .ok (.istore 4, 2) := by decide +kernel
theorem dX7_unspoiledOfSheet_3 : decode cX7_unspoiledOfSheet 3 = .ok (.iconst 0, 1) := by decide +kernel
theorem dX7_unspoiledOfSheet_4 : decode cX7_unspoiledOfSheet 4 = .ok (.istore 5, 2) := by decide +kernel
theorem dX7_unspoiledOfSheet_6 : decode cX7_unspoiledOfSheet 6 = .ok (.iload 5, 2) := by decide +kernel
theorem dX7_unspoiledOfSheet_8 : decode cX7_unspoiledOfSheet 8 = .ok (.aload_n 2, 1) := by decide +kernel
theorem dX7_unspoiledOfSheet_9 : decode cX7_unspoiledOfSheet 9 = .ok (.getfield 93, 3) := by decide +kernel
theorem dX7_unspoiledOfSheet_12 : decode cX7_unspoiledOfSheet 12 = .ok (.if_icmp .ge 30, 3) := by decide +kernel
theorem dX7_unspoiledOfSheet_15 : decode cX7_unspoiledOfSheet 15 = .ok (.aload_n 0, 1) := by decide +kernel
theorem dX7_unspoiledOfSheet_16 : decode cX7_unspoiledOfSheet 16 = .ok (.getfield 19, 3) := by decide +kernel
theorem dX7_unspoiledOfSheet_19 : decode cX7_unspoiledOfSheet 19 = .ok (.iload_n 1, 1) := by decide +kernel
theorem dX7_unspoiledOfSheet_20 : decode cX7_unspoiledOfSheet 20 = .ok (.aload_n 2, 1) := by decide +kernel
theorem dX7_unspoiledOfSheet_21 : decode cX7_unspoiledOfSheet 21 = .ok (.iload_n 3, 1) := by decide +kernel
theorem dX7_unspoiledOfSheet_22 : decode cX7_unspoiledOfSheet 22 = .ok (.iload 5, 2) := by decide +kernel
theorem dX7_unspoiledOfSheet_24 : decode cX7_unspoiledOfSheet 24 = .ok (.invokevirtual 133, 3) := by decide +kernel
theorem dX7_unspoiledOfSheet_27 : decode cX7_unspoiledOfSheet 27 = .ok (.invokevirtual 108, 3) := by decide +kernel
theorem dX7_unspoiledOfSheet_30 : decode cX7_unspoiledOfSheet 30 = .ok (.ifCond .ne 6, 3) := by decide +kernel
theorem dX7_unspoiledOfSheet_33 : decode cX7_unspoiledOfSheet 33 = .ok (.iinc 4 1, 3) := by decide +kernel
theorem dX7_unspoiledOfSheet_36 : decode cX7_unspoiledOfSheet 36 = .ok (.iinc 5 1, 3) := by decide +kernel
theorem dX7_unspoiledOfSheet_39 : decode cX7_unspoiledOfSheet 39 = .ok (.goto (-33), 3) := by decide +kernel
theorem dX7_unspoiledOfSheet_42 : decode cX7_unspoiledOfSheet 42 = .ok (.iload 4, 2) := by decide +kernel
theorem dX7_unspoiledOfSheet_44 : decode cX7_unspoiledOfSheet 44 = .ok (.ireturn, 1) := by decide +kernel
theorem dX7_judgeStar_0 : decode cX7_judgeStar 0 = .ok (.iload_n 1, 1) := by decide +kernel
theorem dX7_judgeStar_1 : decode cX7_judgeStar 1 = .ok (.aload_n 0, 1) := by decide +kernel
theorem dX7_judgeStar_2 : decode cX7_judgeStar 2 = .ok (.getfield 19, 3) := by decide +kernel
theorem dX7_judgeStar_5 : decode cX7_judgeStar 5 = .ok (.getfield 206, 3) := by decide +kernel
theorem dX7_judgeStar_8 : decode cX7_judgeStar 8 = .ok (.if_icmp .lt 5, 3) := by decide +kernel
theorem dX7_judgeStar_11 : decode cX7_judgeStar 11 = .ok (.iconst 2, 1) := by decide +kernel
theorem dX7_judgeStar_12 : decode cX7_judgeStar 12 = .ok (.ireturn, 1) := by decide +kernel
theorem dX7_judgeStar_13 : decode cX7_judgeStar 13 = .ok (.iload_n 2, 1) := by decide +kernel
theorem dX7_judgeStar_14 : decode cX7_judgeStar 14 = .ok (.iload_n 1, 1) := by decide +kernel
theorem dX7_judgeStar_15 : decode cX7_judgeStar 15 = .ok (.invokestatic 215, 3) := by decide +kernel
theorem dX7_judgeStar_18 : decode cX7_judgeStar 18 = .ok (.if_icmp .eq 5, 3) := by decide +kernel
theorem dX7_judgeStar_21 : decode cX7_judgeStar 21 = .ok (.iconst 3, 1) := by decide +kernel
theorem dX7_judgeStar_22 : decode cX7_judgeStar 22 = .ok (.ireturn, 1) := by decide +kernel
theorem dX7_judgeStar_23 : decode cX7_judgeStar 23 = .ok (.iload_n 1, 1) := by decide +kernel
theorem dX7_judgeStar_24 : decode cX7_judgeStar 24 = .ok (.aload_n 0, 1) := by decide +kernel
theorem dX7_judgeStar_25 : decode cX7_judgeStar 25 = .ok (.getfield 19, 3) := by decide +kernel
theorem dX7_judgeStar_28 : decode cX7_judgeStar 28 = .ok (.getfield 123, 3) := by decide +kernel
theorem dX7_judgeStar_31 : decode cX7_judgeStar 31 = .ok (.if_icmp .lt 7, 3) := by decide +kernel
theorem dX7_judgeStar_34 : decode cX7_judgeStar 34 = .ok (.iconst 4, 1) := by decide +kernel
theorem dX7_judgeStar_35 : decode cX7_judgeStar 35 = .ok (.goto 4, 3) := by decide +kernel
theorem dX7_judgeStar_38 : decode cX7_judgeStar 38 = .ok (.iconst 0, 1) := by decide +kernel
theorem dX7_judgeStar_39 : decode cX7_judgeStar 39 = .ok (.ireturn, 1) := by decide +kernel
theorem dX7_judgeNote_0 : decode cX7_judgeNote 0 = .ok (.aload_n 0, 1) := by decide +kernel
theorem dX7_judgeNote_1 : decode cX7_judgeNote 1 = .ok (.getfield 33, 3) := by decide +kernel
theorem dX7_judgeNote_4 : decode cX7_judgeNote 4 = .ok (.iload_n 1, 1) := by decide +kernel
theorem dX7_judgeNote_5 : decode cX7_judgeNote 5 = .ok (.invokevirtual 244, 3) := by decide +kernel
theorem dX7_judgeNote_8 : decode cX7_judgeNote 8 = .ok (.istore 4, 2) := by decide +kernel
theorem dX7_judgeNote_10 : decode cX7_judgeNote 10 = .ok (.aload_n 0, 1) := by decide +kernel
theorem dX7_judgeNote_11 : decode cX7_judgeNote 11 = .ok (.getfield 33, 3) := by decide +kernel
theorem dX7_judgeNote_14 : decode cX7_judgeNote 14 = .ok (.iload 4, 2) := by decide +kernel
theorem dX7_judgeNote_16 : decode cX7_judgeNote 16 = .ok (.invokevirtual 96, 3) := by decide +kernel
theorem dX7_judgeNote_19 : decode cX7_judgeNote 19 = .ok (.astore 5, 2) := by decide +kernel
theorem dX7_judgeNote_21 : decode cX7_judgeNote 21 = .ok (.aload 5, 2) := by decide +kernel
theorem dX7_judgeNote_23 : decode cX7_judgeNote 23 = .ok (.ifnonnull 5, 3) := by decide +kernel
theorem dX7_judgeNote_26 : decode cX7_judgeNote 26 = .ok (.iconst 1, 1) := by decide +kernel
theorem dX7_judgeNote_27 : decode cX7_judgeNote 27 = .ok (.ireturn, 1) := by decide +kernel
theorem dX7_judgeNote_28 : decode cX7_judgeNote 28 = .ok (.aload 5, 2) := by decide +kernel
theorem dX7_judgeNote_30 : decode cX7_judgeNote 30 = .ok (.iload_n 2, 1) := by decide +kernel
theorem dX7_judgeNote_31 : decode cX7_judgeNote 31 = .ok (.invokevirtual 100, 3) := by decide +kernel
theorem dX7_judgeNote_34 : decode cX7_judgeNote 34 = .ok (.ifCond .ne 5, 3) := by decide +kernel
theorem dX7_judgeNote_37 : decode cX7_judgeNote 37 = .ok (.iconst 2, 1) := by decide +kernel
theorem dX7_judgeNote_38 : decode cX7_judgeNote 38 = .ok (.ireturn, 1) := by decide +kernel
theorem dX7_judgeNote_39 : decode cX7_judgeNote 39 = .ok (.iload_n 3, 1) := by decide +kernel
theorem dX7_judgeNote_40 : decode cX7_judgeNote 40 = .ok (.aload 5, 2) := by decide +kernel
theorem dX7_judgeNote_42 : decode cX7_judgeNote 42 = .ok (.getfield 156, 3) := by decide +kernel
theorem dX7_judgeNote_45 : decode cX7_judgeNote 45 = .ok (.aload 5, 2) := by decide +kernel
theorem dX7_judgeNote_47 : decode cX7_judgeNote 47 = .ok (.getfield 153, 3) := by decide +kernel
theorem dX7_judgeNote_50 : decode cX7_judgeNote 50 = .ok (.iload_n 2, 1) := by decide +kernel
theorem dX7_judgeNote_51 : decode cX7_judgeNote 51 = .ok (.invokestatic 194, 3) := by decide +kernel
theorem dX7_judgeNote_54 : decode cX7_judgeNote 54 = .ok (.if_icmp .eq 5, 3) := by decide +kernel
theorem dX7_judgeNote_57 : decode cX7_judgeNote 57 = .ok (.iconst 3, 1) := by decide +kernel
theorem dX7_judgeNote_58 : decode cX7_judgeNote 58 = .ok (.ireturn, 1) := by decide +kernel
theorem dX7_judgeNote_59 : decode cX7_judgeNote 59 = .ok (.aload 5, 2) := by decide +kernel
theorem dX7_judgeNote_61 : decode cX7_judgeNote 61 = .ok (.iload_n 2, 1) := by decide +kernel
theorem dX7_judgeNote_62 : decode cX7_judgeNote 62 = .ok (.invokevirtual 105, 3) := by decide +kernel
theorem dX7_judgeNote_65 : decode cX7_judgeNote 65 = .ok (.ifCond .ne 5, 3) := by decide +kernel
theorem dX7_judgeNote_68 : decode cX7_judgeNote 68 = .ok (.iconst 4, 1) := by decide +kernel
theorem dX7_judgeNote_69 : decode cX7_judgeNote 69 = .ok (.ireturn, 1) := by decide +kernel
theorem dX7_judgeNote_70 : decode cX7_judgeNote 70 = .ok (.aload_n 0, 1) := by decide +kernel
theorem dX7_judgeNote_71 : decode cX7_judgeNote 71 = .ok (.getfield 19, 3) := by decide +kernel
theorem dX7_judgeNote_74 : decode cX7_judgeNote 74 = .ok (.iload 4, 2) := by decide +kernel
theorem dX7_judgeNote_76 : decode cX7_judgeNote 76 = .ok (.iload_n 2, 1) := by decide +kernel
theorem dX7_judgeNote_77 : decode cX7_judgeNote 77 = .ok (.invokevirtual 108, 3) := by decide +kernel
theorem dX7_judgeNote_80 : decode cX7_judgeNote 80 = .ok (.ifCond .eq 7, 3) := by decide +kernel
theorem dX7_judgeNote_83 : decode cX7_judgeNote 83 = .ok (.iconst 5, 1) := by decide +kernel
theorem dX7_judgeNote_84 : decode cX7_judgeNote 84 = .ok (.goto 4, 3) := by decide +kernel
theorem dX7_judgeNote_87 : decode cX7_judgeNote 87 = .ok (.iconst 0, 1) := by decide +kernel
theorem dX7_judgeNote_88 : decode cX7_judgeNote 88 = .ok (.ireturn, 1) := by decide +kernel
end
section
theorem dX8_init_0 : decode cX8_init 0 = .ok (.aload_n 0, 1) := by decide +kernel
theorem dX8_init_1 : decode cX8_init 1 = .ok (.invokespecial 1, 3) := by decide +kernel
theorem dX8_init_4 : decode cX8_init 4 = .ok (.aload_n 0, 1) := by decide +kernel
theorem dX8_init_5 : decode cX8_init 5 = .ok (.sipush 200, 3) := by decide +kernel
theorem dX8_init_8 : decode cX8_init 8 = .ok (.newarray .int, 2) := by decide +kernel
theorem dX8_init_10 : decode cX8_init 10 = .ok (.putfield 7, 3) := by decide +kernel
theorem dX8_init_13 : decode cX8_init 13 = .ok (.aload_n 0, 1) := by decide +kernel
theorem dX8_init_14 : decode cX8_init 14 = .ok (.bipush 25, 2) := by decide +kernel
theorem dX8_init_16 : decode cX8_init 16 = .ok (.newarray .int, 2) := by decide +kernel
theorem dX8_init_18 : decode cX8_init 18 = .ok (.putfield 13, 3) := by decide +kernel
theorem dX8_init_21 : decode cX8_init 21 = .ok (.aload_n 0, 1) := by decide +kernel
theorem dX8_init_22 : decode cX8_init 22 = .ok (.bipush 25, 2) := by decide +kernel
theorem dX8_init_24 : decode cX8_init 24 = .ok (.newarray .int, 2) := by decide +kernel
theorem dX8_init_26 : decode cX8_init 26 = .ok (.putfield 16, 3) := by decide +kernel
theorem dX8_init_29 : decode cX8_init 29 = .ok (.aload_n 0, 1) := by decide +kernel
theorem dX8_init_30 : decode cX8_init 30 = .ok (.bipush 112, 2) := by decide +kernel
theorem dX8_init_32 : decode cX8_init 32 = .ok (.newarray .int, 2) := by decide +kernel
theorem dX8_init_34 : decode cX8_init 34 = .ok (.putfield 19, 3) := by decide +kernel
theorem dX8_init_37 : decode cX8_init 37 = .ok (.aload_n 0, 1) := by decide +kernel
theorem dX8_init_38 : decode cX8_init 38 = .ok (.sipush 672, 3) := by decide +kernel
theorem dX8_init_41 : decode cX8_init 41 = .ok (.newarray .int, 2) := by decide +kernel
theorem dX8_init_43 : decode cX8_init 43 = .ok (.putfield 22, 3) := by decide +kernel
theorem dX8_init_46 : decode cX8_init 46 = .ok (.aload_n 0, 1) := by decide +kernel
theorem dX8_init_47 : decode cX8_init 47 = .ok (.getfield 13, 3) := by decide +kernel
theorem dX8_init_50 : decode cX8_init 50 = .ok (.iconst 0, 1) := by decide +kernel
theorem dX8_init_51 : decode cX8_init 51 = .ok (.iconst 4, 1) := by decide +kernel
theorem dX8_init_52 : decode cX8_init 52 = .ok (.iastore, 1) := by decide +kernel
theorem dX8_init_53 : decode cX8_init 53 = .ok (.aload_n 0, 1) := by decide +kernel
theorem dX8_init_54 : decode cX8_init 54 = .ok (.getfield 13, 3) := by decide +kernel
theorem dX8_init_57 : decode cX8_init 57 = .ok (.iconst 1, 1) := by decide +kernel
theorem dX8_init_58 : decode cX8_init 58 = .ok (.iconst 2, 1) := by decide +kernel
theorem dX8_init_59 : decode cX8_init 59 = .ok (.iastore, 1) := by decide +kernel
theorem dX8_init_60 : decode cX8_init 60 = .ok (.aload_n 0, 1) := by decide +kernel
theorem dX8_init_61 : decode cX8_init 61 = .ok (.iconst 1, 1) := by decide +kernel
theorem dX8_init_62 : decode cX8_init 62 = .ok (.iconst 0, 1) := by decide +kernel
theorem dX8_init_63 : decode cX8_init 63 = .ok (.bipush 10, 2) := by decide +kernel
theorem dX8_init_65 : decode cX8_init 65 = .ok (.iconst 5, 1) := by decide +kernel
theorem dX8_init_66 : decode cX8_init 66 = .ok (.invokevirtual 25, 3) := by decide +kernel
theorem dX8_init_69 : decode cX8_init 69 = .ok (.aload_n 0, 1) := by decide +kernel
theorem dX8_init_70 : decode cX8_init 70 = .ok (.iconst 3, 1) := by decide +kernel
theorem dX8_init_71 : decode cX8_init 71 = .ok (.iconst 1, 1) := by decide +kernel
theorem dX8_init_72 : decode cX8_init 72 = .ok (.iconst 3, 1) := by decide +kernel
theorem dX8_init_73 : decode cX8_init 73 = .ok (.bipush 9, 2) := by decide +kernel
theorem dX8_init_75 : decode cX8_init 75 = .ok (.invokevirtual 25, 3) := by decide +kernel
theorem dX8_init_78 : decode cX8_init 78 = .ok (.aload_n 0, 1) := by decide +kernel
theorem dX8_init_79 : decode cX8_init 79 = .ok (.iconst 5, 1) := by decide +kernel
theorem dX8_init_80 : decode cX8_init 80 = .ok (.iconst 2, 1) := by decide +kernel
theorem dX8_init_81 : decode cX8_init 81 = .ok (.bipush 6, 2) := by decide +kernel
theorem dX8_init_83 : decode cX8_init 83 = .ok (.iconst 0, 1) := by decide +kernel
theorem dX8_init_84 : decode cX8_init 84 = .ok (.invokevirtual 25, 3) := by decide +kernel
theorem dX8_init_87 : decode cX8_init 87 = .ok (.aload_n 0, 1) := by decide +kernel
theorem dX8_init_88 : decode cX8_init 88 = .ok (.getfield 13, 3) := by decide +kernel
theorem dX8_init_91 : decode cX8_init 91 = .ok (.bipush 22, 2) := by decide +kernel
theorem dX8_init_93 : decode cX8_init 93 = .ok (.iconst 2, 1) := by decide +kernel
theorem dX8_init_94 : decode cX8_init 94 = .ok (.iastore, 1) := by decide +kernel
theorem dX8_init_95 : decode cX8_init 95 = .ok (.aload_n 0, 1) := by decide +kernel
theorem dX8_init_96 : decode cX8_init 96 = .ok (.getfield 13, 3) := by decide +kernel
theorem dX8_init_99 : decode cX8_init 99 = .ok (.bipush 24, 2) := by decide +kernel
theorem dX8_init_101 : decode cX8_init 101 = .ok (.bipush 12, 2) := by decide +kernel
theorem dX8_init_103 : decode cX8_init 103 = .ok (.iastore, 1) := by decide +kernel
theorem dX8_init_104 : decode cX8_init 104 = .ok (.return_, 1) := by decide +kernel
theorem dX8_adds_0 : decode cX8_adds 0 = .ok (.iconst 4, 1) := by decide +kernel
theorem dX8_adds_1 : decode cX8_adds 1 = .ok (.bipush 6, 2) := by decide +kernel
theorem dX8_adds_3 : decode cX8_adds 3 = .ok (.aload_n 0, 1) := by decide +kernel
theorem dX8_adds_4 : decode cX8_adds 4 = .ok (.getfield 13, 3) := by decide +kernel
theorem dX8_adds_7 : decode cX8_adds 7 = .ok (.bipush 23, 2) := by decide +kernel
theorem dX8_adds_9 : decode cX8_adds 9 = .ok (.iaload, 1) := by decide +kernel
theorem dX8_adds_10 : decode cX8_adds 10 = .ok (.imul, 1) := by decide +kernel
theorem dX8_adds_11 : decode cX8_adds 11 = .ok (.iadd, 1) := by decide +kernel
theorem dX8_adds_12 : decode cX8_adds 12 = .ok (.istore 5, 2) := by decide +kernel
theorem dX8_adds_14 : decode cX8_adds 14 = .ok (.aload_n 0, 1) := by decide +kernel
theorem dX8_adds_15 : decode cX8_adds 15 = .ok (.getfield 13, 3) := by decide +kernel
theorem dX8_adds_18 : decode cX8_adds 18 = .ok (.iload 5, 2) := by decide +kernel
theorem dX8_adds_20 : decode cX8_adds 20 = .ok (.iload_n 1, 1) := by decide +kernel
theorem dX8_adds_21 : decode cX8_adds 21 = .ok (.iastore, 1) := by decide +kernel
theorem dX8_adds_22 : decode cX8_adds 22 = .ok (.aload_n 0, 1) := by decide +kernel
theorem dX8_adds_23 : decode cX8_adds 23 = .ok (.getfield 13, 3) := by decide +kernel
theorem dX8_adds_26 : decode cX8_adds 26 = .ok (.iload 5, 2) := by decide +kernel
theorem dX8_adds_28 : decode cX8_adds 28 = .ok (.iconst 1, 1) := by decide +kernel
theorem dX8_adds_29 : decode cX8_adds 29 = .ok (.iadd, 1) := by decide +kernel
theorem dX8_adds_30 : decode cX8_adds 30 = .ok (.iload_n 2, 1) := by decide +kernel
theorem dX8_adds_31 : decode cX8_adds 31 = .ok (.iastore, 1) := by decide +kernel
theorem dX8_adds_32 : decode cX8_adds 32 = .ok (.aload_n 0, 1) := by decide +kernel
theorem dX8_adds_33 : decode cX8_adds 33 = .ok (.getfield 13, 3) := by decide +kernel
theorem dX8_adds_36 : decode cX8_adds 36 = .ok (.iload 5, 2) := by decide +kernel
theorem dX8_adds_38 : decode cX8_adds 38 = .ok (.iconst 2, 1) := by decide +kernel
theorem dX8_adds_39 : decode cX8_adds 39 = .ok (.iadd, 1) := by decide +kernel
theorem dX8_adds_40 : decode cX8_adds 40 = .ok (.iload_n 3, 1) := by decide +kernel
theorem dX8_adds_41 : decode cX8_adds 41 = .ok (.iastore, 1) := by decide +kernel
theorem dX8_adds_42 : decode cX8_adds 42 = .ok (.aload_n 0, 1) := by decide +kernel
theorem dX8_adds_43 : decode cX8_adds 43 = .ok (.getfield 13, 3) := by decide +kernel
theorem dX8_adds_46 : decode cX8_adds 46 = .ok (.iload 5, 2) := by decide +kernel
theorem dX8_adds_48 : decode cX8_adds 48 = .ok (.iconst 3, 1) := by decide +kernel
theorem dX8_adds_49 : decode cX8_adds 49 = .ok (.iadd, 1) := by decide +kernel
theorem dX8_adds_50 : decode cX8_adds 50 = .ok (.iload 4, 2) := by decide +kernel
theorem dX8_adds_52 : decode cX8_adds 52 = .ok (.iastore, 1) := by decide +kernel
theorem dX8_adds_53 : decode cX8_adds 53 = .ok (.aload_n 0, 1) := by decide +kernel
theorem dX8_adds_54 : decode cX8_adds 54 = .ok (.getfield 13, 3) := by decide +kernel
theorem dX8_adds_57 : decode cX8_adds 57 = .ok (.bipush 23, 2) := by decide +kernel
theorem dX8_adds_59 : decode cX8_adds 59 = .ok (.dup2, 1) := by decide +kernel
theorem dX8_adds_60 : decode cX8_adds 60 = .ok (.iaload, 1) := by decide +kernel
theorem dX8_adds_61 : decode cX8_adds 61 = .ok (.iconst 1, 1) := by decide +kernel
theorem dX8_adds_62 : decode cX8_adds 62 = .ok (.iadd, 1) := by decide +kernel
theorem dX8_adds_63 : decode cX8_adds 63 = .ok (.iastore, 1) := by decide +kernel
theorem dX8_adds_64 : decode cX8_adds 64 = .ok (.return_, 1) := by decide +kernel
theorem dX8_in_0 : decode cX8_in 0 = .ok (.lload_n 0, 1) := by decide +kernel
theorem dX8_in_1 : decode cX8_in 1 = .ok (.lload_n 2, 1) := by decide +kernel
theorem dX8_in_2 : decode cX8_in 2 = .ok (.lcmp, 1) := by decide +kernel
theorem dX8_in_3 : decode cX8_in 3 = .ok (.ifCond .lt 14, 3) := by decide +kernel
theorem dX8_in_6 : decode cX8_in 6 = .ok (.lload_n 0, 1) := by decide +kernel
theorem dX8_in_7 : decode cX8_in 7 = .ok (.lload 4, 2) := by decide +kernel
theorem dX8_in_9 : decode cX8_in 9 = .ok (.lcmp, 1) := by decide +kernel
theorem dX8_in_10 : decode cX8_in 10 = .ok (.ifCond .gt 7, 3) := by decide +kernel
theorem dX8_in_13 : decode cX8_in 13 = .ok (.iconst 1, 1) := by decide +kernel
theorem dX8_in_14 : decode cX8_in 14 = .ok (.goto 4, 3) := by decide +kernel
theorem dX8_in_17 : decode cX8_in 17 = .ok (.iconst 0, 1) := by decide +kernel
theorem dX8_in_18 : decode cX8_in 18 = .ok (.ireturn, 1) := by decide +kernel
theorem dX8_write_0 : decode cX8_write 0 = .ok (.iload_n 1, 1) := by decide +kernel
theorem dX8_write_1 : decode cX8_write 1 = .ok (.i2l, 1) := by decide +kernel
theorem dX8_write_2 : decode cX8_write 2 = .ok (.ldc2_w 29, 3) := by decide +kernel
theorem dX8_write_5 : decode cX8_write 5 = .ok (.ldc2_w 31, 3) := by decide +kernel
theorem dX8_write_8 : decode cX8_write 8 = .ok (.invokestatic 33, 3) := by decide +kernel
theorem dX8_write_11 : decode cX8_write 11 = .ok (.ifCond .ne 5, 3) := by decide +kernel
theorem dX8_write_14 : decode cX8_write 14 = .ok (.iconst (-1), 1) := by decide +kernel
theorem dX8_write_15 : decode cX8_write 15 = .ok (.ireturn, 1) := by decide +kernel
theorem dX8_write_16 : decode cX8_write 16 = .ok (.aload_n 0, 1) := by decide +kernel
theorem dX8_write_17 : decode cX8_write 17 = .ok (.getfield 37, 3) := by decide +kernel
theorem dX8_write_20 : decode cX8_write 20 = .ok (.sipush 200, 3) := by decide +kernel
theorem dX8_write_23 : decode cX8_write 23 = .ok (.if_icmp .ne 6, 3) := by decide +kernel
theorem dX8_write_26 : decode cX8_write 26 = .ok (.bipush (-3), 2) := by decide +kernel
theorem dX8_write_28 : decode cX8_write 28 = .ok (.ireturn, 1) := by decide +kernel
theorem dX8_write_29 : decode cX8_write 29 = .ok (.aload_n 0, 1) := by decide +kernel
theorem dX8_write_30 : decode cX8_write 30 = .ok (.getfield 7, 3) := by decide +kernel
theorem dX8_write_33 : decode cX8_write 33 = .ok (.aload_n 0, 1) := by decide +kernel
theorem dX8_write_34 : decode cX8_write 34 = .ok (.getfield 37, 3) := by decide +kernel
theorem dX8_write_37 : decode cX8_write 37 = .ok (.iload_n 1, 1) := by decide +kernel
theorem dX8_write_38 : decode cX8_write 38 = .ok (.iastore, 1) := by decide +kernel
theorem dX8_write_39 : decode cX8_write 39 = .ok (.aload_n 0, 1) := by decide +kernel
theorem dX8_write_40 : decode cX8_write 40 = .ok (.dup, 1) := by decide +kernel
theorem dX8_write_41 : decode cX8_write 41 = .ok (.getfield 37, 3) := by decide +kernel
theorem dX8_write_44 : decode cX8_write 44 = .ok (.iconst 1, 1) := by decide +kernel
theorem dX8_write_45 : decode cX8_write 45 = .ok (.iadd, 1) := by decide +kernel
theorem dX8_write_46 : decode cX8_write 46 = .ok (.putfield 37, 3) := by decide +kernel
theorem dX8_write_49 : decode cX8_write 49 = .ok (.aload_n 0, 1) := by decide +kernel
theorem dX8_write_50 : decode cX8_write 50 = .ok (.getfield 37, 3) := by decide +kernel
theorem dX8_write_53 : decode cX8_write 53 = .ok (.ireturn, 1) := by decide +kernel
theorem dX8_wipe_0 : decode cX8_wipe 0 = .ok (.aload_n 0, 1) := by decide +kernel
theorem dX8_wipe_1 : decode cX8_wipe 1 = .ok (.getfield 37, 3) := by decide +kernel
theorem dX8_wipe_4 : decode cX8_wipe 4 = .ok (.istore_n 1, 1) := by decide +kernel
theorem dX8_wipe_5 : decode cX8_wipe 5 = .ok (.aload_n 0, 1) := by decide +kernel
theorem dX8_wipe_6 : decode cX8_wipe 6 = .ok (.iconst 0, 1) := by decide +kernel
theorem dX8_wipe_7 : decode cX8_wipe 7 = .ok (.putfield 37, 3) := by decide +kernel
theorem dX8_wipe_10 : decode cX8_wipe 10 = .ok (.iload_n 1, 1) := by decide +kernel
theorem dX8_wipe_11 : decode cX8_wipe 11 = .ok (.ireturn, 1) := by decide +kernel
theorem dX8_byteAt_0 : decode cX8_byteAt 0 = .ok (.iload_n 1, 1) := by decide +kernel
theorem dX8_byteAt_1 : decode cX8_byteAt 1 = .ok (.aload_n 0, 1) := by decide +kernel
theorem dX8_byteAt_2 : decode cX8_byteAt 2 = .ok (.getfield 37, 3) := by decide +kernel
theorem dX8_byteAt_5 : decode cX8_byteAt 5 = .ok (.if_icmp .ge 12, 3) := by decide +kernel
theorem dX8_byteAt_8 : decode cX8_byteAt 8 = .ok (.aload_n 0, 1) := by decide +kernel
theorem dX8_byteAt_9 : decode cX8_byteAt 9 = .ok (.getfield 7, 3) := by decide +kernel
theorem dX8_byteAt_12 : decode cX8_byteAt 12 = .ok (.iload_n 1, 1) := by decide +kernel
theorem dX8_byteAt_13 : decode cX8_byteAt 13 = .ok (.iaload, 1) := by decide +kernel
theorem dX8_byteAt_14 : decode cX8_byteAt 14 = .ok (.goto 4, 3) := by decide +kernel
theorem dX8_byteAt_17 : decode cX8_byteAt 17 = .ok (.iconst 0, 1) := by decide +kernel
theorem dX8_byteAt_18 : decode cX8_byteAt 18 = .ok (.ireturn, 1) := by decide +kernel
theorem dX8_gone_0 : decode cX8_gone 0 = .ok (.aload_n 0, 1) := by decide +kernel
theorem dX8_gone_1 : decode cX8_gone 1 = .ok (.aload_n 0, 1) := by decide +kernel
theorem dX8_gone_2 : decode cX8_gone 2 = .ok (.getfield 41, 3) := by decide +kernel
theorem dX8_gone_5 : decode cX8_gone 5 = .ok (.invokevirtual 44, 3) := by decide +kernel
theorem dX8_gone_8 : decode cX8_gone 8 = .ok (.iload_n 1, 1) := by decide +kernel
theorem dX8_gone_9 : decode cX8_gone 9 = .ok (.if_icmp .ne 7, 3) := by decide +kernel
theorem dX8_gone_12 : decode cX8_gone 12 = .ok (.iconst 1, 1) := by decide +kernel
theorem dX8_gone_13 : decode cX8_gone 13 = .ok (.goto 4, 3) := by decide +kernel
theorem dX8_gone_16 : decode cX8_gone 16 = .ok (.iconst 0, 1) := by decide +kernel
theorem dX8_gone_17 : decode cX8_gone 17 = .ok (.istore_n 2, 1) := by decide +kernel
theorem dX8_gone_18 : decode cX8_gone 18 = .ok (.aload_n 0, 1) := by decide +kernel
theorem dX8_gone_19 : decode cX8_gone 19 = .ok (.dup, 1) := by decide +kernel
theorem dX8_gone_20 : decode cX8_gone 20 = .ok (.getfield 41, 3) := by decide +kernel
theorem dX8_gone_23 : decode cX8_gone 23 = .ok (.iconst 1, 1) := by decide +kernel
theorem dX8_gone_24 : decode cX8_gone 24 = .ok (.iadd, 1) := by decide +kernel
theorem dX8_gone_25 : decode cX8_gone 25 = .ok (.putfield 41, 3) := by decide +kernel
theorem dX8_gone_28 : decode cX8_gone 28 = .ok (.iload_n 2, 1) := by decide +kernel
theorem dX8_gone_29 : decode cX8_gone 29 = .ok (.ireturn, 1) := by decide +kernel
theorem dX8_number2_0 : decode cX8_number2 0 = .ok (.iconst 0, 1) := by decide +kernel
theorem dX8_number2_1 : decode cX8_number2 1 = .ok (.istore 4, 2) := by decide +kernel
theorem dX8_number2_3 : decode cX8_number2 3 = .ok (.iconst 0, 1) := by decide +kernel
theorem dX8_number2_4 : decode cX8_number2 4 = .ok (.istore 5, 2) := by decide +kernel
theorem dX8_number2_6 : decode cX8_number2 6 = .ok (.iload 5, 2) := by decide +kernel
theorem dX8_number2_8 : decode cX8_number2 8 = .ok (.iconst 2, 1) := by decide +kernel
theorem dX8_number2_9 : decode cX8_number2 9 = .ok (.if_icmp .ge 59, 3) := by decide +kernel
theorem dX8_number2_12 : decode cX8_number2 12 = .ok (.aload_n 0, 1) := by decide +kernel
theorem dX8_number2_13 : decode cX8_number2 13 = .ok (.aload_n 0, 1) := by decide +kernel
theorem dX8_number2_14 : decode cX8_number2 14 = .ok (.getfield 41, 3) := by decide +kernel
theorem dX8_number2_17 : decode cX8_number2 17 = .ok (.invokevirtual 44, 3) := by decide +kernel
theorem dX8_number2_20 : decode cX8_number2 20 = .ok (.i2l, 1) := by decide +kernel
theorem dX8_number2_21 : decode cX8_number2 21 = .ok (.ldc2_w 48, 3) := by decide +kernel
theorem dX8_number2_24 : decode cX8_number2 24 = .ok (.ldc2_w 50, 3) := by decide +kernel
theorem dX8_number2_27 : decode cX8_number2 27 = .ok (.invokestatic 33, 3) := by decide +kernel
theorem dX8_number2_30 : decode cX8_number2 30 = .ok (.ifCond .eq 38, 3) := by decide +kernel
theorem dX8_number2_33 : decode cX8_number2 33 = .ok (.bipush 10, 2) := by decide +kernel
theorem dX8_number2_35 : decode cX8_number2 35 = .ok (.iload 4, 2) := by decide +kernel
theorem dX8_number2_37 : decode cX8_number2 37 = .ok (.imul, 1) := by decide +kernel
theorem dX8_number2_38 : decode cX8_number2 38 = .ok (.aload_n 0, 1) := by decide +kernel
theorem dX8_number2_39 : decode cX8_number2 39 = .ok (.aload_n 0, 1) := by decide +kernel
theorem dX8_number2_40 : decode cX8_number2 40 = .ok (.getfield 41, 3) := by decide +kernel
theorem dX8_number2_43 : decode cX8_number2 43 = .ok (.invokevirtual 44, 3) := by decide +kernel
theorem dX8_number2_46 : decode cX8_number2 46 = .ok (.iadd, 1) := by decide +kernel
theorem dX8_number2_47 : decode cX8_number2 47 = .ok (.bipush 48, 2) := by decide +kernel
theorem dX8_number2_49 : decode cX8_number2 49 = .ok (.isub, 1) := by decide +kernel
theorem dX8_number2_50 : decode cX8_number2 50 = .ok (.istore 4, 2) := by decide +kernel
theorem dX8_number2_52 : decode cX8_number2 52 = .ok (.aload_n 0, 1) := by decide +kernel
theorem dX8_number2_53 : decode cX8_number2 53 = .ok (.dup, 1) := by decide +kernel
theorem dX8_number2_54 : decode cX8_number2 54 = .ok (.getfield 41, 3) := by decide +kernel
theorem dX8_number2_57 : decode cX8_number2 57 = .ok (.iconst 1, 1) := by decide +kernel
theorem dX8_number2_58 : decode cX8_number2 58 = .ok (.iadd, 1) := by decide +kernel
theorem dX8_number2_59 : decode cX8_number2 59 = .ok (.putfield 41, 3) := by decide +kernel
theorem dX8_number2_62 : decode cX8_number2 62 = .ok (.iinc 5 1, 3) := by decide +kernel
theorem dX8_number2_65 : decode cX8_number2 65 = .ok (.goto (-59), 3) := by decide +kernel
theorem dX8_number2_68 : decode cX8_number2 68 = .ok (.aload_n 0, 1) := by decide +kernel
theorem dX8_number2_69 : decode cX8_number2 69 = .ok (.getfield 16, 3) := by decide +kernel
theorem dX8_number2_72 : decode cX8_number2 72 = .ok (.iload_n 1, 1) := by decide +kernel
theorem dX8_number2_73 : decode cX8_number2 73 = .ok (.iload 4, 2) := by decide +kernel
theorem dX8_number2_75 : decode cX8_number2 75 = .ok (.iastore, 1) := by decide +kernel
theorem dX8_number2_76 : decode cX8_number2 76 = .ok (.iload 5, 2) := by decide +kernel
theorem dX8_number2_78 : decode cX8_number2 78 = .ok (.ifCond .le 20, 3) := by decide +kernel
theorem dX8_number2_81 : decode cX8_number2 81 = .ok (.iload 4, 2) := by decide +kernel
theorem dX8_number2_83 : decode cX8_number2 83 = .ok (.i2l, 1) := by decide +kernel
theorem dX8_number2_84 : decode cX8_number2 84 = .ok (.iload_n 2, 1) := by decide +kernel
theorem dX8_number2_85 : decode cX8_number2 85 = .ok (.i2l, 1) := by decide +kernel
theorem dX8_number2_86 : decode cX8_number2 86 = .ok (.iload_n 3, 1) := by decide +kernel
theorem dX8_number2_87 : decode cX8_number2 87 = .ok (.i2l, 1) := by decide +kernel
theorem dX8_number2_88 : decode cX8_number2 88 = .ok (.invokestatic 33, 3) := by decide +kernel
theorem dX8_number2_91 : decode cX8_number2 91 = .ok (.ifCond .eq 7, 3) := by decide +kernel
theorem dX8_number2_94 : decode cX8_number2 94 = .ok (.iconst 1, 1) := by decide +kernel
theorem dX8_number2_95 : decode cX8_number2 95 = .ok (.goto 4, 3) := by decide +kernel
theorem dX8_number2_98 : decode cX8_number2 98 = .ok (.iconst 0, 1) := by decide +kernel
theorem dX8_number2_99 : decode cX8_number2 99 = .ok (.ireturn, 1) := by decide +kernel
theorem dX8_whole_0 : decode cX8_whole 0 = .ok (.iconst 0, 1) := by decide +kernel
theorem dX8_whole_1 : decode cX8_whole 1 = .ok (.istore_n 2, 1) := by decide +kernel
theorem dX8_whole_2 : decode cX8_whole 2 = .ok (.iconst 0, 1) := by decide +kernel
theorem dX8_whole_3 : decode cX8_whole 3 = .ok (.istore_n 3, 1) := by decide +kernel
theorem dX8_whole_4 : decode cX8_whole 4 = .ok (.iload_n 3, 1) := by decide +kernel
theorem dX8_whole_5 : decode cX8_whole 5 = .ok (.aload_n 0, 1) := by decide +kernel
theorem dX8_whole_6 : decode cX8_whole 6 = .ok (.bipush 22, 2) := by decide +kernel
theorem dX8_whole_8 : decode cX8_whole 8 = .ok (.iaload, 1) := by decide +kernel
theorem dX8_whole_9 : decode cX8_whole 9 = .ok (.if_icmp .ge 28, 3) := by decide +kernel
theorem dX8_whole_12 : decode cX8_whole 12 = .ok (.iload_n 2, 1) := by decide +kernel
theorem dX8_whole_13 : decode cX8_whole 13 = .ok (.aload_n 0, 1) := by decide +kernel
theorem dX8_whole_14 : decode cX8_whole 14 = .ok (.iload_n 3, 1) := by decide +kernel
theorem dX8_whole_15 : decode cX8_whole 15 = .ok (.iaload, 1) := by decide +kernel
theorem dX8_whole_16 : decode cX8_whole 16 = .ok (.aload_n 0, 1) := by decide +kernel
theorem dX8_whole_17 : decode cX8_whole 17 = .ok (.iconst 4, 1) := by decide +kernel
theorem dX8_whole_18 : decode cX8_whole 18 = .ok (.bipush 6, 2) := by decide +kernel
theorem dX8_whole_20 : decode cX8_whole 20 = .ok (.iload_n 1, 1) := by decide +kernel
theorem dX8_whole_21 : decode cX8_whole 21 = .ok (.imul, 1) := by decide +kernel
theorem dX8_whole_22 : decode cX8_whole 22 = .ok (.iadd, 1) := by decide +kernel
theorem dX8_whole_23 : decode cX8_whole 23 = .ok (.iconst 2, 1) := by decide +kernel
theorem dX8_whole_24 : decode cX8_whole 24 = .ok (.iadd, 1) := by decide +kernel
theorem dX8_whole_25 : decode cX8_whole 25 = .ok (.iload_n 3, 1) := by decide +kernel
theorem dX8_whole_26 : decode cX8_whole 26 = .ok (.iadd, 1) := by decide +kernel
theorem dX8_whole_27 : decode cX8_whole 27 = .ok (.iaload, 1) := by decide +kernel
theorem dX8_whole_28 : decode cX8_whole 28 = .ok (.imul, 1) := by decide +kernel
theorem dX8_whole_29 : decode cX8_whole 29 = .ok (.iadd, 1) := by decide +kernel
theorem dX8_whole_30 : decode cX8_whole 30 = .ok (.istore_n 2, 1) := by decide +kernel
theorem dX8_whole_31 : decode cX8_whole 31 = .ok (.iinc 3 1, 3) := by decide +kernel
theorem dX8_whole_34 : decode cX8_whole 34 = .ok (.goto (-30), 3) := by decide +kernel
theorem dX8_whole_37 : decode cX8_whole 37 = .ok (.iload_n 2, 1) := by decide +kernel
theorem dX8_whole_38 : decode cX8_whole 38 = .ok (.ireturn, 1) := by decide +kernel
theorem dX8_seriesItem_0 : decode cX8_seriesItem 0 = .ok (.aload_n 0, 1) := by decide +kernel
theorem dX8_seriesItem_1 : decode cX8_seriesItem 1 = .ok (.getfield 16, 3) := by decide +kernel
theorem dX8_seriesItem_4 : decode cX8_seriesItem 4 = .ok (.bipush 23, 2) := by decide +kernel
theorem dX8_seriesItem_6 : decode cX8_seriesItem 6 = .ok (.iaload, 1) := by decide +kernel
theorem dX8_seriesItem_7 : decode cX8_seriesItem 7 = .ok (.istore_n 1, 1) := by decide +kernel
theorem dX8_seriesItem_8 : decode cX8_seriesItem 8 = .ok (.iconst 4, 1) := by decide +kernel
theorem dX8_seriesItem_9 : decode cX8_seriesItem 9 = .ok (.bipush 6, 2) := by decide +kernel
theorem dX8_seriesItem_11 : decode cX8_seriesItem 11 = .ok (.iload_n 1, 1) := by decide +kernel
theorem dX8_seriesItem_12 : decode cX8_seriesItem 12 = .ok (.imul, 1) := by decide +kernel
theorem dX8_seriesItem_13 : decode cX8_seriesItem 13 = .ok (.iadd, 1) := by decide +kernel
theorem dX8_seriesItem_14 : decode cX8_seriesItem 14 = .ok (.istore_n 2, 1) := by decide +kernel
theorem dX8_seriesItem_15 : decode cX8_seriesItem 15 = .ok (.iload_n 1, 1) := by decide +kernel
theorem dX8_seriesItem_16 : decode cX8_seriesItem 16 = .ok (.iconst 3, 1) := by decide +kernel
theorem dX8_seriesItem_17 : decode cX8_seriesItem 17 = .ok (.if_icmp .eq 24, 3) := by decide +kernel
theorem dX8_seriesItem_20 : decode cX8_seriesItem 20 = .ok (.aload_n 0, 1) := by decide +kernel
theorem dX8_seriesItem_21 : decode cX8_seriesItem 21 = .ok (.aload_n 0, 1) := by decide +kernel
theorem dX8_seriesItem_22 : decode cX8_seriesItem 22 = .ok (.getfield 41, 3) := by decide +kernel
theorem dX8_seriesItem_25 : decode cX8_seriesItem 25 = .ok (.invokevirtual 44, 3) := by decide +kernel
theorem dX8_seriesItem_28 : decode cX8_seriesItem 28 = .ok (.i2l, 1) := by decide +kernel
theorem dX8_seriesItem_29 : decode cX8_seriesItem 29 = .ok (.ldc2_w 52, 3) := by decide +kernel
theorem dX8_seriesItem_32 : decode cX8_seriesItem 32 = .ok (.ldc2_w 54, 3) := by decide +kernel
theorem dX8_seriesItem_35 : decode cX8_seriesItem 35 = .ok (.invokestatic 33, 3) := by decide +kernel
theorem dX8_seriesItem_38 : decode cX8_seriesItem 38 = .ok (.ifCond .ne 5, 3) := by decide +kernel
theorem dX8_seriesItem_41 : decode cX8_seriesItem 41 = .ok (.iconst 0, 1) := by decide +kernel
theorem dX8_seriesItem_42 : decode cX8_seriesItem 42 = .ok (.ireturn, 1) := by decide +kernel
theorem dX8_seriesItem_43 : decode cX8_seriesItem 43 = .ok (.aload_n 0, 1) := by decide +kernel
theorem dX8_seriesItem_44 : decode cX8_seriesItem 44 = .ok (.getfield 16, 3) := by decide +kernel
theorem dX8_seriesItem_47 : decode cX8_seriesItem 47 = .ok (.iload_n 2, 1) := by decide +kernel
theorem dX8_seriesItem_48 : decode cX8_seriesItem 48 = .ok (.aload_n 0, 1) := by decide +kernel
theorem dX8_seriesItem_49 : decode cX8_seriesItem 49 = .ok (.aload_n 0, 1) := by decide +kernel
theorem dX8_seriesItem_50 : decode cX8_seriesItem 50 = .ok (.getfield 41, 3) := by decide +kernel
theorem dX8_seriesItem_53 : decode cX8_seriesItem 53 = .ok (.invokevirtual 44, 3) := by decide +kernel
theorem dX8_seriesItem_56 : decode cX8_seriesItem 56 = .ok (.bipush 96, 2) := by decide +kernel
theorem dX8_seriesItem_58 : decode cX8_seriesItem 58 = .ok (.isub, 1) := by decide +kernel
theorem dX8_seriesItem_59 : decode cX8_seriesItem 59 = .ok (.iastore, 1) := by decide +kernel
theorem dX8_seriesItem_60 : decode cX8_seriesItem 60 = .ok (.aload_n 0, 1) := by decide +kernel
theorem dX8_seriesItem_61 : decode cX8_seriesItem 61 = .ok (.dup, 1) := by decide +kernel
theorem dX8_seriesItem_62 : decode cX8_seriesItem 62 = .ok (.getfield 41, 3) := by decide +kernel
theorem dX8_seriesItem_65 : decode cX8_seriesItem 65 = .ok (.iconst 1, 1) := by decide +kernel
theorem dX8_seriesItem_66 : decode cX8_seriesItem 66 = .ok (.iadd, 1) := by decide +kernel
theorem dX8_seriesItem_67 : decode cX8_seriesItem 67 = .ok (.putfield 41, 3) := by decide +kernel
theorem dX8_seriesItem_70 : decode cX8_seriesItem 70 = .ok (.iconst 0, 1) := by decide +kernel
theorem dX8_seriesItem_71 : decode cX8_seriesItem 71 = .ok (.istore_n 3, 1) := by decide +kernel
theorem dX8_seriesItem_72 : decode cX8_seriesItem 72 = .ok (.iload_n 3, 1) := by decide +kernel
theorem dX8_seriesItem_73 : decode cX8_seriesItem 73 = .ok (.iload_n 1, 1) := by decide +kernel
theorem dX8_seriesItem_74 : decode cX8_seriesItem 74 = .ok (.if_icmp .ge 31, 3) := by decide +kernel
theorem dX8_seriesItem_77 : decode cX8_seriesItem 77 = .ok (.aload_n 0, 1) := by decide +kernel
theorem dX8_seriesItem_78 : decode cX8_seriesItem 78 = .ok (.getfield 16, 3) := by decide +kernel
theorem dX8_seriesItem_81 : decode cX8_seriesItem 81 = .ok (.iconst 4, 1) := by decide +kernel
theorem dX8_seriesItem_82 : decode cX8_seriesItem 82 = .ok (.bipush 6, 2) := by decide +kernel
theorem dX8_seriesItem_84 : decode cX8_seriesItem 84 = .ok (.iload_n 3, 1) := by decide +kernel
theorem dX8_seriesItem_85 : decode cX8_seriesItem 85 = .ok (.imul, 1) := by decide +kernel
theorem dX8_seriesItem_86 : decode cX8_seriesItem 86 = .ok (.iadd, 1) := by decide +kernel
theorem dX8_seriesItem_87 : decode cX8_seriesItem 87 = .ok (.iaload, 1) := by decide +kernel
theorem dX8_seriesItem_88 : decode cX8_seriesItem 88 = .ok (.aload_n 0, 1) := by decide +kernel
theorem dX8_seriesItem_89 : decode cX8_seriesItem 89 = .ok (.getfield 16, 3) := by decide +kernel
theorem dX8_seriesItem_92 : decode cX8_seriesItem 92 = .ok (.iload_n 2, 1) := by decide +kernel
theorem dX8_seriesItem_93 : decode cX8_seriesItem 93 = .ok (.iaload, 1) := by decide +kernel
theorem dX8_seriesItem_94 : decode cX8_seriesItem 94 = .ok (.if_icmp .ne 5, 3) := by decide +kernel
theorem dX8_seriesItem_97 : decode cX8_seriesItem 97 = .ok (.iconst 0, 1) := by decide +kernel
theorem dX8_seriesItem_98 : decode cX8_seriesItem 98 = .ok (.ireturn, 1) := by decide +kernel
theorem dX8_seriesItem_99 : decode cX8_seriesItem 99 = .ok (.iinc 3 1, 3) := by decide +kernel
theorem dX8_seriesItem_102 : decode cX8_seriesItem 102 = .ok (.goto (-30), 3) := by decide +kernel
theorem dX8_seriesItem_105 : decode cX8_seriesItem 105 = .ok (.aload_n 0, 1) := by decide +kernel
theorem dX8_seriesItem_106 : decode cX8_seriesItem 106 = .ok (.bipush 44, 2) := by decide +kernel
theorem dX8_seriesItem_108 : decode cX8_seriesItem 108 = .ok (.invokevirtual 56, 3) := by decide +kernel
theorem dX8_seriesItem_111 : decode cX8_seriesItem 111 = .ok (.ifCond .eq 19, 3) := by decide +kernel
theorem dX8_seriesItem_114 : decode cX8_seriesItem 114 = .ok (.aload_n 0, 1) := by decide +kernel
theorem dX8_seriesItem_115 : decode cX8_seriesItem 115 = .ok (.iload_n 2, 1) := by decide +kernel
theorem dX8_seriesItem_116 : decode cX8_seriesItem 116 = .ok (.iconst 1, 1) := by decide +kernel
theorem dX8_seriesItem_117 : decode cX8_seriesItem 117 = .ok (.iadd, 1) := by decide +kernel
theorem dX8_seriesItem_118 : decode cX8_seriesItem 118 = .ok (.iconst 0, 1) := by decide +kernel
theorem dX8_seriesItem_119 : decode cX8_seriesItem 119 = .ok (.iconst 2, 1) := by decide +kernel
theorem dX8_seriesItem_120 : decode cX8_seriesItem 120 = .ok (.invokevirtual 60, 3) := by decide +kernel
theorem dX8_seriesItem_123 : decode cX8_seriesItem 123 = .ok (.ifCond .eq 7, 3) := by decide +kernel
theorem dX8_seriesItem_126 : decode cX8_seriesItem 126 = .ok (.iconst 1, 1) := by decide +kernel
theorem dX8_seriesItem_127 : decode cX8_seriesItem 127 = .ok (.goto 4, 3) := by decide +kernel
theorem dX8_seriesItem_130 : decode cX8_seriesItem 130 = .ok (.iconst 0, 1) := by decide +kernel
theorem dX8_seriesItem_131 : decode cX8_seriesItem 131 = .ok (.istore_n 3, 1) := by decide +kernel
theorem dX8_seriesItem_132 : decode cX8_seriesItem 132 = .ok (.iconst 0, 1) := by decide +kernel
theorem dX8_seriesItem_133 : decode cX8_seriesItem 133 = .ok (.istore 4, 2) := by decide +kernel
theorem dX8_seriesItem_135 : decode cX8_seriesItem 135 = .ok (.iload 4, 2) := by decide +kernel
theorem dX8_seriesItem_137 : decode cX8_seriesItem 137 = .ok (.aload_n 0, 1) := by decide +kernel
theorem dX8_seriesItem_138 : decode cX8_seriesItem 138 = .ok (.getfield 16, 3) := by decide +kernel
theorem dX8_seriesItem_141 : decode cX8_seriesItem 141 = .ok (.bipush 22, 2) := by decide +kernel
theorem dX8_seriesItem_143 : decode cX8_seriesItem 143 = .ok (.iaload, 1) := by decide +kernel
theorem dX8_seriesItem_144 : decode cX8_seriesItem 144 = .ok (.if_icmp .ge 44, 3) := by decide +kernel
theorem dX8_seriesItem_147 : decode cX8_seriesItem 147 = .ok (.iload_n 3, 1) := by decide +kernel
theorem dX8_seriesItem_148 : decode cX8_seriesItem 148 = .ok (.ifCond .eq 40, 3) := by decide +kernel
theorem dX8_seriesItem_151 : decode cX8_seriesItem 151 = .ok (.aload_n 0, 1) := by decide +kernel
theorem dX8_seriesItem_152 : decode cX8_seriesItem 152 = .ok (.bipush 44, 2) := by decide +kernel
theorem dX8_seriesItem_154 : decode cX8_seriesItem 154 = .ok (.invokevirtual 56, 3) := by decide +kernel
theorem dX8_seriesItem_157 : decode cX8_seriesItem 157 = .ok (.ifCond .eq 23, 3) := by decide +kernel
theorem dX8_seriesItem_160 : decode cX8_seriesItem 160 = .ok (.aload_n 0, 1) := by decide +kernel
theorem dX8_seriesItem_161 : decode cX8_seriesItem 161 = .ok (.iload_n 2, 1) := by decide +kernel
theorem dX8_seriesItem_162 : decode cX8_seriesItem 162 = .ok (.iconst 2, 1) := by decide +kernel
theorem dX8_seriesItem_163 : decode cX8_seriesItem 163 = .ok (.iadd, 1) := by decide +kernel
theorem dX8_seriesItem_164 : decode cX8_seriesItem 164 = .ok (.iload 4, 2) := by decide +kernel
theorem dX8_seriesItem_166 : decode cX8_seriesItem 166 = .ok (.iadd, 1) := by decide +kernel
theorem dX8_seriesItem_167 : decode cX8_seriesItem 167 = .ok (.iconst 0, 1) := by decide +kernel
theorem dX8_seriesItem_168 : decode cX8_seriesItem 168 = .ok (.bipush 40, 2) := by decide +kernel
theorem dX8_seriesItem_170 : decode cX8_seriesItem 170 = .ok (.invokevirtual 60, 3) := by decide +kernel
theorem dX8_seriesItem_173 : decode cX8_seriesItem 173 = .ok (.ifCond .eq 7, 3) := by decide +kernel
theorem dX8_seriesItem_176 : decode cX8_seriesItem 176 = .ok (.iconst 1, 1) := by decide +kernel
theorem dX8_seriesItem_177 : decode cX8_seriesItem 177 = .ok (.goto 4, 3) := by decide +kernel
theorem dX8_seriesItem_180 : decode cX8_seriesItem 180 = .ok (.iconst 0, 1) := by decide +kernel
theorem dX8_seriesItem_181 : decode cX8_seriesItem 181 = .ok (.istore_n 3, 1) := by decide +kernel
theorem dX8_seriesItem_182 : decode cX8_seriesItem 182 = .ok (.iinc 4 1, 3) := by decide +kernel
theorem dX8_seriesItem_185 : decode cX8_seriesItem 185 = .ok (.goto (-50), 3) := by decide +kernel
theorem dX8_seriesItem_188 : decode cX8_seriesItem 188 = .ok (.aload_n 0, 1) := by decide +kernel
theorem dX8_seriesItem_189 : decode cX8_seriesItem 189 = .ok (.getfield 16, 3) := by decide +kernel
theorem dX8_seriesItem_192 : decode cX8_seriesItem 192 = .ok (.bipush 23, 2) := by decide +kernel
theorem dX8_seriesItem_194 : decode cX8_seriesItem 194 = .ok (.dup2, 1) := by decide +kernel
theorem dX8_seriesItem_195 : decode cX8_seriesItem 195 = .ok (.iaload, 1) := by decide +kernel
theorem dX8_seriesItem_196 : decode cX8_seriesItem 196 = .ok (.iconst 1, 1) := by decide +kernel
theorem dX8_seriesItem_197 : decode cX8_seriesItem 197 = .ok (.iadd, 1) := by decide +kernel
theorem dX8_seriesItem_198 : decode cX8_seriesItem 198 = .ok (.iastore, 1) := by decide +kernel
theorem dX8_seriesItem_199 : decode cX8_seriesItem 199 = .ok (.iload_n 3, 1) := by decide +kernel
theorem dX8_seriesItem_200 : decode cX8_seriesItem 200 = .ok (.ifCond .eq 26, 3) := by decide +kernel
theorem dX8_seriesItem_203 : decode cX8_seriesItem 203 = .ok (.aload_n 0, 1) := by decide +kernel
theorem dX8_seriesItem_204 : decode cX8_seriesItem 204 = .ok (.getfield 16, 3) := by decide +kernel
theorem dX8_seriesItem_207 : decode cX8_seriesItem 207 = .ok (.iload_n 1, 1) := by decide +kernel
theorem dX8_seriesItem_208 : decode cX8_seriesItem 208 = .ok (.invokestatic 64, 3) := by decide +kernel
theorem dX8_seriesItem_211 : decode cX8_seriesItem 211 = .ok (.i2l, 1) := by decide +kernel
theorem dX8_seriesItem_212 : decode cX8_seriesItem 212 = .ok (.lconst 1, 1) := by decide +kernel
theorem dX8_seriesItem_213 : decode cX8_seriesItem 213 = .ok (.ldc2_w 68, 3) := by decide +kernel
theorem dX8_seriesItem_216 : decode cX8_seriesItem 216 = .ok (.invokestatic 33, 3) := by decide +kernel
theorem dX8_seriesItem_219 : decode cX8_seriesItem 219 = .ok (.ifCond .eq 7, 3) := by decide +kernel
theorem dX8_seriesItem_222 : decode cX8_seriesItem 222 = .ok (.iconst 1, 1) := by decide +kernel
theorem dX8_seriesItem_223 : decode cX8_seriesItem 223 = .ok (.goto 4, 3) := by decide +kernel
theorem dX8_seriesItem_226 : decode cX8_seriesItem 226 = .ok (.iconst 0, 1) := by decide +kernel
theorem dX8_seriesItem_227 : decode cX8_seriesItem 227 = .ok (.ireturn, 1) := by decide +kernel
theorem dX8_item_0 : decode cX8_item 0 = .ok (.iload_n 1, 1) := by decide +kernel
theorem dX8_item_1 : decode cX8_item 1 = .ok (.lookupswitch 101 #[(112, 35), (115, 86), (122, 91)], 35) := by decide +kernel
theorem dX8_item_36 : decode cX8_item 36 = .ok (.aload_n 0, 1) := by decide +kernel
theorem dX8_item_37 : decode cX8_item 37 = .ok (.getfield 16, 3) := by decide +kernel
theorem dX8_item_40 : decode cX8_item 40 = .ok (.bipush 22, 2) := by decide +kernel
theorem dX8_item_42 : decode cX8_item 42 = .ok (.iaload, 1) := by decide +kernel
theorem dX8_item_43 : decode cX8_item 43 = .ok (.iconst 4, 1) := by decide +kernel
theorem dX8_item_44 : decode cX8_item 44 = .ok (.if_icmp .eq 13, 3) := by decide +kernel
theorem dX8_item_47 : decode cX8_item 47 = .ok (.aload_n 0, 1) := by decide +kernel
theorem dX8_item_48 : decode cX8_item 48 = .ok (.getfield 16, 3) := by decide +kernel
theorem dX8_item_51 : decode cX8_item 51 = .ok (.bipush 23, 2) := by decide +kernel
theorem dX8_item_53 : decode cX8_item 53 = .ok (.iaload, 1) := by decide +kernel
theorem dX8_item_54 : decode cX8_item 54 = .ok (.ifCond .le 5, 3) := by decide +kernel
theorem dX8_item_57 : decode cX8_item 57 = .ok (.iconst 0, 1) := by decide +kernel
theorem dX8_item_58 : decode cX8_item 58 = .ok (.ireturn, 1) := by decide +kernel
theorem dX8_item_59 : decode cX8_item 59 = .ok (.aload_n 0, 1) := by decide +kernel
theorem dX8_item_60 : decode cX8_item 60 = .ok (.getfield 16, 3) := by decide +kernel
theorem dX8_item_63 : decode cX8_item 63 = .ok (.bipush 22, 2) := by decide +kernel
theorem dX8_item_65 : decode cX8_item 65 = .ok (.dup2, 1) := by decide +kernel
theorem dX8_item_66 : decode cX8_item 66 = .ok (.iaload, 1) := by decide +kernel
theorem dX8_item_67 : decode cX8_item 67 = .ok (.iconst 1, 1) := by decide +kernel
theorem dX8_item_68 : decode cX8_item 68 = .ok (.iadd, 1) := by decide +kernel
theorem dX8_item_69 : decode cX8_item 69 = .ok (.iastore, 1) := by decide +kernel
theorem dX8_item_70 : decode cX8_item 70 = .ok (.aload_n 0, 1) := by decide +kernel
theorem dX8_item_71 : decode cX8_item 71 = .ok (.aload_n 0, 1) := by decide +kernel
theorem dX8_item_72 : decode cX8_item 72 = .ok (.getfield 16, 3) := by decide +kernel
theorem dX8_item_75 : decode cX8_item 75 = .ok (.bipush 22, 2) := by decide +kernel
theorem dX8_item_77 : decode cX8_item 77 = .ok (.iaload, 1) := by decide +kernel
theorem dX8_item_78 : decode cX8_item 78 = .ok (.iconst 1, 1) := by decide +kernel
theorem dX8_item_79 : decode cX8_item 79 = .ok (.isub, 1) := by decide +kernel
theorem dX8_item_80 : decode cX8_item 80 = .ok (.iconst 1, 1) := by decide +kernel
theorem dX8_item_81 : decode cX8_item 81 = .ok (.bipush 8, 2) := by decide +kernel
theorem dX8_item_83 : decode cX8_item 83 = .ok (.invokevirtual 60, 3) := by decide +kernel
theorem dX8_item_86 : decode cX8_item 86 = .ok (.ireturn, 1) := by decide +kernel
theorem dX8_item_87 : decode cX8_item 87 = .ok (.aload_n 0, 1) := by decide +kernel
theorem dX8_item_88 : decode cX8_item 88 = .ok (.invokevirtual 70, 3) := by decide +kernel
theorem dX8_item_91 : decode cX8_item 91 = .ok (.ireturn, 1) := by decide +kernel
theorem dX8_item_92 : decode cX8_item 92 = .ok (.aload_n 0, 1) := by decide +kernel
theorem dX8_item_93 : decode cX8_item 93 = .ok (.bipush 24, 2) := by decide +kernel
theorem dX8_item_95 : decode cX8_item 95 = .ok (.iconst 0, 1) := by decide +kernel
theorem dX8_item_96 : decode cX8_item 96 = .ok (.bipush 99, 2) := by decide +kernel
theorem dX8_item_98 : decode cX8_item 98 = .ok (.invokevirtual 60, 3) := by decide +kernel
theorem dX8_item_101 : decode cX8_item 101 = .ok (.ireturn, 1) := by decide +kernel
theorem dX8_item_102 : decode cX8_item 102 = .ok (.iconst 0, 1) := by decide +kernel
theorem dX8_item_103 : decode cX8_item 103 = .ok (.ireturn, 1) := by decide +kernel
theorem dX8_fault_0 : decode cX8_fault 0 = .ok (.iconst 0, 1) := by decide +kernel
theorem dX8_fault_1 : decode cX8_fault 1 = .ok (.istore_n 1, 1) := by decide +kernel
theorem dX8_fault_2 : decode cX8_fault 2 = .ok (.iload_n 1, 1) := by decide +kernel
theorem dX8_fault_3 : decode cX8_fault 3 = .ok (.bipush 25, 2) := by decide +kernel
theorem dX8_fault_5 : decode cX8_fault 5 = .ok (.if_icmp .ge 16, 3) := by decide +kernel
theorem dX8_fault_8 : decode cX8_fault 8 = .ok (.aload_n 0, 1) := by decide +kernel
theorem dX8_fault_9 : decode cX8_fault 9 = .ok (.getfield 16, 3) := by decide +kernel
theorem dX8_fault_12 : decode cX8_fault 12 = .ok (.iload_n 1, 1) := by decide +kernel
theorem dX8_fault_13 : decode cX8_fault 13 = .ok (.iconst 0, 1) := by decide +kernel
theorem dX8_fault_14 : decode cX8_fault 14 = .ok (.iastore, 1) := by decide +kernel
theorem dX8_fault_15 : decode cX8_fault 15 = .ok (.iinc 1 1, 3) := by decide +kernel
theorem dX8_fault_18 : decode cX8_fault 18 = .ok (.goto (-16), 3) := by decide +kernel
theorem dX8_fault_21 : decode cX8_fault 21 = .ok (.aload_n 0, 1) := by decide +kernel
theorem dX8_fault_22 : decode cX8_fault 22 = .ok (.getfield 16, 3) := by decide +kernel
theorem dX8_fault_25 : decode cX8_fault 25 = .ok (.bipush 24, 2) := by decide +kernel
theorem dX8_fault_27 : decode cX8_fault 27 = .ok (.bipush 20, 2) := by decide +kernel
theorem dX8_fault_29 : decode cX8_fault 29 = .ok (.iastore, 1) := by decide +kernel
theorem dX8_fault_30 : decode cX8_fault 30 = .ok (.aload_n 0, 1) := by decide +kernel
theorem dX8_fault_31 : decode cX8_fault 31 = .ok (.iconst 0, 1) := by decide +kernel
theorem dX8_fault_32 : decode cX8_fault 32 = .ok (.putfield 41, 3) := by decide +kernel
theorem dX8_fault_35 : decode cX8_fault 35 = .ok (.aload_n 0, 1) := by decide +kernel
theorem dX8_fault_36 : decode cX8_fault 36 = .ok (.getfield 41, 3) := by decide +kernel
theorem dX8_fault_39 : decode cX8_fault 39 = .ok (.aload_n 0, 1) := by decide +kernel
theorem dX8_fault_40 : decode cX8_fault 40 = .ok (.getfield 37, 3) := by decide +kernel
theorem dX8_fault_43 : decode cX8_fault 43 = .ok (.if_icmp .ge 45, 3) := by decide +kernel
theorem dX8_fault_46 : decode cX8_fault 46 = .ok (.aload_n 0, 1) := by decide +kernel
theorem dX8_fault_47 : decode cX8_fault 47 = .ok (.getfield 41, 3) := by decide +kernel
theorem dX8_fault_50 : decode cX8_fault 50 = .ok (.istore_n 1, 1) := by decide +kernel
theorem dX8_fault_51 : decode cX8_fault 51 = .ok (.aload_n 0, 1) := by decide +kernel
theorem dX8_fault_52 : decode cX8_fault 52 = .ok (.dup, 1) := by decide +kernel
theorem dX8_fault_53 : decode cX8_fault 53 = .ok (.getfield 41, 3) := by decide +kernel
theorem dX8_fault_56 : decode cX8_fault 56 = .ok (.iconst 1, 1) := by decide +kernel
theorem dX8_fault_57 : decode cX8_fault 57 = .ok (.iadd, 1) := by decide +kernel
theorem dX8_fault_58 : decode cX8_fault 58 = .ok (.putfield 41, 3) := by decide +kernel
theorem dX8_fault_61 : decode cX8_fault 61 = .ok (.aload_n 0, 1) := by decide +kernel
theorem dX8_fault_62 : decode cX8_fault 62 = .ok (.aload_n 0, 1) := by decide +kernel
theorem dX8_fault_63 : decode cX8_fault 63 = .ok (.getfield 7, 3) := by decide +kernel
theorem dX8_fault_66 : decode cX8_fault 66 = .ok (.iload_n 1, 1) := by decide +kernel
theorem dX8_fault_67 : decode cX8_fault 67 = .ok (.iaload, 1) := by decide +kernel
theorem dX8_fault_68 : decode cX8_fault 68 = .ok (.invokevirtual 74, 3) := by decide +kernel
theorem dX8_fault_71 : decode cX8_fault 71 = .ok (.ifCond .eq 12, 3) := by decide +kernel
theorem dX8_fault_74 : decode cX8_fault 74 = .ok (.aload_n 0, 1) := by decide +kernel
theorem dX8_fault_75 : decode cX8_fault 75 = .ok (.bipush 59, 2) := by decide +kernel
theorem dX8_fault_77 : decode cX8_fault 77 = .ok (.invokevirtual 56, 3) := by decide +kernel
theorem dX8_fault_80 : decode cX8_fault 80 = .ok (.ifCond .ne 5, 3) := by decide +kernel
theorem dX8_fault_83 : decode cX8_fault 83 = .ok (.iload_n 1, 1) := by decide +kernel
theorem dX8_fault_84 : decode cX8_fault 84 = .ok (.ireturn, 1) := by decide +kernel
theorem dX8_fault_85 : decode cX8_fault 85 = .ok (.goto (-50), 3) := by decide +kernel
theorem dX8_fault_88 : decode cX8_fault 88 = .ok (.bipush (-4), 2) := by decide +kernel
theorem dX8_fault_90 : decode cX8_fault 90 = .ok (.ireturn, 1) := by decide +kernel
theorem dX8_lay_0 : decode cX8_lay 0 = .ok (.aload_n 0, 1) := by decide +kernel
theorem dX8_lay_1 : decode cX8_lay 1 = .ok (.invokevirtual 77, 3) := by decide +kernel
theorem dX8_lay_4 : decode cX8_lay 4 = .ok (.bipush (-4), 2) := by decide +kernel
theorem dX8_lay_6 : decode cX8_lay 6 = .ok (.if_icmp .ne 13, 3) := by decide +kernel
theorem dX8_lay_9 : decode cX8_lay 9 = .ok (.aload_n 0, 1) := by decide +kernel
theorem dX8_lay_10 : decode cX8_lay 10 = .ok (.getfield 16, 3) := by decide +kernel
theorem dX8_lay_13 : decode cX8_lay 13 = .ok (.bipush 23, 2) := by decide +kernel
theorem dX8_lay_15 : decode cX8_lay 15 = .ok (.iaload, 1) := by decide +kernel
theorem dX8_lay_16 : decode cX8_lay 16 = .ok (.ifCond .ne 6, 3) := by decide +kernel
theorem dX8_lay_19 : decode cX8_lay 19 = .ok (.bipush (-2), 2) := by decide +kernel
theorem dX8_lay_21 : decode cX8_lay 21 = .ok (.ireturn, 1) := by decide +kernel
theorem dX8_lay_22 : decode cX8_lay 22 = .ok (.iconst 0, 1) := by decide +kernel
theorem dX8_lay_23 : decode cX8_lay 23 = .ok (.istore_n 1, 1) := by decide +kernel
theorem dX8_lay_24 : decode cX8_lay 24 = .ok (.iload_n 1, 1) := by decide +kernel
theorem dX8_lay_25 : decode cX8_lay 25 = .ok (.bipush 25, 2) := by decide +kernel
theorem dX8_lay_27 : decode cX8_lay 27 = .ok (.if_icmp .ge 21, 3) := by decide +kernel
theorem dX8_lay_30 : decode cX8_lay 30 = .ok (.aload_n 0, 1) := by decide +kernel
theorem dX8_lay_31 : decode cX8_lay 31 = .ok (.getfield 13, 3) := by decide +kernel
theorem dX8_lay_34 : decode cX8_lay 34 = .ok (.iload_n 1, 1) := by decide +kernel
theorem dX8_lay_35 : decode cX8_lay 35 = .ok (.aload_n 0, 1) := by decide +kernel
theorem dX8_lay_36 : decode cX8_lay 36 = .ok (.getfield 16, 3) := by decide +kernel
theorem dX8_lay_39 : decode cX8_lay 39 = .ok (.iload_n 1, 1) := by decide +kernel
theorem dX8_lay_40 : decode cX8_lay 40 = .ok (.iaload, 1) := by decide +kernel
theorem dX8_lay_41 : decode cX8_lay 41 = .ok (.iastore, 1) := by decide +kernel
theorem dX8_lay_42 : decode cX8_lay 42 = .ok (.iinc 1 1, 3) := by decide +kernel
theorem dX8_lay_45 : decode cX8_lay 45 = .ok (.goto (-21), 3) := by decide +kernel
theorem dX8_lay_48 : decode cX8_lay 48 = .ok (.iconst 0, 1) := by decide +kernel
theorem dX8_lay_49 : decode cX8_lay 49 = .ok (.istore_n 1, 1) := by decide +kernel
theorem dX8_lay_50 : decode cX8_lay 50 = .ok (.iload_n 1, 1) := by decide +kernel
theorem dX8_lay_51 : decode cX8_lay 51 = .ok (.bipush 112, 2) := by decide +kernel
theorem dX8_lay_53 : decode cX8_lay 53 = .ok (.if_icmp .ge 16, 3) := by decide +kernel
theorem dX8_lay_56 : decode cX8_lay 56 = .ok (.aload_n 0, 1) := by decide +kernel
theorem dX8_lay_57 : decode cX8_lay 57 = .ok (.getfield 19, 3) := by decide +kernel
theorem dX8_lay_60 : decode cX8_lay 60 = .ok (.iload_n 1, 1) := by decide +kernel
theorem dX8_lay_61 : decode cX8_lay 61 = .ok (.iconst 0, 1) := by decide +kernel
theorem dX8_lay_62 : decode cX8_lay 62 = .ok (.iastore, 1) := by decide +kernel
theorem dX8_lay_63 : decode cX8_lay 63 = .ok (.iinc 1 1, 3) := by decide +kernel
theorem dX8_lay_66 : decode cX8_lay 66 = .ok (.goto (-16), 3) := by decide +kernel
theorem dX8_lay_69 : decode cX8_lay 69 = .ok (.aload_n 0, 1) := by decide +kernel
theorem dX8_lay_70 : decode cX8_lay 70 = .ok (.iconst 0, 1) := by decide +kernel
theorem dX8_lay_71 : decode cX8_lay 71 = .ok (.putfield 81, 3) := by decide +kernel
theorem dX8_lay_74 : decode cX8_lay 74 = .ok (.aload_n 0, 1) := by decide +kernel
theorem dX8_lay_75 : decode cX8_lay 75 = .ok (.getfield 13, 3) := by decide +kernel
theorem dX8_lay_78 : decode cX8_lay 78 = .ok (.bipush 23, 2) := by decide +kernel
theorem dX8_lay_80 : decode cX8_lay 80 = .ok (.iaload, 1) := by decide +kernel
theorem dX8_lay_81 : decode cX8_lay 81 = .ok (.ireturn, 1) := by decide +kernel
theorem dX8_isSeries_0 : decode cX8_isSeries 0 = .ok (.iload_n 1, 1) := by decide +kernel
theorem dX8_isSeries_1 : decode cX8_isSeries 1 = .ok (.i2l, 1) := by decide +kernel
theorem dX8_isSeries_2 : decode cX8_isSeries 2 = .ok (.lconst 0, 1) := by decide +kernel
theorem dX8_isSeries_3 : decode cX8_isSeries 3 = .ok (.aload_n 0, 1) := by decide +kernel
theorem dX8_isSeries_4 : decode cX8_isSeries 4 = .ok (.getfield 13, 3) := by decide +kernel
theorem dX8_isSeries_7 : decode cX8_isSeries 7 = .ok (.bipush 23, 2) := by decide +kernel
theorem dX8_isSeries_9 : decode cX8_isSeries 9 = .ok (.iaload, 1) := by decide +kernel
theorem dX8_isSeries_10 : decode cX8_isSeries 10 = .ok (.iconst 1, 1) := by decide +kernel
theorem dX8_isSeries_11 : decode cX8_isSeries 11 = .ok (.isub, 1) := by decide +kernel
theorem dX8_isSeries_12 : decode cX8_isSeries 12 = .ok (.i2l, 1) := by decide +kernel
theorem dX8_isSeries_13 : decode cX8_isSeries 13 = .ok (.invokestatic 33, 3) := by decide +kernel
theorem dX8_isSeries_16 : decode cX8_isSeries 16 = .ok (.ireturn, 1) := by decide +kernel
theorem dX8_isPress_0 : decode cX8_isPress 0 = .ok (.iload_n 1, 1) := by decide +kernel
theorem dX8_isPress_1 : decode cX8_isPress 1 = .ok (.i2l, 1) := by decide +kernel
theorem dX8_isPress_2 : decode cX8_isPress 2 = .ok (.lconst 0, 1) := by decide +kernel
theorem dX8_isPress_3 : decode cX8_isPress 3 = .ok (.aload_n 0, 1) := by decide +kernel
theorem dX8_isPress_4 : decode cX8_isPress 4 = .ok (.getfield 13, 3) := by decide +kernel
theorem dX8_isPress_7 : decode cX8_isPress 7 = .ok (.bipush 22, 2) := by decide +kernel
theorem dX8_isPress_9 : decode cX8_isPress 9 = .ok (.iaload, 1) := by decide +kernel
theorem dX8_isPress_10 : decode cX8_isPress 10 = .ok (.iconst 1, 1) := by decide +kernel
theorem dX8_isPress_11 : decode cX8_isPress 11 = .ok (.isub, 1) := by decide +kernel
theorem dX8_isPress_12 : decode cX8_isPress 12 = .ok (.i2l, 1) := by decide +kernel
theorem dX8_isPress_13 : decode cX8_isPress 13 = .ok (.invokestatic 33, 3) := by decide +kernel
theorem dX8_isPress_16 : decode cX8_isPress 16 = .ok (.ireturn, 1) := by decide +kernel
theorem dX8_sheets_0 : decode cX8_sheets 0 = .ok (.aload_n 0, 1) := by decide +kernel
theorem dX8_sheets_1 : decode cX8_sheets 1 = .ok (.getfield 13, 3) := by decide +kernel
theorem dX8_sheets_4 : decode cX8_sheets 4 = .ok (.iconst 4, 1) := by decide +kernel
theorem dX8_sheets_5 : decode cX8_sheets 5 = .ok (.bipush 6, 2) := by decide +kernel
theorem dX8_sheets_7 : decode cX8_sheets 7 = .ok (.iload_n 1, 1) := by decide +kernel
theorem dX8_sheets_8 : decode cX8_sheets 8 = .ok (.imul, 1) := by decide +kernel
theorem dX8_sheets_9 : decode cX8_sheets 9 = .ok (.iadd, 1) := by decide +kernel
theorem dX8_sheets_10 : decode cX8_sheets 10 = .ok (.iconst 2, 1) := by decide +kernel
theorem dX8_sheets_11 : decode cX8_sheets 11 = .ok (.iadd, 1) := by decide +kernel
theorem dX8_sheets_12 : decode cX8_sheets 12 = .ok (.iload_n 2, 1) := by decide +kernel
theorem dX8_sheets_13 : decode cX8_sheets 13 = .ok (.iadd, 1) := by decide +kernel
theorem dX8_sheets_14 : decode cX8_sheets 14 = .ok (.iaload, 1) := by decide +kernel
theorem dX8_sheets_15 : decode cX8_sheets 15 = .ok (.ireturn, 1) := by decide +kernel
theorem dX8_isNumber_0 : decode cX8_isNumber 0 = .ok (.aload_n 0, 1) := by decide +kernel
theorem dX8_isNumber_1 : decode cX8_isNumber 1 = .ok (.iload_n 1, 1) := by decide +kernel
theorem dX8_isNumber_2 : decode cX8_isNumber 2 = .ok (.invokevirtual 84, 3) := by decide +kernel
theorem dX8_isNumber_5 : decode cX8_isNumber 5 = .ok (.ifCond .eq 27, 3) := by decide +kernel
theorem dX8_isNumber_8 : decode cX8_isNumber 8 = .ok (.iload_n 2, 1) := by decide +kernel
theorem dX8_isNumber_9 : decode cX8_isNumber 9 = .ok (.i2l, 1) := by decide +kernel
theorem dX8_isNumber_10 : decode cX8_isNumber 10 = .ok (.lconst 0, 1) := by decide +kernel
theorem dX8_isNumber_11 : decode cX8_isNumber 11 = .ok (.aload_n 0, 1) := by decide +kernel
theorem dX8_isNumber_12 : decode cX8_isNumber 12 = .ok (.getfield 13, 3) := by decide +kernel
theorem dX8_isNumber_15 : decode cX8_isNumber 15 = .ok (.iload_n 1, 1) := by decide +kernel
theorem dX8_isNumber_16 : decode cX8_isNumber 16 = .ok (.invokestatic 64, 3) := by decide +kernel
theorem dX8_isNumber_19 : decode cX8_isNumber 19 = .ok (.iconst 1, 1) := by decide +kernel
theorem dX8_isNumber_20 : decode cX8_isNumber 20 = .ok (.isub, 1) := by decide +kernel
theorem dX8_isNumber_21 : decode cX8_isNumber 21 = .ok (.i2l, 1) := by decide +kernel
theorem dX8_isNumber_22 : decode cX8_isNumber 22 = .ok (.invokestatic 33, 3) := by decide +kernel
theorem dX8_isNumber_25 : decode cX8_isNumber 25 = .ok (.ifCond .eq 7, 3) := by decide +kernel
theorem dX8_isNumber_28 : decode cX8_isNumber 28 = .ok (.iconst 1, 1) := by decide +kernel
theorem dX8_isNumber_29 : decode cX8_isNumber 29 = .ok (.goto 4, 3) := by decide +kernel
theorem dX8_isNumber_32 : decode cX8_isNumber 32 = .ok (.iconst 0, 1) := by decide +kernel
theorem dX8_isNumber_33 : decode cX8_isNumber 33 = .ok (.ireturn, 1) := by decide +kernel
theorem dX8_first_0 : decode cX8_first 0 = .ok (.iconst 0, 1) := by decide +kernel
theorem dX8_first_1 : decode cX8_first 1 = .ok (.istore_n 3, 1) := by decide +kernel
theorem dX8_first_2 : decode cX8_first 2 = .ok (.iconst 0, 1) := by decide +kernel
theorem dX8_first_3 : decode cX8_first 3 = .ok (.istore 4, 2) := by decide +kernel
theorem dX8_first_5 : decode cX8_first 5 = .ok (.iload 4, 2) := by decide +kernel
theorem dX8_first_7 : decode cX8_first 7 = .ok (.iload_n 2, 1) := by decide +kernel
theorem dX8_first_8 : decode cX8_first 8 = .ok (.if_icmp .ge 27, 3) := by decide +kernel
theorem dX8_first_11 : decode cX8_first 11 = .ok (.iload_n 3, 1) := by decide +kernel
theorem dX8_first_12 : decode cX8_first 12 = .ok (.aload_n 0, 1) := by decide +kernel
theorem dX8_first_13 : decode cX8_first 13 = .ok (.getfield 13, 3) := by decide +kernel
theorem dX8_first_16 : decode cX8_first 16 = .ok (.iload 4, 2) := by decide +kernel
theorem dX8_first_18 : decode cX8_first 18 = .ok (.iaload, 1) := by decide +kernel
theorem dX8_first_19 : decode cX8_first 19 = .ok (.aload_n 0, 1) := by decide +kernel
theorem dX8_first_20 : decode cX8_first 20 = .ok (.iload_n 1, 1) := by decide +kernel
theorem dX8_first_21 : decode cX8_first 21 = .ok (.iload 4, 2) := by decide +kernel
theorem dX8_first_23 : decode cX8_first 23 = .ok (.invokevirtual 87, 3) := by decide +kernel
theorem dX8_first_26 : decode cX8_first 26 = .ok (.imul, 1) := by decide +kernel
theorem dX8_first_27 : decode cX8_first 27 = .ok (.iadd, 1) := by decide +kernel
theorem dX8_first_28 : decode cX8_first 28 = .ok (.istore_n 3, 1) := by decide +kernel
theorem dX8_first_29 : decode cX8_first 29 = .ok (.iinc 4 1, 3) := by decide +kernel
theorem dX8_first_32 : decode cX8_first 32 = .ok (.goto (-27), 3) := by decide +kernel
theorem dX8_first_35 : decode cX8_first 35 = .ok (.iload_n 3, 1) := by decide +kernel
theorem dX8_first_36 : decode cX8_first 36 = .ok (.ireturn, 1) := by decide +kernel
theorem dX8_pressOf_0 : decode cX8_pressOf 0 = .ok (.iconst 0, 1) := by decide +kernel
theorem dX8_pressOf_1 : decode cX8_pressOf 1 = .ok (.istore_n 3, 1) := by decide +kernel
theorem dX8_pressOf_2 : decode cX8_pressOf 2 = .ok (.iload_n 2, 1) := by decide +kernel
theorem dX8_pressOf_3 : decode cX8_pressOf 3 = .ok (.aload_n 0, 1) := by decide +kernel
theorem dX8_pressOf_4 : decode cX8_pressOf 4 = .ok (.iload_n 1, 1) := by decide +kernel
theorem dX8_pressOf_5 : decode cX8_pressOf 5 = .ok (.iload_n 3, 1) := by decide +kernel
theorem dX8_pressOf_6 : decode cX8_pressOf 6 = .ok (.iconst 1, 1) := by decide +kernel
theorem dX8_pressOf_7 : decode cX8_pressOf 7 = .ok (.iadd, 1) := by decide +kernel
theorem dX8_pressOf_8 : decode cX8_pressOf 8 = .ok (.invokevirtual 91, 3) := by decide +kernel
theorem dX8_pressOf_11 : decode cX8_pressOf 11 = .ok (.if_icmp .lt 9, 3) := by decide +kernel
theorem dX8_pressOf_14 : decode cX8_pressOf 14 = .ok (.iinc 3 1, 3) := by decide +kernel
theorem dX8_pressOf_17 : decode cX8_pressOf 17 = .ok (.goto (-15), 3) := by decide +kernel
theorem dX8_pressOf_20 : decode cX8_pressOf 20 = .ok (.iload_n 3, 1) := by decide +kernel
theorem dX8_pressOf_21 : decode cX8_pressOf 21 = .ok (.ireturn, 1) := by decide +kernel
theorem dX8_sheetOf_0 : decode cX8_sheetOf 0 = .ok (.aload_n 0, 1) := by decide +kernel
theorem dX8_sheetOf_1 : decode cX8_sheetOf 1 = .ok (.iload_n 1, 1) := by decide +kernel
theorem dX8_sheetOf_2 : decode cX8_sheetOf 2 = .ok (.iload_n 2, 1) := by decide +kernel
theorem dX8_sheetOf_3 : decode cX8_sheetOf 3 = .ok (.invokevirtual 94, 3) := by decide +kernel
theorem dX8_sheetOf_6 : decode cX8_sheetOf 6 = .ok (.istore_n 3, 1) := by decide +kernel
theorem dX8_sheetOf_7 : decode cX8_sheetOf 7 = .ok (.iload_n 2, 1) := by decide +kernel
theorem dX8_sheetOf_8 : decode cX8_sheetOf 8 = .ok (.aload_n 0, 1) := by decide +kernel
theorem dX8_sheetOf_9 : decode cX8_sheetOf 9 = .ok (.iload_n 1, 1) := by decide +kernel
theorem dX8_sheetOf_10 : decode cX8_sheetOf 10 = .ok (.iload_n 3, 1) := by decide +kernel
theorem dX8_sheetOf_11 : decode cX8_sheetOf 11 = .ok (.invokevirtual 91, 3) := by decide +kernel
theorem dX8_sheetOf_14 : decode cX8_sheetOf 14 = .ok (.isub, 1) := by decide +kernel
theorem dX8_sheetOf_15 : decode cX8_sheetOf 15 = .ok (.aload_n 0, 1) := by decide +kernel
theorem dX8_sheetOf_16 : decode cX8_sheetOf 16 = .ok (.iload_n 1, 1) := by decide +kernel
theorem dX8_sheetOf_17 : decode cX8_sheetOf 17 = .ok (.iload_n 3, 1) := by decide +kernel
theorem dX8_sheetOf_18 : decode cX8_sheetOf 18 = .ok (.invokevirtual 87, 3) := by decide +kernel
theorem dX8_sheetOf_21 : decode cX8_sheetOf 21 = .ok (.irem, 1) := by decide +kernel
theorem dX8_sheetOf_22 : decode cX8_sheetOf 22 = .ok (.ireturn, 1) := by decide +kernel
theorem dX8_isPrinted_0 : decode cX8_isPrinted 0 = .ok (.aload_n 0, 1) := by decide +kernel
theorem dX8_isPrinted_1 : decode cX8_isPrinted 1 = .ok (.iload_n 1, 1) := by decide +kernel
theorem dX8_isPrinted_2 : decode cX8_isPrinted 2 = .ok (.iload_n 2, 1) := by decide +kernel
theorem dX8_isPrinted_3 : decode cX8_isPrinted 3 = .ok (.invokevirtual 97, 3) := by decide +kernel
theorem dX8_isPrinted_6 : decode cX8_isPrinted 6 = .ok (.aload_n 0, 1) := by decide +kernel
theorem dX8_isPrinted_7 : decode cX8_isPrinted 7 = .ok (.getfield 19, 3) := by decide +kernel
theorem dX8_isPrinted_10 : decode cX8_isPrinted 10 = .ok (.iconst 4, 1) := by decide +kernel
theorem dX8_isPrinted_11 : decode cX8_isPrinted 11 = .ok (.iload_n 1, 1) := by decide +kernel
theorem dX8_isPrinted_12 : decode cX8_isPrinted 12 = .ok (.imul, 1) := by decide +kernel
theorem dX8_isPrinted_13 : decode cX8_isPrinted 13 = .ok (.aload_n 0, 1) := by decide +kernel
theorem dX8_isPrinted_14 : decode cX8_isPrinted 14 = .ok (.iload_n 1, 1) := by decide +kernel
theorem dX8_isPrinted_15 : decode cX8_isPrinted 15 = .ok (.iload_n 2, 1) := by decide +kernel
theorem dX8_isPrinted_16 : decode cX8_isPrinted 16 = .ok (.invokevirtual 94, 3) := by decide +kernel
theorem dX8_isPrinted_19 : decode cX8_isPrinted 19 = .ok (.iadd, 1) := by decide +kernel
theorem dX8_isPrinted_20 : decode cX8_isPrinted 20 = .ok (.iaload, 1) := by decide +kernel
theorem dX8_isPrinted_21 : decode cX8_isPrinted 21 = .ok (.if_icmp .ge 7, 3) := by decide +kernel
theorem dX8_isPrinted_24 : decode cX8_isPrinted 24 = .ok (.iconst 1, 1) := by decide +kernel
theorem dX8_isPrinted_25 : decode cX8_isPrinted 25 = .ok (.goto 4, 3) := by decide +kernel
theorem dX8_isPrinted_28 : decode cX8_isPrinted 28 = .ok (.iconst 0, 1) := by decide +kernel
theorem dX8_isPrinted_29 : decode cX8_isPrinted 29 = .ok (.ireturn, 1) := by decide +kernel
theorem dX8_starAt_0 : decode cX8_starAt 0 = .ok (.iconst 0, 1) := by decide +kernel
theorem dX8_starAt_1 : decode cX8_starAt 1 = .ok (.istore_n 3, 1) := by decide +kernel
theorem dX8_starAt_2 : decode cX8_starAt 2 = .ok (.iload_n 3, 1) := by decide +kernel
theorem dX8_starAt_3 : decode cX8_starAt 3 = .ok (.aload_n 0, 1) := by decide +kernel
theorem dX8_starAt_4 : decode cX8_starAt 4 = .ok (.getfield 19, 3) := by decide +kernel
theorem dX8_starAt_7 : decode cX8_starAt 7 = .ok (.bipush 111, 2) := by decide +kernel
theorem dX8_starAt_9 : decode cX8_starAt 9 = .ok (.iaload, 1) := by decide +kernel
theorem dX8_starAt_10 : decode cX8_starAt 10 = .ok (.if_icmp .ge 30, 3) := by decide +kernel
theorem dX8_starAt_13 : decode cX8_starAt 13 = .ok (.aload_n 0, 1) := by decide +kernel
theorem dX8_starAt_14 : decode cX8_starAt 14 = .ok (.getfield 19, 3) := by decide +kernel
theorem dX8_starAt_17 : decode cX8_starAt 17 = .ok (.bipush 12, 2) := by decide +kernel
theorem dX8_starAt_19 : decode cX8_starAt 19 = .ok (.iload_n 3, 1) := by decide +kernel
theorem dX8_starAt_20 : decode cX8_starAt 20 = .ok (.iadd, 1) := by decide +kernel
theorem dX8_starAt_21 : decode cX8_starAt 21 = .ok (.iaload, 1) := by decide +kernel
theorem dX8_starAt_22 : decode cX8_starAt 22 = .ok (.sipush 1000, 3) := by decide +kernel
theorem dX8_starAt_25 : decode cX8_starAt 25 = .ok (.iload_n 1, 1) := by decide +kernel
theorem dX8_starAt_26 : decode cX8_starAt 26 = .ok (.imul, 1) := by decide +kernel
theorem dX8_starAt_27 : decode cX8_starAt 27 = .ok (.iload_n 2, 1) := by decide +kernel
theorem dX8_starAt_28 : decode cX8_starAt 28 = .ok (.iadd, 1) := by decide +kernel
theorem dX8_starAt_29 : decode cX8_starAt 29 = .ok (.if_icmp .ne 5, 3) := by decide +kernel
theorem dX8_starAt_32 : decode cX8_starAt 32 = .ok (.iload_n 3, 1) := by decide +kernel
theorem dX8_starAt_33 : decode cX8_starAt 33 = .ok (.ireturn, 1) := by decide +kernel
theorem dX8_starAt_34 : decode cX8_starAt 34 = .ok (.iinc 3 1, 3) := by decide +kernel
theorem dX8_starAt_37 : decode cX8_starAt 37 = .ok (.goto (-35), 3) := by decide +kernel
theorem dX8_starAt_40 : decode cX8_starAt 40 = .ok (.bipush (-4), 2) := by decide +kernel
theorem dX8_starAt_42 : decode cX8_starAt 42 = .ok (.ireturn, 1) := by decide +kernel
theorem dX8_turned_0 : decode cX8_turned 0 = .ok (.iload_n 0, 1) := by decide +kernel
theorem dX8_turned_1 : decode cX8_turned 1 = .ok (.ifCond .ne 7, 3) := by decide +kernel
theorem dX8_turned_4 : decode cX8_turned 4 = .ok (.iconst 1, 1) := by decide +kernel
theorem dX8_turned_5 : decode cX8_turned 5 = .ok (.goto 83, 3) := by decide +kernel
theorem dX8_turned_8 : decode cX8_turned 8 = .ok (.iload_n 0, 1) := by decide +kernel
theorem dX8_turned_9 : decode cX8_turned 9 = .ok (.iconst 1, 1) := by decide +kernel
theorem dX8_turned_10 : decode cX8_turned 10 = .ok (.if_icmp .ne 7, 3) := by decide +kernel
theorem dX8_turned_13 : decode cX8_turned 13 = .ok (.iconst 5, 1) := by decide +kernel
theorem dX8_turned_14 : decode cX8_turned 14 = .ok (.goto 74, 3) := by decide +kernel
theorem dX8_turned_17 : decode cX8_turned 17 = .ok (.iload_n 0, 1) := by decide +kernel
theorem dX8_turned_18 : decode cX8_turned 18 = .ok (.iconst 2, 1) := by decide +kernel
theorem dX8_turned_19 : decode cX8_turned 19 = .ok (.if_icmp .ne 8, 3) := by decide +kernel
theorem dX8_turned_22 : decode cX8_turned 22 = .ok (.bipush 7, 2) := by decide +kernel
theorem dX8_turned_24 : decode cX8_turned 24 = .ok (.goto 64, 3) := by decide +kernel
theorem dX8_turned_27 : decode cX8_turned 27 = .ok (.iload_n 0, 1) := by decide +kernel
theorem dX8_turned_28 : decode cX8_turned 28 = .ok (.iconst 3, 1) := by decide +kernel
theorem dX8_turned_29 : decode cX8_turned 29 = .ok (.if_icmp .ne 8, 3) := by decide +kernel
theorem dX8_turned_32 : decode cX8_turned 32 = .ok (.bipush 6, 2) := by decide +kernel
theorem dX8_turned_34 : decode cX8_turned 34 = .ok (.goto 54, 3) := by decide +kernel
theorem dX8_turned_37 : decode cX8_turned 37 = .ok (.iload_n 0, 1) := by decide +kernel
theorem dX8_turned_38 : decode cX8_turned 38 = .ok (.iconst 4, 1) := by decide +kernel
theorem dX8_turned_39 : decode cX8_turned 39 = .ok (.if_icmp .ne 7, 3) := by decide +kernel
theorem dX8_turned_42 : decode cX8_turned 42 = .ok (.iconst 2, 1) := by decide +kernel
theorem dX8_turned_43 : decode cX8_turned 43 = .ok (.goto 45, 3) := by decide +kernel
theorem dX8_turned_46 : decode cX8_turned 46 = .ok (.iload_n 0, 1) := by decide +kernel
theorem dX8_turned_47 : decode cX8_turned 47 = .ok (.iconst 5, 1) := by decide +kernel
theorem dX8_turned_48 : decode cX8_turned 48 = .ok (.if_icmp .ne 8, 3) := by decide +kernel
theorem dX8_turned_51 : decode cX8_turned 51 = .ok (.bipush 8, 2) := by decide +kernel
theorem dX8_turned_53 : decode cX8_turned 53 = .ok (.goto 35, 3) := by decide +kernel
theorem dX8_turned_56 : decode cX8_turned 56 = .ok (.iload_n 0, 1) := by decide +kernel
theorem dX8_turned_57 : decode cX8_turned 57 = .ok (.bipush 6, 2) := by decide +kernel
theorem dX8_turned_59 : decode cX8_turned 59 = .ok (.if_icmp .ne 7, 3) := by decide +kernel
theorem dX8_turned_62 : decode cX8_turned 62 = .ok (.iconst 3, 1) := by decide +kernel
theorem dX8_turned_63 : decode cX8_turned 63 = .ok (.goto 25, 3) := by decide +kernel
theorem dX8_turned_66 : decode cX8_turned 66 = .ok (.iload_n 0, 1) := by decide +kernel
theorem dX8_turned_67 : decode cX8_turned 67 = .ok (.bipush 7, 2) := by decide +kernel
theorem dX8_turned_69 : decode cX8_turned 69 = .ok (.if_icmp .ne 7, 3) := by decide +kernel
theorem dX8_turned_72 : decode cX8_turned 72 = .ok (.iconst 0, 1) := by decide +kernel
theorem dX8_turned_73 : decode cX8_turned 73 = .ok (.goto 15, 3) := by decide +kernel
theorem dX8_turned_76 : decode cX8_turned 76 = .ok (.iload_n 0, 1) := by decide +kernel
theorem dX8_turned_77 : decode cX8_turned 77 = .ok (.bipush 8, 2) := by decide +kernel
theorem dX8_turned_79 : decode cX8_turned 79 = .ok (.if_icmp .ne 8, 3) := by decide +kernel
theorem dX8_turned_82 : decode cX8_turned 82 = .ok (.bipush 9, 2) := by decide +kernel
theorem dX8_turned_84 : decode cX8_turned 84 = .ok (.goto 4, 3) := by decide +kernel
theorem dX8_turned_87 : decode cX8_turned 87 = .ok (.iconst 4, 1) := by decide +kernel
theorem dX8_turned_88 : decode cX8_turned 88 = .ok (.ireturn, 1) := by decide +kernel
theorem dX8_make_0 : decode cX8_make 0 = .ok (.iload_n 0, 1) := by decide +kernel
theorem dX8_make_1 : decode cX8_make 1 = .ok (.iconst 4, 1) := by decide +kernel
theorem dX8_make_2 : decode cX8_make 2 = .ok (.if_icmp .le 13, 3) := by decide +kernel
theorem dX8_make_5 : decode cX8_make 5 = .ok (.iload_n 0, 1) := by decide +kernel
theorem dX8_make_6 : decode cX8_make 6 = .ok (.iload_n 1, 1) := by decide +kernel
theorem dX8_make_7 : decode cX8_make 7 = .ok (.isub, 1) := by decide +kernel
theorem dX8_make_8 : decode cX8_make 8 = .ok (.iconst 5, 1) := by decide +kernel
theorem dX8_make_9 : decode cX8_make 9 = .ok (.iadd, 1) := by decide +kernel
theorem dX8_make_10 : decode cX8_make 10 = .ok (.iconst 5, 1) := by decide +kernel
theorem dX8_make_11 : decode cX8_make 11 = .ok (.irem, 1) := by decide +kernel
theorem dX8_make_12 : decode cX8_make 12 = .ok (.goto 8, 3) := by decide +kernel
theorem dX8_make_15 : decode cX8_make 15 = .ok (.iload_n 0, 1) := by decide +kernel
theorem dX8_make_16 : decode cX8_make 16 = .ok (.iload_n 1, 1) := by decide +kernel
theorem dX8_make_17 : decode cX8_make 17 = .ok (.iadd, 1) := by decide +kernel
theorem dX8_make_18 : decode cX8_make 18 = .ok (.iconst 5, 1) := by decide +kernel
theorem dX8_make_19 : decode cX8_make 19 = .ok (.irem, 1) := by decide +kernel
theorem dX8_make_20 : decode cX8_make 20 = .ok (.istore_n 2, 1) := by decide +kernel
theorem dX8_make_21 : decode cX8_make 21 = .ok (.iload_n 0, 1) := by decide +kernel
theorem dX8_make_22 : decode cX8_make 22 = .ok (.iconst 4, 1) := by decide +kernel
theorem dX8_make_23 : decode cX8_make 23 = .ok (.if_icmp .le 7, 3) := by decide +kernel
theorem dX8_make_26 : decode cX8_make 26 = .ok (.iconst 1, 1) := by decide +kernel
theorem dX8_make_27 : decode cX8_make 27 = .ok (.goto 4, 3) := by decide +kernel
theorem dX8_make_30 : decode cX8_make 30 = .ok (.iconst 0, 1) := by decide +kernel
theorem dX8_make_31 : decode cX8_make 31 = .ok (.iload_n 1, 1) := by decide +kernel
theorem dX8_make_32 : decode cX8_make 32 = .ok (.iconst 4, 1) := by decide +kernel
theorem dX8_make_33 : decode cX8_make 33 = .ok (.if_icmp .le 7, 3) := by decide +kernel
theorem dX8_make_36 : decode cX8_make 36 = .ok (.iconst 1, 1) := by decide +kernel
theorem dX8_make_37 : decode cX8_make 37 = .ok (.goto 4, 3) := by decide +kernel
theorem dX8_make_40 : decode cX8_make 40 = .ok (.iconst 0, 1) := by decide +kernel
theorem dX8_make_41 : decode cX8_make 41 = .ok (.if_icmp .ne 7, 3) := by decide +kernel
theorem dX8_make_44 : decode cX8_make 44 = .ok (.iload_n 2, 1) := by decide +kernel
theorem dX8_make_45 : decode cX8_make 45 = .ok (.goto 6, 3) := by decide +kernel
theorem dX8_make_48 : decode cX8_make 48 = .ok (.iconst 5, 1) := by decide +kernel
theorem dX8_make_49 : decode cX8_make 49 = .ok (.iload_n 2, 1) := by decide +kernel
theorem dX8_make_50 : decode cX8_make 50 = .ok (.iadd, 1) := by decide +kernel
theorem dX8_make_51 : decode cX8_make 51 = .ok (.ireturn, 1) := by decide +kernel
theorem dX8_checkOf_0 : decode cX8_checkOf 0 = .ok (.iload_n 2, 1) := by decide +kernel
theorem dX8_checkOf_1 : decode cX8_checkOf 1 = .ok (.bipush 100, 2) := by decide +kernel
theorem dX8_checkOf_3 : decode cX8_checkOf 3 = .ok (.idiv, 1) := by decide +kernel
theorem dX8_checkOf_4 : decode cX8_checkOf 4 = .ok (.istore_n 3, 1) := by decide +kernel
theorem dX8_checkOf_5 : decode cX8_checkOf 5 = .ok (.iload_n 2, 1) := by decide +kernel
theorem dX8_checkOf_6 : decode cX8_checkOf 6 = .ok (.bipush 10, 2) := by decide +kernel
theorem dX8_checkOf_8 : decode cX8_checkOf 8 = .ok (.idiv, 1) := by decide +kernel
theorem dX8_checkOf_9 : decode cX8_checkOf 9 = .ok (.bipush 10, 2) := by decide +kernel
theorem dX8_checkOf_11 : decode cX8_checkOf 11 = .ok (.irem, 1) := by decide +kernel
theorem dX8_checkOf_12 : decode cX8_checkOf 12 = .ok (.istore 4, 2) := by decide +kernel
theorem dX8_checkOf_14 : decode cX8_checkOf 14 = .ok (.iload_n 2, 1) := by decide +kernel
theorem dX8_checkOf_15 : decode cX8_checkOf 15 = .ok (.bipush 10, 2) := by decide +kernel
theorem dX8_checkOf_17 : decode cX8_checkOf 17 = .ok (.irem, 1) := by decide +kernel
theorem dX8_checkOf_18 : decode cX8_checkOf 18 = .ok (.istore 5, 2) := by decide +kernel
theorem dX8_checkOf_20 : decode cX8_checkOf 20 = .ok (.iload_n 1, 1) := by decide +kernel
theorem dX8_checkOf_21 : decode cX8_checkOf 21 = .ok (.ifCond .ne 22, 3) := by decide +kernel
theorem dX8_checkOf_24 : decode cX8_checkOf 24 = .ok (.bipush 9, 2) := by decide +kernel
theorem dX8_checkOf_26 : decode cX8_checkOf 26 = .ok (.iload_n 0, 1) := by decide +kernel
theorem dX8_checkOf_27 : decode cX8_checkOf 27 = .ok (.iload_n 3, 1) := by decide +kernel
theorem dX8_checkOf_28 : decode cX8_checkOf 28 = .ok (.iadd, 1) := by decide +kernel
theorem dX8_checkOf_29 : decode cX8_checkOf 29 = .ok (.iload 4, 2) := by decide +kernel
theorem dX8_checkOf_31 : decode cX8_checkOf 31 = .ok (.iadd, 1) := by decide +kernel
theorem dX8_checkOf_32 : decode cX8_checkOf 32 = .ok (.iload 5, 2) := by decide +kernel
theorem dX8_checkOf_34 : decode cX8_checkOf 34 = .ok (.iadd, 1) := by decide +kernel
theorem dX8_checkOf_35 : decode cX8_checkOf 35 = .ok (.bipush 9, 2) := by decide +kernel
theorem dX8_checkOf_37 : decode cX8_checkOf 37 = .ok (.irem, 1) := by decide +kernel
theorem dX8_checkOf_38 : decode cX8_checkOf 38 = .ok (.isub, 1) := by decide +kernel
theorem dX8_checkOf_39 : decode cX8_checkOf 39 = .ok (.bipush 9, 2) := by decide +kernel
theorem dX8_checkOf_41 : decode cX8_checkOf 41 = .ok (.irem, 1) := by decide +kernel
theorem dX8_checkOf_42 : decode cX8_checkOf 42 = .ok (.ireturn, 1) := by decide +kernel
theorem dX8_checkOf_43 : decode cX8_checkOf 43 = .ok (.iload_n 1, 1) := by decide +kernel
theorem dX8_checkOf_44 : decode cX8_checkOf 44 = .ok (.iconst 1, 1) := by decide +kernel
theorem dX8_checkOf_45 : decode cX8_checkOf 45 = .ok (.if_icmp .ne 30, 3) := by decide +kernel
theorem dX8_checkOf_48 : decode cX8_checkOf 48 = .ok (.bipush 11, 2) := by decide +kernel
theorem dX8_checkOf_50 : decode cX8_checkOf 50 = .ok (.iconst 5, 1) := by decide +kernel
theorem dX8_checkOf_51 : decode cX8_checkOf 51 = .ok (.iload_n 0, 1) := by decide +kernel
theorem dX8_checkOf_52 : decode cX8_checkOf 52 = .ok (.imul, 1) := by decide +kernel
theorem dX8_checkOf_53 : decode cX8_checkOf 53 = .ok (.iconst 4, 1) := by decide +kernel
theorem dX8_checkOf_54 : decode cX8_checkOf 54 = .ok (.iload_n 3, 1) := by decide +kernel
theorem dX8_checkOf_55 : decode cX8_checkOf 55 = .ok (.imul, 1) := by decide +kernel
theorem dX8_checkOf_56 : decode cX8_checkOf 56 = .ok (.iadd, 1) := by decide +kernel
theorem dX8_checkOf_57 : decode cX8_checkOf 57 = .ok (.iconst 3, 1) := by decide +kernel
theorem dX8_checkOf_58 : decode cX8_checkOf 58 = .ok (.iload 4, 2) := by decide +kernel
theorem dX8_checkOf_60 : decode cX8_checkOf 60 = .ok (.imul, 1) := by decide +kernel
theorem dX8_checkOf_61 : decode cX8_checkOf 61 = .ok (.iadd, 1) := by decide +kernel
theorem dX8_checkOf_62 : decode cX8_checkOf 62 = .ok (.iconst 2, 1) := by decide +kernel
theorem dX8_checkOf_63 : decode cX8_checkOf 63 = .ok (.iload 5, 2) := by decide +kernel
theorem dX8_checkOf_65 : decode cX8_checkOf 65 = .ok (.imul, 1) := by decide +kernel
theorem dX8_checkOf_66 : decode cX8_checkOf 66 = .ok (.iadd, 1) := by decide +kernel
theorem dX8_checkOf_67 : decode cX8_checkOf 67 = .ok (.bipush 11, 2) := by decide +kernel
theorem dX8_checkOf_69 : decode cX8_checkOf 69 = .ok (.irem, 1) := by decide +kernel
theorem dX8_checkOf_70 : decode cX8_checkOf 70 = .ok (.isub, 1) := by decide +kernel
theorem dX8_checkOf_71 : decode cX8_checkOf 71 = .ok (.bipush 11, 2) := by decide +kernel
theorem dX8_checkOf_73 : decode cX8_checkOf 73 = .ok (.irem, 1) := by decide +kernel
theorem dX8_checkOf_74 : decode cX8_checkOf 74 = .ok (.ireturn, 1) := by decide +kernel
theorem dX8_checkOf_75 : decode cX8_checkOf 75 = .ok (.iload_n 0, 1) := by decide +kernel
theorem dX8_checkOf_76 : decode cX8_checkOf 76 = .ok (.bipush 10, 2) := by decide +kernel
theorem dX8_checkOf_78 : decode cX8_checkOf 78 = .ok (.irem, 1) := by decide +kernel
theorem dX8_checkOf_79 : decode cX8_checkOf 79 = .ok (.iload_n 3, 1) := by decide +kernel
theorem dX8_checkOf_80 : decode cX8_checkOf 80 = .ok (.invokestatic 100, 3) := by decide +kernel
theorem dX8_checkOf_83 : decode cX8_checkOf 83 = .ok (.invokestatic 103, 3) := by decide +kernel
theorem dX8_checkOf_86 : decode cX8_checkOf 86 = .ok (.istore 6, 2) := by decide +kernel
theorem dX8_checkOf_88 : decode cX8_checkOf 88 = .ok (.iload 6, 2) := by decide +kernel
theorem dX8_checkOf_90 : decode cX8_checkOf 90 = .ok (.iload 4, 2) := by decide +kernel
theorem dX8_checkOf_92 : decode cX8_checkOf 92 = .ok (.invokestatic 100, 3) := by decide +kernel
theorem dX8_checkOf_95 : decode cX8_checkOf 95 = .ok (.invokestatic 100, 3) := by decide +kernel
theorem dX8_checkOf_98 : decode cX8_checkOf 98 = .ok (.invokestatic 103, 3) := by decide +kernel
theorem dX8_checkOf_101 : decode cX8_checkOf 101 = .ok (.istore 6, 2) := by decide +kernel
theorem dX8_checkOf_103 : decode cX8_checkOf 103 = .ok (.iload 6, 2) := by decide +kernel
theorem dX8_checkOf_105 : decode cX8_checkOf 105 = .ok (.iload 5, 2) := by decide +kernel
theorem dX8_checkOf_107 : decode cX8_checkOf 107 = .ok (.invokestatic 100, 3) := by decide +kernel
theorem dX8_checkOf_110 : decode cX8_checkOf 110 = .ok (.invokestatic 100, 3) := by decide +kernel
theorem dX8_checkOf_113 : decode cX8_checkOf 113 = .ok (.invokestatic 100, 3) := by decide +kernel
theorem dX8_checkOf_116 : decode cX8_checkOf 116 = .ok (.invokestatic 103, 3) := by decide +kernel
theorem dX8_checkOf_119 : decode cX8_checkOf 119 = .ok (.istore 6, 2) := by decide +kernel
theorem dX8_checkOf_121 : decode cX8_checkOf 121 = .ok (.iconst 0, 1) := by decide +kernel
theorem dX8_checkOf_122 : decode cX8_checkOf 122 = .ok (.istore 7, 2) := by decide +kernel
theorem dX8_checkOf_124 : decode cX8_checkOf 124 = .ok (.iload 6, 2) := by decide +kernel
theorem dX8_checkOf_126 : decode cX8_checkOf 126 = .ok (.iload 7, 2) := by decide +kernel
theorem dX8_checkOf_128 : decode cX8_checkOf 128 = .ok (.invokestatic 103, 3) := by decide +kernel
theorem dX8_checkOf_131 : decode cX8_checkOf 131 = .ok (.ifCond .eq 9, 3) := by decide +kernel
theorem dX8_checkOf_134 : decode cX8_checkOf 134 = .ok (.iinc 7 1, 3) := by decide +kernel
theorem dX8_checkOf_137 : decode cX8_checkOf 137 = .ok (.goto (-13), 3) := by decide +kernel
theorem dX8_checkOf_140 : decode cX8_checkOf 140 = .ok (.iload 7, 2) := by decide +kernel
theorem dX8_checkOf_142 : decode cX8_checkOf 142 = .ok (.ireturn, 1) := by decide +kernel
theorem dX8_checkIn_0 : decode cX8_checkIn 0 = .ok (.aload_n 0, 1) := by decide +kernel
theorem dX8_checkIn_1 : decode cX8_checkIn 1 = .ok (.getfield 13, 3) := by decide +kernel
theorem dX8_checkIn_4 : decode cX8_checkIn 4 = .ok (.iconst 4, 1) := by decide +kernel
theorem dX8_checkIn_5 : decode cX8_checkIn 5 = .ok (.bipush 6, 2) := by decide +kernel
theorem dX8_checkIn_7 : decode cX8_checkIn 7 = .ok (.iload_n 1, 1) := by decide +kernel
theorem dX8_checkIn_8 : decode cX8_checkIn 8 = .ok (.imul, 1) := by decide +kernel
theorem dX8_checkIn_9 : decode cX8_checkIn 9 = .ok (.iadd, 1) := by decide +kernel
theorem dX8_checkIn_10 : decode cX8_checkIn 10 = .ok (.iaload, 1) := by decide +kernel
theorem dX8_checkIn_11 : decode cX8_checkIn 11 = .ok (.aload_n 0, 1) := by decide +kernel
theorem dX8_checkIn_12 : decode cX8_checkIn 12 = .ok (.getfield 13, 3) := by decide +kernel
theorem dX8_checkIn_15 : decode cX8_checkIn 15 = .ok (.iconst 4, 1) := by decide +kernel
theorem dX8_checkIn_16 : decode cX8_checkIn 16 = .ok (.bipush 6, 2) := by decide +kernel
theorem dX8_checkIn_18 : decode cX8_checkIn 18 = .ok (.iload_n 1, 1) := by decide +kernel
theorem dX8_checkIn_19 : decode cX8_checkIn 19 = .ok (.imul, 1) := by decide +kernel
theorem dX8_checkIn_20 : decode cX8_checkIn 20 = .ok (.iadd, 1) := by decide +kernel
theorem dX8_checkIn_21 : decode cX8_checkIn 21 = .ok (.iconst 1, 1) := by decide +kernel
theorem dX8_checkIn_22 : decode cX8_checkIn 22 = .ok (.iadd, 1) := by decide +kernel
theorem dX8_checkIn_23 : decode cX8_checkIn 23 = .ok (.iaload, 1) := by decide +kernel
theorem dX8_checkIn_24 : decode cX8_checkIn 24 = .ok (.iload_n 2, 1) := by decide +kernel
theorem dX8_checkIn_25 : decode cX8_checkIn 25 = .ok (.invokestatic 106, 3) := by decide +kernel
theorem dX8_checkIn_28 : decode cX8_checkIn 28 = .ok (.ireturn, 1) := by decide +kernel
theorem dX8_check_0 : decode cX8_check 0 = .ok (.aload_n 0, 1) := by decide +kernel
theorem dX8_check_1 : decode cX8_check 1 = .ok (.iload_n 1, 1) := by decide +kernel
theorem dX8_check_2 : decode cX8_check 2 = .ok (.invokevirtual 84, 3) := by decide +kernel
theorem dX8_check_5 : decode cX8_check 5 = .ok (.ifCond .eq 24, 3) := by decide +kernel
theorem dX8_check_8 : decode cX8_check 8 = .ok (.iload_n 2, 1) := by decide +kernel
theorem dX8_check_9 : decode cX8_check 9 = .ok (.i2l, 1) := by decide +kernel
theorem dX8_check_10 : decode cX8_check 10 = .ok (.lconst 0, 1) := by decide +kernel
theorem dX8_check_11 : decode cX8_check 11 = .ok (.ldc2_w 68, 3) := by decide +kernel
theorem dX8_check_14 : decode cX8_check 14 = .ok (.invokestatic 33, 3) := by decide +kernel
theorem dX8_check_17 : decode cX8_check 17 = .ok (.ifCond .eq 12, 3) := by decide +kernel
theorem dX8_check_20 : decode cX8_check 20 = .ok (.aload_n 0, 1) := by decide +kernel
theorem dX8_check_21 : decode cX8_check 21 = .ok (.iload_n 1, 1) := by decide +kernel
theorem dX8_check_22 : decode cX8_check 22 = .ok (.iload_n 2, 1) := by decide +kernel
theorem dX8_check_23 : decode cX8_check 23 = .ok (.invokevirtual 110, 3) := by decide +kernel
end
section
theorem dX8_check_26 : decode cX8_check 26 = .ok (.goto 4, 3) := by decide +kernel
theorem dX8_check_29 : decode cX8_check 29 = .ok (.iconst (-1), 1) := by decide +kernel
theorem dX8_check_30 : decode cX8_check 30 = .ok (.ireturn, 1) := by decide +kernel
theorem dX8_missed_0 : decode cX8_missed 0 = .ok (.aload_n 0, 1) := by decide +kernel
theorem dX8_missed_1 : decode cX8_missed 1 = .ok (.iload_n 1, 1) := by decide +kernel
theorem dX8_missed_2 : decode cX8_missed 2 = .ok (.invokevirtual 84, 3) := by decide +kernel
theorem dX8_missed_5 : decode cX8_missed 5 = .ok (.ifCond .eq 25, 3) := by decide +kernel
theorem dX8_missed_8 : decode cX8_missed 8 = .ok (.iload_n 2, 1) := by decide +kernel
theorem dX8_missed_9 : decode cX8_missed 9 = .ok (.i2l, 1) := by decide +kernel
theorem dX8_missed_10 : decode cX8_missed 10 = .ok (.lconst 0, 1) := by decide +kernel
theorem dX8_missed_11 : decode cX8_missed 11 = .ok (.ldc2_w 68, 3) := by decide +kernel
theorem dX8_missed_14 : decode cX8_missed 14 = .ok (.invokestatic 33, 3) := by decide +kernel
theorem dX8_missed_17 : decode cX8_missed 17 = .ok (.ifCond .eq 13, 3) := by decide +kernel
theorem dX8_missed_20 : decode cX8_missed 20 = .ok (.iload_n 3, 1) := by decide +kernel
theorem dX8_missed_21 : decode cX8_missed 21 = .ok (.i2l, 1) := by decide +kernel
theorem dX8_missed_22 : decode cX8_missed 22 = .ok (.lconst 0, 1) := by decide +kernel
theorem dX8_missed_23 : decode cX8_missed 23 = .ok (.lconst 1, 1) := by decide +kernel
theorem dX8_missed_24 : decode cX8_missed 24 = .ok (.invokestatic 33, 3) := by decide +kernel
theorem dX8_missed_27 : decode cX8_missed 27 = .ok (.ifCond .ne 5, 3) := by decide +kernel
theorem dX8_missed_30 : decode cX8_missed 30 = .ok (.iconst (-1), 1) := by decide +kernel
theorem dX8_missed_31 : decode cX8_missed 31 = .ok (.ireturn, 1) := by decide +kernel
theorem dX8_missed_32 : decode cX8_missed 32 = .ok (.aload_n 0, 1) := by decide +kernel
theorem dX8_missed_33 : decode cX8_missed 33 = .ok (.iload_n 1, 1) := by decide +kernel
theorem dX8_missed_34 : decode cX8_missed 34 = .ok (.iload_n 2, 1) := by decide +kernel
theorem dX8_missed_35 : decode cX8_missed 35 = .ok (.invokevirtual 110, 3) := by decide +kernel
theorem dX8_missed_38 : decode cX8_missed 38 = .ok (.istore 4, 2) := by decide +kernel
theorem dX8_missed_40 : decode cX8_missed 40 = .ok (.iconst 0, 1) := by decide +kernel
theorem dX8_missed_41 : decode cX8_missed 41 = .ok (.istore 5, 2) := by decide +kernel
theorem dX8_missed_43 : decode cX8_missed 43 = .ok (.iload_n 3, 1) := by decide +kernel
theorem dX8_missed_44 : decode cX8_missed 44 = .ok (.iconst 1, 1) := by decide +kernel
theorem dX8_missed_45 : decode cX8_missed 45 = .ok (.if_icmp .ne 109, 3) := by decide +kernel
theorem dX8_missed_48 : decode cX8_missed 48 = .ok (.iload_n 2, 1) := by decide +kernel
theorem dX8_missed_49 : decode cX8_missed 49 = .ok (.bipush 100, 2) := by decide +kernel
theorem dX8_missed_51 : decode cX8_missed 51 = .ok (.idiv, 1) := by decide +kernel
theorem dX8_missed_52 : decode cX8_missed 52 = .ok (.istore 6, 2) := by decide +kernel
theorem dX8_missed_54 : decode cX8_missed 54 = .ok (.iload_n 2, 1) := by decide +kernel
theorem dX8_missed_55 : decode cX8_missed 55 = .ok (.bipush 10, 2) := by decide +kernel
theorem dX8_missed_57 : decode cX8_missed 57 = .ok (.idiv, 1) := by decide +kernel
theorem dX8_missed_58 : decode cX8_missed 58 = .ok (.bipush 10, 2) := by decide +kernel
theorem dX8_missed_60 : decode cX8_missed 60 = .ok (.irem, 1) := by decide +kernel
theorem dX8_missed_61 : decode cX8_missed 61 = .ok (.istore 7, 2) := by decide +kernel
theorem dX8_missed_63 : decode cX8_missed 63 = .ok (.iload_n 2, 1) := by decide +kernel
theorem dX8_missed_64 : decode cX8_missed 64 = .ok (.bipush 10, 2) := by decide +kernel
theorem dX8_missed_66 : decode cX8_missed 66 = .ok (.irem, 1) := by decide +kernel
theorem dX8_missed_67 : decode cX8_missed 67 = .ok (.istore 8, 2) := by decide +kernel
theorem dX8_missed_69 : decode cX8_missed 69 = .ok (.iload 5, 2) := by decide +kernel
theorem dX8_missed_71 : decode cX8_missed 71 = .ok (.iload 6, 2) := by decide +kernel
theorem dX8_missed_73 : decode cX8_missed 73 = .ok (.iload 7, 2) := by decide +kernel
theorem dX8_missed_75 : decode cX8_missed 75 = .ok (.if_icmp .eq 31, 3) := by decide +kernel
theorem dX8_missed_78 : decode cX8_missed 78 = .ok (.aload_n 0, 1) := by decide +kernel
theorem dX8_missed_79 : decode cX8_missed 79 = .ok (.iload_n 1, 1) := by decide +kernel
theorem dX8_missed_80 : decode cX8_missed 80 = .ok (.bipush 100, 2) := by decide +kernel
theorem dX8_missed_82 : decode cX8_missed 82 = .ok (.iload 7, 2) := by decide +kernel
theorem dX8_missed_84 : decode cX8_missed 84 = .ok (.imul, 1) := by decide +kernel
theorem dX8_missed_85 : decode cX8_missed 85 = .ok (.bipush 10, 2) := by decide +kernel
theorem dX8_missed_87 : decode cX8_missed 87 = .ok (.iload 6, 2) := by decide +kernel
theorem dX8_missed_89 : decode cX8_missed 89 = .ok (.imul, 1) := by decide +kernel
theorem dX8_missed_90 : decode cX8_missed 90 = .ok (.iadd, 1) := by decide +kernel
theorem dX8_missed_91 : decode cX8_missed 91 = .ok (.iload 8, 2) := by decide +kernel
theorem dX8_missed_93 : decode cX8_missed 93 = .ok (.iadd, 1) := by decide +kernel
theorem dX8_missed_94 : decode cX8_missed 94 = .ok (.invokevirtual 110, 3) := by decide +kernel
theorem dX8_missed_97 : decode cX8_missed 97 = .ok (.iload 4, 2) := by decide +kernel
theorem dX8_missed_99 : decode cX8_missed 99 = .ok (.if_icmp .ne 7, 3) := by decide +kernel
theorem dX8_missed_102 : decode cX8_missed 102 = .ok (.iconst 1, 1) := by decide +kernel
theorem dX8_missed_103 : decode cX8_missed 103 = .ok (.goto 4, 3) := by decide +kernel
theorem dX8_missed_106 : decode cX8_missed 106 = .ok (.iconst 0, 1) := by decide +kernel
theorem dX8_missed_107 : decode cX8_missed 107 = .ok (.iadd, 1) := by decide +kernel
theorem dX8_missed_108 : decode cX8_missed 108 = .ok (.istore 5, 2) := by decide +kernel
theorem dX8_missed_110 : decode cX8_missed 110 = .ok (.iload 5, 2) := by decide +kernel
theorem dX8_missed_112 : decode cX8_missed 112 = .ok (.iload 7, 2) := by decide +kernel
theorem dX8_missed_114 : decode cX8_missed 114 = .ok (.iload 8, 2) := by decide +kernel
theorem dX8_missed_116 : decode cX8_missed 116 = .ok (.if_icmp .eq 31, 3) := by decide +kernel
theorem dX8_missed_119 : decode cX8_missed 119 = .ok (.aload_n 0, 1) := by decide +kernel
theorem dX8_missed_120 : decode cX8_missed 120 = .ok (.iload_n 1, 1) := by decide +kernel
theorem dX8_missed_121 : decode cX8_missed 121 = .ok (.bipush 100, 2) := by decide +kernel
theorem dX8_missed_123 : decode cX8_missed 123 = .ok (.iload 6, 2) := by decide +kernel
theorem dX8_missed_125 : decode cX8_missed 125 = .ok (.imul, 1) := by decide +kernel
theorem dX8_missed_126 : decode cX8_missed 126 = .ok (.bipush 10, 2) := by decide +kernel
theorem dX8_missed_128 : decode cX8_missed 128 = .ok (.iload 8, 2) := by decide +kernel
theorem dX8_missed_130 : decode cX8_missed 130 = .ok (.imul, 1) := by decide +kernel
theorem dX8_missed_131 : decode cX8_missed 131 = .ok (.iadd, 1) := by decide +kernel
theorem dX8_missed_132 : decode cX8_missed 132 = .ok (.iload 7, 2) := by decide +kernel
theorem dX8_missed_134 : decode cX8_missed 134 = .ok (.iadd, 1) := by decide +kernel
theorem dX8_missed_135 : decode cX8_missed 135 = .ok (.invokevirtual 110, 3) := by decide +kernel
theorem dX8_missed_138 : decode cX8_missed 138 = .ok (.iload 4, 2) := by decide +kernel
theorem dX8_missed_140 : decode cX8_missed 140 = .ok (.if_icmp .ne 7, 3) := by decide +kernel
theorem dX8_missed_143 : decode cX8_missed 143 = .ok (.iconst 1, 1) := by decide +kernel
theorem dX8_missed_144 : decode cX8_missed 144 = .ok (.goto 4, 3) := by decide +kernel
theorem dX8_missed_147 : decode cX8_missed 147 = .ok (.iconst 0, 1) := by decide +kernel
theorem dX8_missed_148 : decode cX8_missed 148 = .ok (.iadd, 1) := by decide +kernel
theorem dX8_missed_149 : decode cX8_missed 149 = .ok (.istore 5, 2) := by decide +kernel
theorem dX8_missed_151 : decode cX8_missed 151 = .ok (.iload 5, 2) := by decide +kernel
theorem dX8_missed_153 : decode cX8_missed 153 = .ok (.ireturn, 1) := by decide +kernel
theorem dX8_missed_154 : decode cX8_missed 154 = .ok (.iconst 1, 1) := by decide +kernel
theorem dX8_missed_155 : decode cX8_missed 155 = .ok (.istore 6, 2) := by decide +kernel
theorem dX8_missed_157 : decode cX8_missed 157 = .ok (.iload 6, 2) := by decide +kernel
theorem dX8_missed_159 : decode cX8_missed 159 = .ok (.sipush 1000, 3) := by decide +kernel
theorem dX8_missed_162 : decode cX8_missed 162 = .ok (.if_icmp .ge 74, 3) := by decide +kernel
theorem dX8_missed_165 : decode cX8_missed 165 = .ok (.iconst 0, 1) := by decide +kernel
theorem dX8_missed_166 : decode cX8_missed 166 = .ok (.istore 7, 2) := by decide +kernel
theorem dX8_missed_168 : decode cX8_missed 168 = .ok (.iload 7, 2) := by decide +kernel
theorem dX8_missed_170 : decode cX8_missed 170 = .ok (.bipush 10, 2) := by decide +kernel
theorem dX8_missed_172 : decode cX8_missed 172 = .ok (.if_icmp .ge 54, 3) := by decide +kernel
theorem dX8_missed_175 : decode cX8_missed 175 = .ok (.iload_n 2, 1) := by decide +kernel
theorem dX8_missed_176 : decode cX8_missed 176 = .ok (.iload 7, 2) := by decide +kernel
theorem dX8_missed_178 : decode cX8_missed 178 = .ok (.iload_n 2, 1) := by decide +kernel
theorem dX8_missed_179 : decode cX8_missed 179 = .ok (.iload 6, 2) := by decide +kernel
theorem dX8_missed_181 : decode cX8_missed 181 = .ok (.idiv, 1) := by decide +kernel
theorem dX8_missed_182 : decode cX8_missed 182 = .ok (.bipush 10, 2) := by decide +kernel
theorem dX8_missed_184 : decode cX8_missed 184 = .ok (.irem, 1) := by decide +kernel
theorem dX8_missed_185 : decode cX8_missed 185 = .ok (.isub, 1) := by decide +kernel
theorem dX8_missed_186 : decode cX8_missed 186 = .ok (.iload 6, 2) := by decide +kernel
theorem dX8_missed_188 : decode cX8_missed 188 = .ok (.imul, 1) := by decide +kernel
theorem dX8_missed_189 : decode cX8_missed 189 = .ok (.iadd, 1) := by decide +kernel
theorem dX8_missed_190 : decode cX8_missed 190 = .ok (.istore 8, 2) := by decide +kernel
theorem dX8_missed_192 : decode cX8_missed 192 = .ok (.iload 5, 2) := by decide +kernel
theorem dX8_missed_194 : decode cX8_missed 194 = .ok (.iload 8, 2) := by decide +kernel
theorem dX8_missed_196 : decode cX8_missed 196 = .ok (.iload_n 2, 1) := by decide +kernel
theorem dX8_missed_197 : decode cX8_missed 197 = .ok (.if_icmp .eq 19, 3) := by decide +kernel
theorem dX8_missed_200 : decode cX8_missed 200 = .ok (.aload_n 0, 1) := by decide +kernel
theorem dX8_missed_201 : decode cX8_missed 201 = .ok (.iload_n 1, 1) := by decide +kernel
theorem dX8_missed_202 : decode cX8_missed 202 = .ok (.iload 8, 2) := by decide +kernel
theorem dX8_missed_204 : decode cX8_missed 204 = .ok (.invokevirtual 110, 3) := by decide +kernel
theorem dX8_missed_207 : decode cX8_missed 207 = .ok (.iload 4, 2) := by decide +kernel
theorem dX8_missed_209 : decode cX8_missed 209 = .ok (.if_icmp .ne 7, 3) := by decide +kernel
theorem dX8_missed_212 : decode cX8_missed 212 = .ok (.iconst 1, 1) := by decide +kernel
theorem dX8_missed_213 : decode cX8_missed 213 = .ok (.goto 4, 3) := by decide +kernel
theorem dX8_missed_216 : decode cX8_missed 216 = .ok (.iconst 0, 1) := by decide +kernel
theorem dX8_missed_217 : decode cX8_missed 217 = .ok (.iadd, 1) := by decide +kernel
theorem dX8_missed_218 : decode cX8_missed 218 = .ok (.istore 5, 2) := by decide +kernel
theorem dX8_missed_220 : decode cX8_missed 220 = .ok (.iinc 7 1, 3) := by decide +kernel
theorem dX8_missed_223 : decode cX8_missed 223 = .ok (.goto (-55), 3) := by decide +kernel
theorem dX8_missed_226 : decode cX8_missed 226 = .ok (.iload 6, 2) := by decide +kernel
theorem dX8_missed_228 : decode cX8_missed 228 = .ok (.bipush 10, 2) := by decide +kernel
theorem dX8_missed_230 : decode cX8_missed 230 = .ok (.imul, 1) := by decide +kernel
theorem dX8_missed_231 : decode cX8_missed 231 = .ok (.istore 6, 2) := by decide +kernel
theorem dX8_missed_233 : decode cX8_missed 233 = .ok (.goto (-76), 3) := by decide +kernel
theorem dX8_missed_236 : decode cX8_missed 236 = .ok (.iload 5, 2) := by decide +kernel
theorem dX8_missed_238 : decode cX8_missed 238 = .ok (.ireturn, 1) := by decide +kernel
theorem dX8_note1_0 : decode cX8_note1 0 = .ok (.aload_n 0, 1) := by decide +kernel
theorem dX8_note1_1 : decode cX8_note1 1 = .ok (.getfield 81, 3) := by decide +kernel
theorem dX8_note1_4 : decode cX8_note1 4 = .ok (.bipush 6, 2) := by decide +kernel
theorem dX8_note1_6 : decode cX8_note1 6 = .ok (.if_icmp .ne 43, 3) := by decide +kernel
theorem dX8_note1_9 : decode cX8_note1 9 = .ok (.iconst 0, 1) := by decide +kernel
theorem dX8_note1_10 : decode cX8_note1 10 = .ok (.istore_n 1, 1) := by decide +kernel
theorem dX8_note1_11 : decode cX8_note1 11 = .ok (.iload_n 1, 1) := by decide +kernel
theorem dX8_note1_12 : decode cX8_note1 12 = .ok (.sipush 560, 3) := by decide +kernel
theorem dX8_note1_15 : decode cX8_note1 15 = .ok (.if_icmp .ge 24, 3) := by decide +kernel
theorem dX8_note1_18 : decode cX8_note1 18 = .ok (.aload_n 0, 1) := by decide +kernel
theorem dX8_note1_19 : decode cX8_note1 19 = .ok (.getfield 22, 3) := by decide +kernel
theorem dX8_note1_22 : decode cX8_note1 22 = .ok (.iload_n 1, 1) := by decide +kernel
theorem dX8_note1_23 : decode cX8_note1 23 = .ok (.aload_n 0, 1) := by decide +kernel
theorem dX8_note1_24 : decode cX8_note1 24 = .ok (.getfield 22, 3) := by decide +kernel
theorem dX8_note1_27 : decode cX8_note1 27 = .ok (.bipush 112, 2) := by decide +kernel
theorem dX8_note1_29 : decode cX8_note1 29 = .ok (.iload_n 1, 1) := by decide +kernel
theorem dX8_note1_30 : decode cX8_note1 30 = .ok (.iadd, 1) := by decide +kernel
theorem dX8_note1_31 : decode cX8_note1 31 = .ok (.iaload, 1) := by decide +kernel
theorem dX8_note1_32 : decode cX8_note1 32 = .ok (.iastore, 1) := by decide +kernel
theorem dX8_note1_33 : decode cX8_note1 33 = .ok (.iinc 1 1, 3) := by decide +kernel
theorem dX8_note1_36 : decode cX8_note1 36 = .ok (.goto (-25), 3) := by decide +kernel
theorem dX8_note1_39 : decode cX8_note1 39 = .ok (.aload_n 0, 1) := by decide +kernel
theorem dX8_note1_40 : decode cX8_note1 40 = .ok (.dup, 1) := by decide +kernel
theorem dX8_note1_41 : decode cX8_note1 41 = .ok (.getfield 81, 3) := by decide +kernel
theorem dX8_note1_44 : decode cX8_note1 44 = .ok (.iconst 1, 1) := by decide +kernel
theorem dX8_note1_45 : decode cX8_note1 45 = .ok (.isub, 1) := by decide +kernel
theorem dX8_note1_46 : decode cX8_note1 46 = .ok (.putfield 81, 3) := by decide +kernel
theorem dX8_note1_49 : decode cX8_note1 49 = .ok (.iconst 0, 1) := by decide +kernel
theorem dX8_note1_50 : decode cX8_note1 50 = .ok (.istore_n 1, 1) := by decide +kernel
theorem dX8_note1_51 : decode cX8_note1 51 = .ok (.iload_n 1, 1) := by decide +kernel
theorem dX8_note1_52 : decode cX8_note1 52 = .ok (.bipush 112, 2) := by decide +kernel
theorem dX8_note1_54 : decode cX8_note1 54 = .ok (.if_icmp .ge 29, 3) := by decide +kernel
theorem dX8_note1_57 : decode cX8_note1 57 = .ok (.aload_n 0, 1) := by decide +kernel
theorem dX8_note1_58 : decode cX8_note1 58 = .ok (.getfield 22, 3) := by decide +kernel
theorem dX8_note1_61 : decode cX8_note1 61 = .ok (.bipush 112, 2) := by decide +kernel
theorem dX8_note1_63 : decode cX8_note1 63 = .ok (.aload_n 0, 1) := by decide +kernel
theorem dX8_note1_64 : decode cX8_note1 64 = .ok (.getfield 81, 3) := by decide +kernel
theorem dX8_note1_67 : decode cX8_note1 67 = .ok (.imul, 1) := by decide +kernel
theorem dX8_note1_68 : decode cX8_note1 68 = .ok (.iload_n 1, 1) := by decide +kernel
theorem dX8_note1_69 : decode cX8_note1 69 = .ok (.iadd, 1) := by decide +kernel
theorem dX8_note1_70 : decode cX8_note1 70 = .ok (.aload_n 0, 1) := by decide +kernel
theorem dX8_note1_71 : decode cX8_note1 71 = .ok (.getfield 19, 3) := by decide +kernel
theorem dX8_note1_74 : decode cX8_note1 74 = .ok (.iload_n 1, 1) := by decide +kernel
theorem dX8_note1_75 : decode cX8_note1 75 = .ok (.iaload, 1) := by decide +kernel
theorem dX8_note1_76 : decode cX8_note1 76 = .ok (.iastore, 1) := by decide +kernel
theorem dX8_note1_77 : decode cX8_note1 77 = .ok (.iinc 1 1, 3) := by decide +kernel
theorem dX8_note1_80 : decode cX8_note1 80 = .ok (.goto (-29), 3) := by decide +kernel
theorem dX8_note1_83 : decode cX8_note1 83 = .ok (.aload_n 0, 1) := by decide +kernel
theorem dX8_note1_84 : decode cX8_note1 84 = .ok (.dup, 1) := by decide +kernel
theorem dX8_note1_85 : decode cX8_note1 85 = .ok (.getfield 81, 3) := by decide +kernel
theorem dX8_note1_88 : decode cX8_note1 88 = .ok (.iconst 1, 1) := by decide +kernel
theorem dX8_note1_89 : decode cX8_note1 89 = .ok (.iadd, 1) := by decide +kernel
theorem dX8_note1_90 : decode cX8_note1 90 = .ok (.putfield 81, 3) := by decide +kernel
theorem dX8_note1_93 : decode cX8_note1 93 = .ok (.return_, 1) := by decide +kernel
theorem dX8_undo_0 : decode cX8_undo 0 = .ok (.aload_n 0, 1) := by decide +kernel
theorem dX8_undo_1 : decode cX8_undo 1 = .ok (.getfield 81, 3) := by decide +kernel
theorem dX8_undo_4 : decode cX8_undo 4 = .ok (.ifCond .ne 6, 3) := by decide +kernel
theorem dX8_undo_7 : decode cX8_undo 7 = .ok (.bipush (-2), 2) := by decide +kernel
theorem dX8_undo_9 : decode cX8_undo 9 = .ok (.ireturn, 1) := by decide +kernel
theorem dX8_undo_10 : decode cX8_undo 10 = .ok (.aload_n 0, 1) := by decide +kernel
theorem dX8_undo_11 : decode cX8_undo 11 = .ok (.dup, 1) := by decide +kernel
theorem dX8_undo_12 : decode cX8_undo 12 = .ok (.getfield 81, 3) := by decide +kernel
theorem dX8_undo_15 : decode cX8_undo 15 = .ok (.iconst 1, 1) := by decide +kernel
theorem dX8_undo_16 : decode cX8_undo 16 = .ok (.isub, 1) := by decide +kernel
theorem dX8_undo_17 : decode cX8_undo 17 = .ok (.putfield 81, 3) := by decide +kernel
theorem dX8_undo_20 : decode cX8_undo 20 = .ok (.iconst 0, 1) := by decide +kernel
theorem dX8_undo_21 : decode cX8_undo 21 = .ok (.istore_n 1, 1) := by decide +kernel
theorem dX8_undo_22 : decode cX8_undo 22 = .ok (.iload_n 1, 1) := by decide +kernel
theorem dX8_undo_23 : decode cX8_undo 23 = .ok (.bipush 112, 2) := by decide +kernel
theorem dX8_undo_25 : decode cX8_undo 25 = .ok (.if_icmp .ge 29, 3) := by decide +kernel
theorem dX8_undo_28 : decode cX8_undo 28 = .ok (.aload_n 0, 1) := by decide +kernel
theorem dX8_undo_29 : decode cX8_undo 29 = .ok (.getfield 19, 3) := by decide +kernel
theorem dX8_undo_32 : decode cX8_undo 32 = .ok (.iload_n 1, 1) := by decide +kernel
theorem dX8_undo_33 : decode cX8_undo 33 = .ok (.aload_n 0, 1) := by decide +kernel
theorem dX8_undo_34 : decode cX8_undo 34 = .ok (.getfield 22, 3) := by decide +kernel
theorem dX8_undo_37 : decode cX8_undo 37 = .ok (.bipush 112, 2) := by decide +kernel
theorem dX8_undo_39 : decode cX8_undo 39 = .ok (.aload_n 0, 1) := by decide +kernel
theorem dX8_undo_40 : decode cX8_undo 40 = .ok (.getfield 81, 3) := by decide +kernel
theorem dX8_undo_43 : decode cX8_undo 43 = .ok (.imul, 1) := by decide +kernel
theorem dX8_undo_44 : decode cX8_undo 44 = .ok (.iload_n 1, 1) := by decide +kernel
theorem dX8_undo_45 : decode cX8_undo 45 = .ok (.iadd, 1) := by decide +kernel
theorem dX8_undo_46 : decode cX8_undo 46 = .ok (.iaload, 1) := by decide +kernel
theorem dX8_undo_47 : decode cX8_undo 47 = .ok (.iastore, 1) := by decide +kernel
theorem dX8_undo_48 : decode cX8_undo 48 = .ok (.iinc 1 1, 3) := by decide +kernel
theorem dX8_undo_51 : decode cX8_undo 51 = .ok (.goto (-29), 3) := by decide +kernel
theorem dX8_undo_54 : decode cX8_undo 54 = .ok (.aload_n 0, 1) := by decide +kernel
theorem dX8_undo_55 : decode cX8_undo 55 = .ok (.getfield 81, 3) := by decide +kernel
theorem dX8_undo_58 : decode cX8_undo 58 = .ok (.ireturn, 1) := by decide +kernel
theorem dX8_run_0 : decode cX8_run 0 = .ok (.aload_n 0, 1) := by decide +kernel
theorem dX8_run_1 : decode cX8_run 1 = .ok (.iload_n 1, 1) := by decide +kernel
theorem dX8_run_2 : decode cX8_run 2 = .ok (.invokevirtual 84, 3) := by decide +kernel
theorem dX8_run_5 : decode cX8_run 5 = .ok (.ifCond .eq 23, 3) := by decide +kernel
theorem dX8_run_8 : decode cX8_run 8 = .ok (.aload_n 0, 1) := by decide +kernel
theorem dX8_run_9 : decode cX8_run 9 = .ok (.iload_n 2, 1) := by decide +kernel
theorem dX8_run_10 : decode cX8_run 10 = .ok (.invokevirtual 113, 3) := by decide +kernel
theorem dX8_run_13 : decode cX8_run 13 = .ok (.ifCond .eq 15, 3) := by decide +kernel
theorem dX8_run_16 : decode cX8_run 16 = .ok (.iload_n 3, 1) := by decide +kernel
theorem dX8_run_17 : decode cX8_run 17 = .ok (.i2l, 1) := by decide +kernel
theorem dX8_run_18 : decode cX8_run 18 = .ok (.lconst 1, 1) := by decide +kernel
theorem dX8_run_19 : decode cX8_run 19 = .ok (.ldc2_w 116, 3) := by decide +kernel
theorem dX8_run_22 : decode cX8_run 22 = .ok (.invokestatic 33, 3) := by decide +kernel
theorem dX8_run_25 : decode cX8_run 25 = .ok (.ifCond .ne 5, 3) := by decide +kernel
theorem dX8_run_28 : decode cX8_run 28 = .ok (.iconst (-1), 1) := by decide +kernel
theorem dX8_run_29 : decode cX8_run 29 = .ok (.ireturn, 1) := by decide +kernel
theorem dX8_run_30 : decode cX8_run 30 = .ok (.aload_n 0, 1) := by decide +kernel
theorem dX8_run_31 : decode cX8_run 31 = .ok (.getfield 19, 3) := by decide +kernel
theorem dX8_run_34 : decode cX8_run 34 = .ok (.iconst 4, 1) := by decide +kernel
theorem dX8_run_35 : decode cX8_run 35 = .ok (.iload_n 1, 1) := by decide +kernel
theorem dX8_run_36 : decode cX8_run 36 = .ok (.imul, 1) := by decide +kernel
theorem dX8_run_37 : decode cX8_run 37 = .ok (.iload_n 2, 1) := by decide +kernel
theorem dX8_run_38 : decode cX8_run 38 = .ok (.iadd, 1) := by decide +kernel
theorem dX8_run_39 : decode cX8_run 39 = .ok (.iaload, 1) := by decide +kernel
theorem dX8_run_40 : decode cX8_run 40 = .ok (.iload_n 3, 1) := by decide +kernel
theorem dX8_run_41 : decode cX8_run 41 = .ok (.iadd, 1) := by decide +kernel
theorem dX8_run_42 : decode cX8_run 42 = .ok (.aload_n 0, 1) := by decide +kernel
theorem dX8_run_43 : decode cX8_run 43 = .ok (.iload_n 1, 1) := by decide +kernel
theorem dX8_run_44 : decode cX8_run 44 = .ok (.iload_n 2, 1) := by decide +kernel
theorem dX8_run_45 : decode cX8_run 45 = .ok (.invokevirtual 87, 3) := by decide +kernel
theorem dX8_run_48 : decode cX8_run 48 = .ok (.if_icmp .le 6, 3) := by decide +kernel
theorem dX8_run_51 : decode cX8_run 51 = .ok (.bipush (-2), 2) := by decide +kernel
theorem dX8_run_53 : decode cX8_run 53 = .ok (.ireturn, 1) := by decide +kernel
theorem dX8_run_54 : decode cX8_run 54 = .ok (.aload_n 0, 1) := by decide +kernel
theorem dX8_run_55 : decode cX8_run 55 = .ok (.invokevirtual 118, 3) := by decide +kernel
theorem dX8_run_58 : decode cX8_run 58 = .ok (.aload_n 0, 1) := by decide +kernel
theorem dX8_run_59 : decode cX8_run 59 = .ok (.getfield 19, 3) := by decide +kernel
theorem dX8_run_62 : decode cX8_run 62 = .ok (.iconst 4, 1) := by decide +kernel
theorem dX8_run_63 : decode cX8_run 63 = .ok (.iload_n 1, 1) := by decide +kernel
theorem dX8_run_64 : decode cX8_run 64 = .ok (.imul, 1) := by decide +kernel
theorem dX8_run_65 : decode cX8_run 65 = .ok (.iload_n 2, 1) := by decide +kernel
theorem dX8_run_66 : decode cX8_run 66 = .ok (.iadd, 1) := by decide +kernel
theorem dX8_run_67 : decode cX8_run 67 = .ok (.dup2, 1) := by decide +kernel
theorem dX8_run_68 : decode cX8_run 68 = .ok (.iaload, 1) := by decide +kernel
theorem dX8_run_69 : decode cX8_run 69 = .ok (.iload_n 3, 1) := by decide +kernel
theorem dX8_run_70 : decode cX8_run 70 = .ok (.iadd, 1) := by decide +kernel
theorem dX8_run_71 : decode cX8_run 71 = .ok (.iastore, 1) := by decide +kernel
theorem dX8_run_72 : decode cX8_run 72 = .ok (.iload_n 3, 1) := by decide +kernel
theorem dX8_run_73 : decode cX8_run 73 = .ok (.aload_n 0, 1) := by decide +kernel
theorem dX8_run_74 : decode cX8_run 74 = .ok (.getfield 13, 3) := by decide +kernel
theorem dX8_run_77 : decode cX8_run 77 = .ok (.iload_n 2, 1) := by decide +kernel
theorem dX8_run_78 : decode cX8_run 78 = .ok (.iaload, 1) := by decide +kernel
theorem dX8_run_79 : decode cX8_run 79 = .ok (.imul, 1) := by decide +kernel
theorem dX8_run_80 : decode cX8_run 80 = .ok (.ireturn, 1) := by decide +kernel
theorem dX8_stands_0 : decode cX8_stands 0 = .ok (.aload_n 0, 1) := by decide +kernel
theorem dX8_stands_1 : decode cX8_stands 1 = .ok (.getfield 19, 3) := by decide +kernel
theorem dX8_stands_4 : decode cX8_stands 4 = .ok (.bipush 111, 2) := by decide +kernel
theorem dX8_stands_6 : decode cX8_stands 6 = .ok (.iaload, 1) := by decide +kernel
theorem dX8_stands_7 : decode cX8_stands 7 = .ok (.istore_n 3, 1) := by decide +kernel
theorem dX8_stands_8 : decode cX8_stands 8 = .ok (.aload_n 0, 1) := by decide +kernel
theorem dX8_stands_9 : decode cX8_stands 9 = .ok (.getfield 19, 3) := by decide +kernel
theorem dX8_stands_12 : decode cX8_stands 12 = .ok (.bipush 12, 2) := by decide +kernel
theorem dX8_stands_14 : decode cX8_stands 14 = .ok (.iload_n 3, 1) := by decide +kernel
theorem dX8_stands_15 : decode cX8_stands 15 = .ok (.iadd, 1) := by decide +kernel
theorem dX8_stands_16 : decode cX8_stands 16 = .ok (.sipush 1000, 3) := by decide +kernel
theorem dX8_stands_19 : decode cX8_stands 19 = .ok (.iload_n 1, 1) := by decide +kernel
theorem dX8_stands_20 : decode cX8_stands 20 = .ok (.imul, 1) := by decide +kernel
theorem dX8_stands_21 : decode cX8_stands 21 = .ok (.iload_n 2, 1) := by decide +kernel
theorem dX8_stands_22 : decode cX8_stands 22 = .ok (.iadd, 1) := by decide +kernel
theorem dX8_stands_23 : decode cX8_stands 23 = .ok (.iastore, 1) := by decide +kernel
theorem dX8_stands_24 : decode cX8_stands 24 = .ok (.aload_n 0, 1) := by decide +kernel
theorem dX8_stands_25 : decode cX8_stands 25 = .ok (.getfield 19, 3) := by decide +kernel
theorem dX8_stands_28 : decode cX8_stands 28 = .ok (.bipush 111, 2) := by decide +kernel
theorem dX8_stands_30 : decode cX8_stands 30 = .ok (.dup2, 1) := by decide +kernel
theorem dX8_stands_31 : decode cX8_stands 31 = .ok (.iaload, 1) := by decide +kernel
theorem dX8_stands_32 : decode cX8_stands 32 = .ok (.iconst 1, 1) := by decide +kernel
theorem dX8_stands_33 : decode cX8_stands 33 = .ok (.iadd, 1) := by decide +kernel
theorem dX8_stands_34 : decode cX8_stands 34 = .ok (.iastore, 1) := by decide +kernel
theorem dX8_stands_35 : decode cX8_stands 35 = .ok (.iload_n 3, 1) := by decide +kernel
theorem dX8_stands_36 : decode cX8_stands 36 = .ok (.ireturn, 1) := by decide +kernel
theorem dX8_spoil_0 : decode cX8_spoil 0 = .ok (.aload_n 0, 1) := by decide +kernel
theorem dX8_spoil_1 : decode cX8_spoil 1 = .ok (.iload_n 1, 1) := by decide +kernel
theorem dX8_spoil_2 : decode cX8_spoil 2 = .ok (.iload_n 2, 1) := by decide +kernel
theorem dX8_spoil_3 : decode cX8_spoil 3 = .ok (.invokevirtual 121, 3) := by decide +kernel
theorem dX8_spoil_6 : decode cX8_spoil 6 = .ok (.ifCond .ne 5, 3) := by decide +kernel
theorem dX8_spoil_9 : decode cX8_spoil 9 = .ok (.iconst (-1), 1) := by decide +kernel
theorem dX8_spoil_10 : decode cX8_spoil 10 = .ok (.ireturn, 1) := by decide +kernel
theorem dX8_spoil_11 : decode cX8_spoil 11 = .ok (.aload_n 0, 1) := by decide +kernel
theorem dX8_spoil_12 : decode cX8_spoil 12 = .ok (.iload_n 1, 1) := by decide +kernel
theorem dX8_spoil_13 : decode cX8_spoil 13 = .ok (.iload_n 2, 1) := by decide +kernel
theorem dX8_spoil_14 : decode cX8_spoil 14 = .ok (.invokevirtual 125, 3) := by decide +kernel
theorem dX8_spoil_17 : decode cX8_spoil 17 = .ok (.ifCond .eq 14, 3) := by decide +kernel
theorem dX8_spoil_20 : decode cX8_spoil 20 = .ok (.aload_n 0, 1) := by decide +kernel
theorem dX8_spoil_21 : decode cX8_spoil 21 = .ok (.iload_n 1, 1) := by decide +kernel
theorem dX8_spoil_22 : decode cX8_spoil 22 = .ok (.iload_n 2, 1) := by decide +kernel
theorem dX8_spoil_23 : decode cX8_spoil 23 = .ok (.invokevirtual 128, 3) := by decide +kernel
theorem dX8_spoil_26 : decode cX8_spoil 26 = .ok (.bipush (-4), 2) := by decide +kernel
theorem dX8_spoil_28 : decode cX8_spoil 28 = .ok (.if_icmp .eq 6, 3) := by decide +kernel
theorem dX8_spoil_31 : decode cX8_spoil 31 = .ok (.bipush (-2), 2) := by decide +kernel
theorem dX8_spoil_33 : decode cX8_spoil 33 = .ok (.ireturn, 1) := by decide +kernel
theorem dX8_spoil_34 : decode cX8_spoil 34 = .ok (.aload_n 0, 1) := by decide +kernel
theorem dX8_spoil_35 : decode cX8_spoil 35 = .ok (.getfield 19, 3) := by decide +kernel
theorem dX8_spoil_38 : decode cX8_spoil 38 = .ok (.bipush 111, 2) := by decide +kernel
theorem dX8_spoil_40 : decode cX8_spoil 40 = .ok (.iaload, 1) := by decide +kernel
theorem dX8_spoil_41 : decode cX8_spoil 41 = .ok (.aload_n 0, 1) := by decide +kernel
theorem dX8_spoil_42 : decode cX8_spoil 42 = .ok (.getfield 13, 3) := by decide +kernel
theorem dX8_spoil_45 : decode cX8_spoil 45 = .ok (.bipush 24, 2) := by decide +kernel
theorem dX8_spoil_47 : decode cX8_spoil 47 = .ok (.iaload, 1) := by decide +kernel
theorem dX8_spoil_48 : decode cX8_spoil 48 = .ok (.if_icmp .ne 6, 3) := by decide +kernel
theorem dX8_spoil_51 : decode cX8_spoil 51 = .ok (.bipush (-3), 2) := by decide +kernel
theorem dX8_spoil_53 : decode cX8_spoil 53 = .ok (.ireturn, 1) := by decide +kernel
theorem dX8_spoil_54 : decode cX8_spoil 54 = .ok (.aload_n 0, 1) := by decide +kernel
theorem dX8_spoil_55 : decode cX8_spoil 55 = .ok (.invokevirtual 118, 3) := by decide +kernel
theorem dX8_spoil_58 : decode cX8_spoil 58 = .ok (.aload_n 0, 1) := by decide +kernel
theorem dX8_spoil_59 : decode cX8_spoil 59 = .ok (.iload_n 1, 1) := by decide +kernel
theorem dX8_spoil_60 : decode cX8_spoil 60 = .ok (.iload_n 2, 1) := by decide +kernel
theorem dX8_spoil_61 : decode cX8_spoil 61 = .ok (.invokevirtual 131, 3) := by decide +kernel
theorem dX8_spoil_64 : decode cX8_spoil 64 = .ok (.ireturn, 1) := by decide +kernel
theorem dX8_numberAt_0 : decode cX8_numberAt 0 = .ok (.aload_n 0, 1) := by decide +kernel
theorem dX8_numberAt_1 : decode cX8_numberAt 1 = .ok (.iload_n 1, 1) := by decide +kernel
theorem dX8_numberAt_2 : decode cX8_numberAt 2 = .ok (.iload_n 2, 1) := by decide +kernel
theorem dX8_numberAt_3 : decode cX8_numberAt 3 = .ok (.invokevirtual 91, 3) := by decide +kernel
theorem dX8_numberAt_6 : decode cX8_numberAt 6 = .ok (.iload 4, 2) := by decide +kernel
theorem dX8_numberAt_8 : decode cX8_numberAt 8 = .ok (.aload_n 0, 1) := by decide +kernel
theorem dX8_numberAt_9 : decode cX8_numberAt 9 = .ok (.iload_n 1, 1) := by decide +kernel
theorem dX8_numberAt_10 : decode cX8_numberAt 10 = .ok (.iload_n 2, 1) := by decide +kernel
theorem dX8_numberAt_11 : decode cX8_numberAt 11 = .ok (.invokevirtual 87, 3) := by decide +kernel
theorem dX8_numberAt_14 : decode cX8_numberAt 14 = .ok (.imul, 1) := by decide +kernel
theorem dX8_numberAt_15 : decode cX8_numberAt 15 = .ok (.iadd, 1) := by decide +kernel
theorem dX8_numberAt_16 : decode cX8_numberAt 16 = .ok (.iload_n 3, 1) := by decide +kernel
theorem dX8_numberAt_17 : decode cX8_numberAt 17 = .ok (.iadd, 1) := by decide +kernel
theorem dX8_numberAt_18 : decode cX8_numberAt 18 = .ok (.ireturn, 1) := by decide +kernel
theorem dX8_spoilSheet_0 : decode cX8_spoilSheet 0 = .ok (.aload_n 0, 1) := by decide +kernel
theorem dX8_spoilSheet_1 : decode cX8_spoilSheet 1 = .ok (.iload_n 1, 1) := by decide +kernel
theorem dX8_spoilSheet_2 : decode cX8_spoilSheet 2 = .ok (.invokevirtual 84, 3) := by decide +kernel
theorem dX8_spoilSheet_5 : decode cX8_spoilSheet 5 = .ok (.ifCond .eq 29, 3) := by decide +kernel
theorem dX8_spoilSheet_8 : decode cX8_spoilSheet 8 = .ok (.aload_n 0, 1) := by decide +kernel
theorem dX8_spoilSheet_9 : decode cX8_spoilSheet 9 = .ok (.iload_n 2, 1) := by decide +kernel
theorem dX8_spoilSheet_10 : decode cX8_spoilSheet 10 = .ok (.invokevirtual 113, 3) := by decide +kernel
theorem dX8_spoilSheet_13 : decode cX8_spoilSheet 13 = .ok (.ifCond .eq 21, 3) := by decide +kernel
theorem dX8_spoilSheet_16 : decode cX8_spoilSheet 16 = .ok (.iload_n 3, 1) := by decide +kernel
theorem dX8_spoilSheet_17 : decode cX8_spoilSheet 17 = .ok (.i2l, 1) := by decide +kernel
theorem dX8_spoilSheet_18 : decode cX8_spoilSheet 18 = .ok (.lconst 0, 1) := by decide +kernel
theorem dX8_spoilSheet_19 : decode cX8_spoilSheet 19 = .ok (.aload_n 0, 1) := by decide +kernel
theorem dX8_spoilSheet_20 : decode cX8_spoilSheet 20 = .ok (.iload_n 1, 1) := by decide +kernel
theorem dX8_spoilSheet_21 : decode cX8_spoilSheet 21 = .ok (.iload_n 2, 1) := by decide +kernel
theorem dX8_spoilSheet_22 : decode cX8_spoilSheet 22 = .ok (.invokevirtual 87, 3) := by decide +kernel
theorem dX8_spoilSheet_25 : decode cX8_spoilSheet 25 = .ok (.iconst 1, 1) := by decide +kernel
theorem dX8_spoilSheet_26 : decode cX8_spoilSheet 26 = .ok (.isub, 1) := by decide +kernel
theorem dX8_spoilSheet_27 : decode cX8_spoilSheet 27 = .ok (.i2l, 1) := by decide +kernel
theorem dX8_spoilSheet_28 : decode cX8_spoilSheet 28 = .ok (.invokestatic 33, 3) := by decide +kernel
theorem dX8_spoilSheet_31 : decode cX8_spoilSheet 31 = .ok (.ifCond .ne 5, 3) := by decide +kernel
theorem dX8_spoilSheet_34 : decode cX8_spoilSheet 34 = .ok (.iconst (-1), 1) := by decide +kernel
theorem dX8_spoilSheet_35 : decode cX8_spoilSheet 35 = .ok (.ireturn, 1) := by decide +kernel
theorem dX8_spoilSheet_36 : decode cX8_spoilSheet 36 = .ok (.iconst 0, 1) := by decide +kernel
theorem dX8_spoilSheet_37 : decode cX8_spoilSheet 37 = .ok (.istore 4, 2) := by decide +kernel
theorem dX8_spoilSheet_39 : decode cX8_spoilSheet 39 = .ok (.iconst 0, 1) := by decide +kernel
theorem dX8_spoilSheet_40 : decode cX8_spoilSheet 40 = .ok (.istore 5, 2) := by decide +kernel
theorem dX8_spoilSheet_42 : decode cX8_spoilSheet 42 = .ok (.iload 5, 2) := by decide +kernel
theorem dX8_spoilSheet_44 : decode cX8_spoilSheet 44 = .ok (.aload_n 0, 1) := by decide +kernel
theorem dX8_spoilSheet_45 : decode cX8_spoilSheet 45 = .ok (.getfield 13, 3) := by decide +kernel
theorem dX8_spoilSheet_48 : decode cX8_spoilSheet 48 = .ok (.iload_n 2, 1) := by decide +kernel
theorem dX8_spoilSheet_49 : decode cX8_spoilSheet 49 = .ok (.iaload, 1) := by decide +kernel
theorem dX8_spoilSheet_50 : decode cX8_spoilSheet 50 = .ok (.if_icmp .ge 38, 3) := by decide +kernel
theorem dX8_spoilSheet_53 : decode cX8_spoilSheet 53 = .ok (.iload 4, 2) := by decide +kernel
theorem dX8_spoilSheet_55 : decode cX8_spoilSheet 55 = .ok (.aload_n 0, 1) := by decide +kernel
theorem dX8_spoilSheet_56 : decode cX8_spoilSheet 56 = .ok (.iload_n 1, 1) := by decide +kernel
theorem dX8_spoilSheet_57 : decode cX8_spoilSheet 57 = .ok (.aload_n 0, 1) := by decide +kernel
theorem dX8_spoilSheet_58 : decode cX8_spoilSheet 58 = .ok (.iload_n 1, 1) := by decide +kernel
theorem dX8_spoilSheet_59 : decode cX8_spoilSheet 59 = .ok (.iload_n 2, 1) := by decide +kernel
theorem dX8_spoilSheet_60 : decode cX8_spoilSheet 60 = .ok (.iload_n 3, 1) := by decide +kernel
theorem dX8_spoilSheet_61 : decode cX8_spoilSheet 61 = .ok (.iload 5, 2) := by decide +kernel
theorem dX8_spoilSheet_63 : decode cX8_spoilSheet 63 = .ok (.invokevirtual 134, 3) := by decide +kernel
theorem dX8_spoilSheet_66 : decode cX8_spoilSheet 66 = .ok (.invokevirtual 128, 3) := by decide +kernel
theorem dX8_spoilSheet_69 : decode cX8_spoilSheet 69 = .ok (.bipush (-4), 2) := by decide +kernel
theorem dX8_spoilSheet_71 : decode cX8_spoilSheet 71 = .ok (.if_icmp .ne 7, 3) := by decide +kernel
theorem dX8_spoilSheet_74 : decode cX8_spoilSheet 74 = .ok (.iconst 1, 1) := by decide +kernel
theorem dX8_spoilSheet_75 : decode cX8_spoilSheet 75 = .ok (.goto 4, 3) := by decide +kernel
theorem dX8_spoilSheet_78 : decode cX8_spoilSheet 78 = .ok (.iconst 0, 1) := by decide +kernel
theorem dX8_spoilSheet_79 : decode cX8_spoilSheet 79 = .ok (.iadd, 1) := by decide +kernel
theorem dX8_spoilSheet_80 : decode cX8_spoilSheet 80 = .ok (.istore 4, 2) := by decide +kernel
theorem dX8_spoilSheet_82 : decode cX8_spoilSheet 82 = .ok (.iinc 5 1, 3) := by decide +kernel
theorem dX8_spoilSheet_85 : decode cX8_spoilSheet 85 = .ok (.goto (-43), 3) := by decide +kernel
theorem dX8_spoilSheet_88 : decode cX8_spoilSheet 88 = .ok (.iload_n 3, 1) := by decide +kernel
theorem dX8_spoilSheet_89 : decode cX8_spoilSheet 89 = .ok (.aload_n 0, 1) := by decide +kernel
theorem dX8_spoilSheet_90 : decode cX8_spoilSheet 90 = .ok (.getfield 19, 3) := by decide +kernel
theorem dX8_spoilSheet_93 : decode cX8_spoilSheet 93 = .ok (.iconst 4, 1) := by decide +kernel
theorem dX8_spoilSheet_94 : decode cX8_spoilSheet 94 = .ok (.iload_n 1, 1) := by decide +kernel
theorem dX8_spoilSheet_95 : decode cX8_spoilSheet 95 = .ok (.imul, 1) := by decide +kernel
theorem dX8_spoilSheet_96 : decode cX8_spoilSheet 96 = .ok (.iload_n 2, 1) := by decide +kernel
theorem dX8_spoilSheet_97 : decode cX8_spoilSheet 97 = .ok (.iadd, 1) := by decide +kernel
theorem dX8_spoilSheet_98 : decode cX8_spoilSheet 98 = .ok (.iaload, 1) := by decide +kernel
theorem dX8_spoilSheet_99 : decode cX8_spoilSheet 99 = .ok (.if_icmp .ge 8, 3) := by decide +kernel
theorem dX8_spoilSheet_102 : decode cX8_spoilSheet 102 = .ok (.iload 4, 2) := by decide +kernel
theorem dX8_spoilSheet_104 : decode cX8_spoilSheet 104 = .ok (.ifCond .ne 6, 3) := by decide +kernel
theorem dX8_spoilSheet_107 : decode cX8_spoilSheet 107 = .ok (.bipush (-2), 2) := by decide +kernel
theorem dX8_spoilSheet_109 : decode cX8_spoilSheet 109 = .ok (.ireturn, 1) := by decide +kernel
theorem dX8_spoilSheet_110 : decode cX8_spoilSheet 110 = .ok (.aload_n 0, 1) := by decide +kernel
theorem dX8_spoilSheet_111 : decode cX8_spoilSheet 111 = .ok (.getfield 19, 3) := by decide +kernel
theorem dX8_spoilSheet_114 : decode cX8_spoilSheet 114 = .ok (.bipush 111, 2) := by decide +kernel
theorem dX8_spoilSheet_116 : decode cX8_spoilSheet 116 = .ok (.iaload, 1) := by decide +kernel
theorem dX8_spoilSheet_117 : decode cX8_spoilSheet 117 = .ok (.iload 4, 2) := by decide +kernel
theorem dX8_spoilSheet_119 : decode cX8_spoilSheet 119 = .ok (.iadd, 1) := by decide +kernel
theorem dX8_spoilSheet_120 : decode cX8_spoilSheet 120 = .ok (.aload_n 0, 1) := by decide +kernel
theorem dX8_spoilSheet_121 : decode cX8_spoilSheet 121 = .ok (.getfield 13, 3) := by decide +kernel
theorem dX8_spoilSheet_124 : decode cX8_spoilSheet 124 = .ok (.bipush 24, 2) := by decide +kernel
theorem dX8_spoilSheet_126 : decode cX8_spoilSheet 126 = .ok (.iaload, 1) := by decide +kernel
theorem dX8_spoilSheet_127 : decode cX8_spoilSheet 127 = .ok (.if_icmp .le 6, 3) := by decide +kernel
theorem dX8_spoilSheet_130 : decode cX8_spoilSheet 130 = .ok (.bipush (-3), 2) := by decide +kernel
theorem dX8_spoilSheet_132 : decode cX8_spoilSheet 132 = .ok (.ireturn, 1) := by decide +kernel
theorem dX8_spoilSheet_133 : decode cX8_spoilSheet 133 = .ok (.aload_n 0, 1) := by decide +kernel
theorem dX8_spoilSheet_134 : decode cX8_spoilSheet 134 = .ok (.invokevirtual 118, 3) := by decide +kernel
theorem dX8_spoilSheet_137 : decode cX8_spoilSheet 137 = .ok (.iconst 0, 1) := by decide +kernel
theorem dX8_spoilSheet_138 : decode cX8_spoilSheet 138 = .ok (.istore 5, 2) := by decide +kernel
theorem dX8_spoilSheet_140 : decode cX8_spoilSheet 140 = .ok (.iload 5, 2) := by decide +kernel
theorem dX8_spoilSheet_142 : decode cX8_spoilSheet 142 = .ok (.aload_n 0, 1) := by decide +kernel
theorem dX8_spoilSheet_143 : decode cX8_spoilSheet 143 = .ok (.getfield 13, 3) := by decide +kernel
theorem dX8_spoilSheet_146 : decode cX8_spoilSheet 146 = .ok (.iload_n 2, 1) := by decide +kernel
theorem dX8_spoilSheet_147 : decode cX8_spoilSheet 147 = .ok (.iaload, 1) := by decide +kernel
theorem dX8_spoilSheet_148 : decode cX8_spoilSheet 148 = .ok (.if_icmp .ge 56, 3) := by decide +kernel
theorem dX8_spoilSheet_151 : decode cX8_spoilSheet 151 = .ok (.aload_n 0, 1) := by decide +kernel
theorem dX8_spoilSheet_152 : decode cX8_spoilSheet 152 = .ok (.iload_n 1, 1) := by decide +kernel
theorem dX8_spoilSheet_153 : decode cX8_spoilSheet 153 = .ok (.iload_n 2, 1) := by decide +kernel
theorem dX8_spoilSheet_154 : decode cX8_spoilSheet 154 = .ok (.iload_n 3, 1) := by decide +kernel
theorem dX8_spoilSheet_155 : decode cX8_spoilSheet 155 = .ok (.iload 5, 2) := by decide +kernel
theorem dX8_spoilSheet_157 : decode cX8_spoilSheet 157 = .ok (.invokevirtual 134, 3) := by decide +kernel
theorem dX8_spoilSheet_160 : decode cX8_spoilSheet 160 = .ok (.istore 6, 2) := by decide +kernel
theorem dX8_spoilSheet_162 : decode cX8_spoilSheet 162 = .ok (.aload_n 0, 1) := by decide +kernel
theorem dX8_spoilSheet_163 : decode cX8_spoilSheet 163 = .ok (.iload_n 1, 1) := by decide +kernel
theorem dX8_spoilSheet_164 : decode cX8_spoilSheet 164 = .ok (.iload 6, 2) := by decide +kernel
theorem dX8_spoilSheet_166 : decode cX8_spoilSheet 166 = .ok (.invokevirtual 128, 3) := by decide +kernel
theorem dX8_spoilSheet_169 : decode cX8_spoilSheet 169 = .ok (.bipush (-4), 2) := by decide +kernel
theorem dX8_spoilSheet_171 : decode cX8_spoilSheet 171 = .ok (.if_icmp .ne 27, 3) := by decide +kernel
theorem dX8_spoilSheet_174 : decode cX8_spoilSheet 174 = .ok (.aload_n 0, 1) := by decide +kernel
theorem dX8_spoilSheet_175 : decode cX8_spoilSheet 175 = .ok (.iload_n 1, 1) := by decide +kernel
theorem dX8_spoilSheet_176 : decode cX8_spoilSheet 176 = .ok (.iload 6, 2) := by decide +kernel
theorem dX8_spoilSheet_178 : decode cX8_spoilSheet 178 = .ok (.invokevirtual 131, 3) := by decide +kernel
theorem dX8_spoilSheet_181 : decode cX8_spoilSheet 181 = .ok (.istore 7, 2) := by decide +kernel
theorem dX8_spoilSheet_183 : decode cX8_spoilSheet 183 = .ok (.iload 4, 2) := by decide +kernel
theorem dX8_spoilSheet_185 : decode cX8_spoilSheet 185 = .ok (.iload 7, 2) := by decide +kernel
theorem dX8_spoilSheet_187 : decode cX8_spoilSheet 187 = .ok (.ifCond .ge 7, 3) := by decide +kernel
theorem dX8_spoilSheet_190 : decode cX8_spoilSheet 190 = .ok (.iconst 1, 1) := by decide +kernel
theorem dX8_spoilSheet_191 : decode cX8_spoilSheet 191 = .ok (.goto 4, 3) := by decide +kernel
theorem dX8_spoilSheet_194 : decode cX8_spoilSheet 194 = .ok (.iconst 0, 1) := by decide +kernel
theorem dX8_spoilSheet_195 : decode cX8_spoilSheet 195 = .ok (.iadd, 1) := by decide +kernel
theorem dX8_spoilSheet_196 : decode cX8_spoilSheet 196 = .ok (.istore 4, 2) := by decide +kernel
theorem dX8_spoilSheet_198 : decode cX8_spoilSheet 198 = .ok (.iinc 5 1, 3) := by decide +kernel
theorem dX8_spoilSheet_201 : decode cX8_spoilSheet 201 = .ok (.goto (-61), 3) := by decide +kernel
theorem dX8_spoilSheet_204 : decode cX8_spoilSheet 204 = .ok (.iload 4, 2) := by decide +kernel
theorem dX8_spoilSheet_206 : decode cX8_spoilSheet 206 = .ok (.ireturn, 1) := by decide +kernel
theorem dX8_printed_0 : decode cX8_printed 0 = .ok (.iconst 0, 1) := by decide +kernel
theorem dX8_printed_1 : decode cX8_printed 1 = .ok (.istore_n 2, 1) := by decide +kernel
theorem dX8_printed_2 : decode cX8_printed 2 = .ok (.iconst 0, 1) := by decide +kernel
theorem dX8_printed_3 : decode cX8_printed 3 = .ok (.istore_n 3, 1) := by decide +kernel
theorem dX8_printed_4 : decode cX8_printed 4 = .ok (.iload_n 3, 1) := by decide +kernel
theorem dX8_printed_5 : decode cX8_printed 5 = .ok (.aload_n 0, 1) := by decide +kernel
theorem dX8_printed_6 : decode cX8_printed 6 = .ok (.getfield 13, 3) := by decide +kernel
theorem dX8_printed_9 : decode cX8_printed 9 = .ok (.bipush 22, 2) := by decide +kernel
theorem dX8_printed_11 : decode cX8_printed 11 = .ok (.iaload, 1) := by decide +kernel
theorem dX8_printed_12 : decode cX8_printed 12 = .ok (.if_icmp .ge 29, 3) := by decide +kernel
theorem dX8_printed_15 : decode cX8_printed 15 = .ok (.iload_n 2, 1) := by decide +kernel
theorem dX8_printed_16 : decode cX8_printed 16 = .ok (.aload_n 0, 1) := by decide +kernel
theorem dX8_printed_17 : decode cX8_printed 17 = .ok (.getfield 19, 3) := by decide +kernel
theorem dX8_printed_20 : decode cX8_printed 20 = .ok (.iconst 4, 1) := by decide +kernel
theorem dX8_printed_21 : decode cX8_printed 21 = .ok (.iload_n 1, 1) := by decide +kernel
theorem dX8_printed_22 : decode cX8_printed 22 = .ok (.imul, 1) := by decide +kernel
theorem dX8_printed_23 : decode cX8_printed 23 = .ok (.iload_n 3, 1) := by decide +kernel
theorem dX8_printed_24 : decode cX8_printed 24 = .ok (.iadd, 1) := by decide +kernel
theorem dX8_printed_25 : decode cX8_printed 25 = .ok (.iaload, 1) := by decide +kernel
theorem dX8_printed_26 : decode cX8_printed 26 = .ok (.aload_n 0, 1) := by decide +kernel
theorem dX8_printed_27 : decode cX8_printed 27 = .ok (.getfield 13, 3) := by decide +kernel
theorem dX8_printed_30 : decode cX8_printed 30 = .ok (.iload_n 3, 1) := by decide +kernel
theorem dX8_printed_31 : decode cX8_printed 31 = .ok (.iaload, 1) := by decide +kernel
theorem dX8_printed_32 : decode cX8_printed 32 = .ok (.imul, 1) := by decide +kernel
theorem dX8_printed_33 : decode cX8_printed 33 = .ok (.iadd, 1) := by decide +kernel
theorem dX8_printed_34 : decode cX8_printed 34 = .ok (.istore_n 2, 1) := by decide +kernel
theorem dX8_printed_35 : decode cX8_printed 35 = .ok (.iinc 3 1, 3) := by decide +kernel
theorem dX8_printed_38 : decode cX8_printed 38 = .ok (.goto (-34), 3) := by decide +kernel
theorem dX8_printed_41 : decode cX8_printed 41 = .ok (.iload_n 2, 1) := by decide +kernel
theorem dX8_printed_42 : decode cX8_printed 42 = .ok (.ireturn, 1) := by decide +kernel
theorem dX8_spoiled_0 : decode cX8_spoiled 0 = .ok (.iconst 0, 1) := by decide +kernel
theorem dX8_spoiled_1 : decode cX8_spoiled 1 = .ok (.istore_n 2, 1) := by decide +kernel
theorem dX8_spoiled_2 : decode cX8_spoiled 2 = .ok (.iconst 0, 1) := by decide +kernel
theorem dX8_spoiled_3 : decode cX8_spoiled 3 = .ok (.istore_n 3, 1) := by decide +kernel
theorem dX8_spoiled_4 : decode cX8_spoiled 4 = .ok (.iload_n 3, 1) := by decide +kernel
theorem dX8_spoiled_5 : decode cX8_spoiled 5 = .ok (.aload_n 0, 1) := by decide +kernel
theorem dX8_spoiled_6 : decode cX8_spoiled 6 = .ok (.getfield 19, 3) := by decide +kernel
theorem dX8_spoiled_9 : decode cX8_spoiled 9 = .ok (.bipush 111, 2) := by decide +kernel
theorem dX8_spoiled_11 : decode cX8_spoiled 11 = .ok (.iaload, 1) := by decide +kernel
theorem dX8_spoiled_12 : decode cX8_spoiled 12 = .ok (.if_icmp .ge 34, 3) := by decide +kernel
theorem dX8_spoiled_15 : decode cX8_spoiled 15 = .ok (.iload_n 2, 1) := by decide +kernel
theorem dX8_spoiled_16 : decode cX8_spoiled 16 = .ok (.aload_n 0, 1) := by decide +kernel
theorem dX8_spoiled_17 : decode cX8_spoiled 17 = .ok (.getfield 19, 3) := by decide +kernel
theorem dX8_spoiled_20 : decode cX8_spoiled 20 = .ok (.bipush 12, 2) := by decide +kernel
theorem dX8_spoiled_22 : decode cX8_spoiled 22 = .ok (.iload_n 3, 1) := by decide +kernel
theorem dX8_spoiled_23 : decode cX8_spoiled 23 = .ok (.iadd, 1) := by decide +kernel
theorem dX8_spoiled_24 : decode cX8_spoiled 24 = .ok (.iaload, 1) := by decide +kernel
theorem dX8_spoiled_25 : decode cX8_spoiled 25 = .ok (.sipush 1000, 3) := by decide +kernel
theorem dX8_spoiled_28 : decode cX8_spoiled 28 = .ok (.idiv, 1) := by decide +kernel
theorem dX8_spoiled_29 : decode cX8_spoiled 29 = .ok (.iload_n 1, 1) := by decide +kernel
theorem dX8_spoiled_30 : decode cX8_spoiled 30 = .ok (.if_icmp .ne 7, 3) := by decide +kernel
theorem dX8_spoiled_33 : decode cX8_spoiled 33 = .ok (.iconst 1, 1) := by decide +kernel
theorem dX8_spoiled_34 : decode cX8_spoiled 34 = .ok (.goto 4, 3) := by decide +kernel
theorem dX8_spoiled_37 : decode cX8_spoiled 37 = .ok (.iconst 0, 1) := by decide +kernel
theorem dX8_spoiled_38 : decode cX8_spoiled 38 = .ok (.iadd, 1) := by decide +kernel
theorem dX8_spoiled_39 : decode cX8_spoiled 39 = .ok (.istore_n 2, 1) := by decide +kernel
theorem dX8_spoiled_40 : decode cX8_spoiled 40 = .ok (.iinc 3 1, 3) := by decide +kernel
theorem dX8_spoiled_43 : decode cX8_spoiled 43 = .ok (.goto (-39), 3) := by decide +kernel
theorem dX8_spoiled_46 : decode cX8_spoiled 46 = .ok (.iload_n 2, 1) := by decide +kernel
theorem dX8_spoiled_47 : decode cX8_spoiled 47 = .ok (.ireturn, 1) := by decide +kernel
theorem dX8_leftOf_0 : decode cX8_leftOf 0 = .ok (.iconst 0, 1) := by decide +kernel
theorem dX8_leftOf_1 : decode cX8_leftOf 1 = .ok (.istore_n 2, 1) := by decide +kernel
theorem dX8_leftOf_2 : decode cX8_leftOf 2 = .ok (.iconst 0, 1) := by decide +kernel
theorem dX8_leftOf_3 : decode cX8_leftOf 3 = .ok (.istore_n 3, 1) := by decide +kernel
theorem dX8_leftOf_4 : decode cX8_leftOf 4 = .ok (.iload_n 3, 1) := by decide +kernel
theorem dX8_leftOf_5 : decode cX8_leftOf 5 = .ok (.aload_n 0, 1) := by decide +kernel
theorem dX8_leftOf_6 : decode cX8_leftOf 6 = .ok (.getfield 13, 3) := by decide +kernel
theorem dX8_leftOf_9 : decode cX8_leftOf 9 = .ok (.bipush 22, 2) := by decide +kernel
theorem dX8_leftOf_11 : decode cX8_leftOf 11 = .ok (.iaload, 1) := by decide +kernel
theorem dX8_leftOf_12 : decode cX8_leftOf 12 = .ok (.if_icmp .ge 29, 3) := by decide +kernel
theorem dX8_leftOf_15 : decode cX8_leftOf 15 = .ok (.iload_n 2, 1) := by decide +kernel
theorem dX8_leftOf_16 : decode cX8_leftOf 16 = .ok (.aload_n 0, 1) := by decide +kernel
theorem dX8_leftOf_17 : decode cX8_leftOf 17 = .ok (.iload_n 1, 1) := by decide +kernel
theorem dX8_leftOf_18 : decode cX8_leftOf 18 = .ok (.iload_n 3, 1) := by decide +kernel
theorem dX8_leftOf_19 : decode cX8_leftOf 19 = .ok (.invokevirtual 87, 3) := by decide +kernel
theorem dX8_leftOf_22 : decode cX8_leftOf 22 = .ok (.aload_n 0, 1) := by decide +kernel
theorem dX8_leftOf_23 : decode cX8_leftOf 23 = .ok (.getfield 19, 3) := by decide +kernel
theorem dX8_leftOf_26 : decode cX8_leftOf 26 = .ok (.iconst 4, 1) := by decide +kernel
theorem dX8_leftOf_27 : decode cX8_leftOf 27 = .ok (.iload_n 1, 1) := by decide +kernel
theorem dX8_leftOf_28 : decode cX8_leftOf 28 = .ok (.imul, 1) := by decide +kernel
theorem dX8_leftOf_29 : decode cX8_leftOf 29 = .ok (.iload_n 3, 1) := by decide +kernel
theorem dX8_leftOf_30 : decode cX8_leftOf 30 = .ok (.iadd, 1) := by decide +kernel
theorem dX8_leftOf_31 : decode cX8_leftOf 31 = .ok (.iaload, 1) := by decide +kernel
theorem dX8_leftOf_32 : decode cX8_leftOf 32 = .ok (.isub, 1) := by decide +kernel
theorem dX8_leftOf_33 : decode cX8_leftOf 33 = .ok (.iadd, 1) := by decide +kernel
theorem dX8_leftOf_34 : decode cX8_leftOf 34 = .ok (.istore_n 2, 1) := by decide +kernel
theorem dX8_leftOf_35 : decode cX8_leftOf 35 = .ok (.iinc 3 1, 3) := by decide +kernel
theorem dX8_leftOf_38 : decode cX8_leftOf 38 = .ok (.goto (-34), 3) := by decide +kernel
theorem dX8_leftOf_41 : decode cX8_leftOf 41 = .ok (.iload_n 2, 1) := by decide +kernel
theorem dX8_leftOf_42 : decode cX8_leftOf 42 = .ok (.ireturn, 1) := by decide +kernel
theorem dX8_packs_0 : decode cX8_packs 0 = .ok (.aload_n 0, 1) := by decide +kernel
theorem dX8_packs_1 : decode cX8_packs 1 = .ok (.getfield 13, 3) := by decide +kernel
theorem dX8_packs_4 : decode cX8_packs 4 = .ok (.iload_n 1, 1) := by decide +kernel
theorem dX8_packs_5 : decode cX8_packs 5 = .ok (.invokestatic 64, 3) := by decide +kernel
theorem dX8_packs_8 : decode cX8_packs 8 = .ok (.bipush 9, 2) := by decide +kernel
theorem dX8_packs_10 : decode cX8_packs 10 = .ok (.iadd, 1) := by decide +kernel
theorem dX8_packs_11 : decode cX8_packs 11 = .ok (.bipush 10, 2) := by decide +kernel
theorem dX8_packs_13 : decode cX8_packs 13 = .ok (.idiv, 1) := by decide +kernel
theorem dX8_packs_14 : decode cX8_packs 14 = .ok (.ireturn, 1) := by decide +kernel
theorem dX8_isWhole_0 : decode cX8_isWhole 0 = .ok (.bipush 10, 2) := by decide +kernel
theorem dX8_isWhole_2 : decode cX8_isWhole 2 = .ok (.iload_n 2, 1) := by decide +kernel
theorem dX8_isWhole_3 : decode cX8_isWhole 3 = .ok (.imul, 1) := by decide +kernel
theorem dX8_isWhole_4 : decode cX8_isWhole 4 = .ok (.istore_n 3, 1) := by decide +kernel
theorem dX8_isWhole_5 : decode cX8_isWhole 5 = .ok (.iload_n 3, 1) := by decide +kernel
theorem dX8_isWhole_6 : decode cX8_isWhole 6 = .ok (.bipush 10, 2) := by decide +kernel
theorem dX8_isWhole_8 : decode cX8_isWhole 8 = .ok (.iload_n 2, 1) := by decide +kernel
theorem dX8_isWhole_9 : decode cX8_isWhole 9 = .ok (.imul, 1) := by decide +kernel
theorem dX8_isWhole_10 : decode cX8_isWhole 10 = .ok (.bipush 10, 2) := by decide +kernel
theorem dX8_isWhole_12 : decode cX8_isWhole 12 = .ok (.iadd, 1) := by decide +kernel
theorem dX8_isWhole_13 : decode cX8_isWhole 13 = .ok (.if_icmp .ge 32, 3) := by decide +kernel
theorem dX8_isWhole_16 : decode cX8_isWhole 16 = .ok (.iload_n 3, 1) := by decide +kernel
theorem dX8_isWhole_17 : decode cX8_isWhole 17 = .ok (.aload_n 0, 1) := by decide +kernel
theorem dX8_isWhole_18 : decode cX8_isWhole 18 = .ok (.getfield 13, 3) := by decide +kernel
theorem dX8_isWhole_21 : decode cX8_isWhole 21 = .ok (.iload_n 1, 1) := by decide +kernel
theorem dX8_isWhole_22 : decode cX8_isWhole 22 = .ok (.invokestatic 64, 3) := by decide +kernel
theorem dX8_isWhole_25 : decode cX8_isWhole 25 = .ok (.if_icmp .ge 20, 3) := by decide +kernel
theorem dX8_isWhole_28 : decode cX8_isWhole 28 = .ok (.aload_n 0, 1) := by decide +kernel
theorem dX8_isWhole_29 : decode cX8_isWhole 29 = .ok (.iload_n 1, 1) := by decide +kernel
theorem dX8_isWhole_30 : decode cX8_isWhole 30 = .ok (.iload_n 3, 1) := by decide +kernel
theorem dX8_isWhole_31 : decode cX8_isWhole 31 = .ok (.invokevirtual 125, 3) := by decide +kernel
theorem dX8_isWhole_34 : decode cX8_isWhole 34 = .ok (.ifCond .ne 5, 3) := by decide +kernel
theorem dX8_isWhole_37 : decode cX8_isWhole 37 = .ok (.iconst 0, 1) := by decide +kernel
theorem dX8_isWhole_38 : decode cX8_isWhole 38 = .ok (.ireturn, 1) := by decide +kernel
theorem dX8_isWhole_39 : decode cX8_isWhole 39 = .ok (.iinc 3 1, 3) := by decide +kernel
theorem dX8_isWhole_42 : decode cX8_isWhole 42 = .ok (.goto (-37), 3) := by decide +kernel
theorem dX8_isWhole_45 : decode cX8_isWhole 45 = .ok (.iconst 1, 1) := by decide +kernel
theorem dX8_isWhole_46 : decode cX8_isWhole 46 = .ok (.ireturn, 1) := by decide +kernel
theorem dX8_wholes_0 : decode cX8_wholes 0 = .ok (.iconst 0, 1) := by decide +kernel
theorem dX8_wholes_1 : decode cX8_wholes 1 = .ok (.istore_n 2, 1) := by decide +kernel
theorem dX8_wholes_2 : decode cX8_wholes 2 = .ok (.iconst 0, 1) := by decide +kernel
theorem dX8_wholes_3 : decode cX8_wholes 3 = .ok (.istore_n 3, 1) := by decide +kernel
theorem dX8_wholes_4 : decode cX8_wholes 4 = .ok (.iload_n 3, 1) := by decide +kernel
theorem dX8_wholes_5 : decode cX8_wholes 5 = .ok (.aload_n 0, 1) := by decide +kernel
theorem dX8_wholes_6 : decode cX8_wholes 6 = .ok (.iload_n 1, 1) := by decide +kernel
theorem dX8_wholes_7 : decode cX8_wholes 7 = .ok (.invokevirtual 138, 3) := by decide +kernel
theorem dX8_wholes_10 : decode cX8_wholes 10 = .ok (.if_icmp .ge 26, 3) := by decide +kernel
theorem dX8_wholes_13 : decode cX8_wholes 13 = .ok (.iload_n 2, 1) := by decide +kernel
theorem dX8_wholes_14 : decode cX8_wholes 14 = .ok (.aload_n 0, 1) := by decide +kernel
theorem dX8_wholes_15 : decode cX8_wholes 15 = .ok (.iload_n 1, 1) := by decide +kernel
theorem dX8_wholes_16 : decode cX8_wholes 16 = .ok (.iload_n 3, 1) := by decide +kernel
theorem dX8_wholes_17 : decode cX8_wholes 17 = .ok (.invokevirtual 141, 3) := by decide +kernel
theorem dX8_wholes_20 : decode cX8_wholes 20 = .ok (.ifCond .eq 7, 3) := by decide +kernel
theorem dX8_wholes_23 : decode cX8_wholes 23 = .ok (.iconst 1, 1) := by decide +kernel
theorem dX8_wholes_24 : decode cX8_wholes 24 = .ok (.goto 4, 3) := by decide +kernel
theorem dX8_wholes_27 : decode cX8_wholes 27 = .ok (.iconst 0, 1) := by decide +kernel
theorem dX8_wholes_28 : decode cX8_wholes 28 = .ok (.iadd, 1) := by decide +kernel
theorem dX8_wholes_29 : decode cX8_wholes 29 = .ok (.istore_n 2, 1) := by decide +kernel
theorem dX8_wholes_30 : decode cX8_wholes 30 = .ok (.iinc 3 1, 3) := by decide +kernel
theorem dX8_wholes_33 : decode cX8_wholes 33 = .ok (.goto (-29), 3) := by decide +kernel
theorem dX8_wholes_36 : decode cX8_wholes 36 = .ok (.iload_n 2, 1) := by decide +kernel
theorem dX8_wholes_37 : decode cX8_wholes 37 = .ok (.ireturn, 1) := by decide +kernel
theorem dX8_series_0 : decode cX8_series 0 = .ok (.aload_n 0, 1) := by decide +kernel
theorem dX8_series_1 : decode cX8_series 1 = .ok (.iload_n 1, 1) := by decide +kernel
theorem dX8_series_2 : decode cX8_series 2 = .ok (.invokevirtual 84, 3) := by decide +kernel
theorem dX8_series_5 : decode cX8_series 5 = .ok (.ifCond .eq 15, 3) := by decide +kernel
theorem dX8_series_8 : decode cX8_series 8 = .ok (.iload_n 2, 1) := by decide +kernel
theorem dX8_series_9 : decode cX8_series 9 = .ok (.i2l, 1) := by decide +kernel
theorem dX8_series_10 : decode cX8_series 10 = .ok (.lconst 0, 1) := by decide +kernel
theorem dX8_series_11 : decode cX8_series 11 = .ok (.ldc2_w 144, 3) := by decide +kernel
theorem dX8_series_14 : decode cX8_series 14 = .ok (.invokestatic 33, 3) := by decide +kernel
theorem dX8_series_17 : decode cX8_series 17 = .ok (.ifCond .ne 5, 3) := by decide +kernel
theorem dX8_series_20 : decode cX8_series 20 = .ok (.iconst (-1), 1) := by decide +kernel
theorem dX8_series_21 : decode cX8_series 21 = .ok (.ireturn, 1) := by decide +kernel
theorem dX8_series_22 : decode cX8_series 22 = .ok (.iload_n 2, 1) := by decide +kernel
theorem dX8_series_23 : decode cX8_series 23 = .ok (.tableswitch 88 0 6 #[41, 41, 55, 64, 70, 76, 82], 41) := by decide +kernel
theorem dX8_series_64 : decode cX8_series 64 = .ok (.aload_n 0, 1) := by decide +kernel
theorem dX8_series_65 : decode cX8_series 65 = .ok (.getfield 13, 3) := by decide +kernel
theorem dX8_series_68 : decode cX8_series 68 = .ok (.iconst 4, 1) := by decide +kernel
theorem dX8_series_69 : decode cX8_series 69 = .ok (.bipush 6, 2) := by decide +kernel
theorem dX8_series_71 : decode cX8_series 71 = .ok (.iload_n 1, 1) := by decide +kernel
theorem dX8_series_72 : decode cX8_series 72 = .ok (.imul, 1) := by decide +kernel
theorem dX8_series_73 : decode cX8_series 73 = .ok (.iadd, 1) := by decide +kernel
theorem dX8_series_74 : decode cX8_series 74 = .ok (.iload_n 2, 1) := by decide +kernel
theorem dX8_series_75 : decode cX8_series 75 = .ok (.iadd, 1) := by decide +kernel
theorem dX8_series_76 : decode cX8_series 76 = .ok (.iaload, 1) := by decide +kernel
theorem dX8_series_77 : decode cX8_series 77 = .ok (.ireturn, 1) := by decide +kernel
theorem dX8_series_78 : decode cX8_series 78 = .ok (.aload_n 0, 1) := by decide +kernel
theorem dX8_series_79 : decode cX8_series 79 = .ok (.getfield 13, 3) := by decide +kernel
theorem dX8_series_82 : decode cX8_series 82 = .ok (.iload_n 1, 1) := by decide +kernel
theorem dX8_series_83 : decode cX8_series 83 = .ok (.invokestatic 64, 3) := by decide +kernel
theorem dX8_series_86 : decode cX8_series 86 = .ok (.ireturn, 1) := by decide +kernel
theorem dX8_series_87 : decode cX8_series 87 = .ok (.aload_n 0, 1) := by decide +kernel
theorem dX8_series_88 : decode cX8_series 88 = .ok (.iload_n 1, 1) := by decide +kernel
theorem dX8_series_89 : decode cX8_series 89 = .ok (.invokevirtual 146, 3) := by decide +kernel
theorem dX8_series_92 : decode cX8_series 92 = .ok (.ireturn, 1) := by decide +kernel
theorem dX8_series_93 : decode cX8_series 93 = .ok (.aload_n 0, 1) := by decide +kernel
theorem dX8_series_94 : decode cX8_series 94 = .ok (.iload_n 1, 1) := by decide +kernel
theorem dX8_series_95 : decode cX8_series 95 = .ok (.invokevirtual 149, 3) := by decide +kernel
theorem dX8_series_98 : decode cX8_series 98 = .ok (.ireturn, 1) := by decide +kernel
theorem dX8_series_99 : decode cX8_series 99 = .ok (.aload_n 0, 1) := by decide +kernel
theorem dX8_series_100 : decode cX8_series 100 = .ok (.iload_n 1, 1) := by decide +kernel
theorem dX8_series_101 : decode cX8_series 101 = .ok (.invokevirtual 152, 3) := by decide +kernel
theorem dX8_series_104 : decode cX8_series 104 = .ok (.ireturn, 1) := by decide +kernel
theorem dX8_series_105 : decode cX8_series 105 = .ok (.aload_n 0, 1) := by decide +kernel
theorem dX8_series_106 : decode cX8_series 106 = .ok (.iload_n 1, 1) := by decide +kernel
theorem dX8_series_107 : decode cX8_series 107 = .ok (.invokevirtual 138, 3) := by decide +kernel
theorem dX8_series_110 : decode cX8_series 110 = .ok (.ireturn, 1) := by decide +kernel
theorem dX8_series_111 : decode cX8_series 111 = .ok (.aload_n 0, 1) := by decide +kernel
theorem dX8_series_112 : decode cX8_series 112 = .ok (.iload_n 1, 1) := by decide +kernel
theorem dX8_series_113 : decode cX8_series 113 = .ok (.invokevirtual 155, 3) := by decide +kernel
theorem dX8_series_116 : decode cX8_series 116 = .ok (.ireturn, 1) := by decide +kernel
theorem dX8_share_0 : decode cX8_share 0 = .ok (.aload_n 0, 1) := by decide +kernel
theorem dX8_share_1 : decode cX8_share 1 = .ok (.iload_n 1, 1) := by decide +kernel
theorem dX8_share_2 : decode cX8_share 2 = .ok (.invokevirtual 84, 3) := by decide +kernel
theorem dX8_share_5 : decode cX8_share 5 = .ok (.ifCond .eq 23, 3) := by decide +kernel
theorem dX8_share_8 : decode cX8_share 8 = .ok (.aload_n 0, 1) := by decide +kernel
theorem dX8_share_9 : decode cX8_share 9 = .ok (.iload_n 2, 1) := by decide +kernel
theorem dX8_share_10 : decode cX8_share 10 = .ok (.invokevirtual 113, 3) := by decide +kernel
theorem dX8_share_13 : decode cX8_share 13 = .ok (.ifCond .eq 15, 3) := by decide +kernel
theorem dX8_share_16 : decode cX8_share 16 = .ok (.iload_n 3, 1) := by decide +kernel
theorem dX8_share_17 : decode cX8_share 17 = .ok (.i2l, 1) := by decide +kernel
theorem dX8_share_18 : decode cX8_share 18 = .ok (.lconst 0, 1) := by decide +kernel
theorem dX8_share_19 : decode cX8_share 19 = .ok (.ldc2_w 158, 3) := by decide +kernel
theorem dX8_share_22 : decode cX8_share 22 = .ok (.invokestatic 33, 3) := by decide +kernel
theorem dX8_share_25 : decode cX8_share 25 = .ok (.ifCond .ne 5, 3) := by decide +kernel
theorem dX8_share_28 : decode cX8_share 28 = .ok (.iconst (-1), 1) := by decide +kernel
theorem dX8_share_29 : decode cX8_share 29 = .ok (.ireturn, 1) := by decide +kernel
theorem dX8_share_30 : decode cX8_share 30 = .ok (.iload_n 3, 1) := by decide +kernel
theorem dX8_share_31 : decode cX8_share 31 = .ok (.ifCond .ne 12, 3) := by decide +kernel
theorem dX8_share_34 : decode cX8_share 34 = .ok (.aload_n 0, 1) := by decide +kernel
theorem dX8_share_35 : decode cX8_share 35 = .ok (.iload_n 1, 1) := by decide +kernel
theorem dX8_share_36 : decode cX8_share 36 = .ok (.iload_n 2, 1) := by decide +kernel
theorem dX8_share_37 : decode cX8_share 37 = .ok (.invokevirtual 87, 3) := by decide +kernel
theorem dX8_share_40 : decode cX8_share 40 = .ok (.goto 41, 3) := by decide +kernel
theorem dX8_share_43 : decode cX8_share 43 = .ok (.iload_n 3, 1) := by decide +kernel
theorem dX8_share_44 : decode cX8_share 44 = .ok (.iconst 1, 1) := by decide +kernel
theorem dX8_share_45 : decode cX8_share 45 = .ok (.if_icmp .ne 16, 3) := by decide +kernel
theorem dX8_share_48 : decode cX8_share 48 = .ok (.aload_n 0, 1) := by decide +kernel
theorem dX8_share_49 : decode cX8_share 49 = .ok (.getfield 19, 3) := by decide +kernel
theorem dX8_share_52 : decode cX8_share 52 = .ok (.iconst 4, 1) := by decide +kernel
theorem dX8_share_53 : decode cX8_share 53 = .ok (.iload_n 1, 1) := by decide +kernel
theorem dX8_share_54 : decode cX8_share 54 = .ok (.imul, 1) := by decide +kernel
theorem dX8_share_55 : decode cX8_share 55 = .ok (.iload_n 2, 1) := by decide +kernel
theorem dX8_share_56 : decode cX8_share 56 = .ok (.iadd, 1) := by decide +kernel
theorem dX8_share_57 : decode cX8_share 57 = .ok (.iaload, 1) := by decide +kernel
theorem dX8_share_58 : decode cX8_share 58 = .ok (.goto 23, 3) := by decide +kernel
theorem dX8_share_61 : decode cX8_share 61 = .ok (.iload_n 3, 1) := by decide +kernel
theorem dX8_share_62 : decode cX8_share 62 = .ok (.iconst 2, 1) := by decide +kernel
theorem dX8_share_63 : decode cX8_share 63 = .ok (.if_icmp .ne 12, 3) := by decide +kernel
theorem dX8_share_66 : decode cX8_share 66 = .ok (.aload_n 0, 1) := by decide +kernel
theorem dX8_share_67 : decode cX8_share 67 = .ok (.iload_n 1, 1) := by decide +kernel
theorem dX8_share_68 : decode cX8_share 68 = .ok (.iload_n 2, 1) := by decide +kernel
theorem dX8_share_69 : decode cX8_share 69 = .ok (.invokevirtual 91, 3) := by decide +kernel
theorem dX8_share_72 : decode cX8_share 72 = .ok (.goto 9, 3) := by decide +kernel
theorem dX8_share_75 : decode cX8_share 75 = .ok (.aload_n 0, 1) := by decide +kernel
theorem dX8_share_76 : decode cX8_share 76 = .ok (.getfield 13, 3) := by decide +kernel
theorem dX8_share_79 : decode cX8_share 79 = .ok (.iload_n 2, 1) := by decide +kernel
theorem dX8_share_80 : decode cX8_share 80 = .ok (.iaload, 1) := by decide +kernel
theorem dX8_share_81 : decode cX8_share 81 = .ok (.ireturn, 1) := by decide +kernel
theorem dX8_where_0 : decode cX8_where 0 = .ok (.aload_n 0, 1) := by decide +kernel
theorem dX8_where_1 : decode cX8_where 1 = .ok (.iload_n 1, 1) := by decide +kernel
theorem dX8_where_2 : decode cX8_where 2 = .ok (.iload_n 2, 1) := by decide +kernel
theorem dX8_where_3 : decode cX8_where 3 = .ok (.invokevirtual 121, 3) := by decide +kernel
theorem dX8_where_6 : decode cX8_where 6 = .ok (.ifCond .eq 15, 3) := by decide +kernel
theorem dX8_where_9 : decode cX8_where 9 = .ok (.iload_n 3, 1) := by decide +kernel
theorem dX8_where_10 : decode cX8_where 10 = .ok (.i2l, 1) := by decide +kernel
theorem dX8_where_11 : decode cX8_where 11 = .ok (.lconst 0, 1) := by decide +kernel
theorem dX8_where_12 : decode cX8_where 12 = .ok (.ldc2_w 160, 3) := by decide +kernel
theorem dX8_where_15 : decode cX8_where 15 = .ok (.invokestatic 33, 3) := by decide +kernel
theorem dX8_where_18 : decode cX8_where 18 = .ok (.ifCond .ne 5, 3) := by decide +kernel
theorem dX8_where_21 : decode cX8_where 21 = .ok (.iconst (-1), 1) := by decide +kernel
theorem dX8_where_22 : decode cX8_where 22 = .ok (.ireturn, 1) := by decide +kernel
theorem dX8_where_23 : decode cX8_where 23 = .ok (.aload_n 0, 1) := by decide +kernel
theorem dX8_where_24 : decode cX8_where 24 = .ok (.iload_n 1, 1) := by decide +kernel
theorem dX8_where_25 : decode cX8_where 25 = .ok (.iload_n 2, 1) := by decide +kernel
theorem dX8_where_26 : decode cX8_where 26 = .ok (.invokevirtual 94, 3) := by decide +kernel
theorem dX8_where_29 : decode cX8_where 29 = .ok (.istore 4, 2) := by decide +kernel
theorem dX8_where_31 : decode cX8_where 31 = .ok (.iload_n 3, 1) := by decide +kernel
theorem dX8_where_32 : decode cX8_where 32 = .ok (.ifCond .ne 8, 3) := by decide +kernel
theorem dX8_where_35 : decode cX8_where 35 = .ok (.iload 4, 2) := by decide +kernel
theorem dX8_where_37 : decode cX8_where 37 = .ok (.goto 34, 3) := by decide +kernel
theorem dX8_where_40 : decode cX8_where 40 = .ok (.iload_n 3, 1) := by decide +kernel
theorem dX8_where_41 : decode cX8_where 41 = .ok (.iconst 1, 1) := by decide +kernel
theorem dX8_where_42 : decode cX8_where 42 = .ok (.if_icmp .ne 12, 3) := by decide +kernel
theorem dX8_where_45 : decode cX8_where 45 = .ok (.aload_n 0, 1) := by decide +kernel
theorem dX8_where_46 : decode cX8_where 46 = .ok (.iload_n 1, 1) := by decide +kernel
theorem dX8_where_47 : decode cX8_where 47 = .ok (.iload_n 2, 1) := by decide +kernel
theorem dX8_where_48 : decode cX8_where 48 = .ok (.invokevirtual 97, 3) := by decide +kernel
theorem dX8_where_51 : decode cX8_where 51 = .ok (.goto 20, 3) := by decide +kernel
theorem dX8_where_54 : decode cX8_where 54 = .ok (.iload_n 2, 1) := by decide +kernel
theorem dX8_where_55 : decode cX8_where 55 = .ok (.aload_n 0, 1) := by decide +kernel
theorem dX8_where_56 : decode cX8_where 56 = .ok (.iload_n 1, 1) := by decide +kernel
theorem dX8_where_57 : decode cX8_where 57 = .ok (.iload 4, 2) := by decide +kernel
theorem dX8_where_59 : decode cX8_where 59 = .ok (.invokevirtual 91, 3) := by decide +kernel
theorem dX8_where_62 : decode cX8_where 62 = .ok (.isub, 1) := by decide +kernel
theorem dX8_where_63 : decode cX8_where 63 = .ok (.aload_n 0, 1) := by decide +kernel
theorem dX8_where_64 : decode cX8_where 64 = .ok (.iload_n 1, 1) := by decide +kernel
theorem dX8_where_65 : decode cX8_where 65 = .ok (.iload 4, 2) := by decide +kernel
theorem dX8_where_67 : decode cX8_where 67 = .ok (.invokevirtual 87, 3) := by decide +kernel
theorem dX8_where_70 : decode cX8_where 70 = .ok (.idiv, 1) := by decide +kernel
theorem dX8_where_71 : decode cX8_where 71 = .ok (.ireturn, 1) := by decide +kernel
theorem dX8_number_0 : decode cX8_number 0 = .ok (.aload_n 0, 1) := by decide +kernel
theorem dX8_number_1 : decode cX8_number 1 = .ok (.iload_n 1, 1) := by decide +kernel
theorem dX8_number_2 : decode cX8_number 2 = .ok (.invokevirtual 84, 3) := by decide +kernel
theorem dX8_number_5 : decode cX8_number 5 = .ok (.ifCond .eq 52, 3) := by decide +kernel
theorem dX8_number_8 : decode cX8_number 8 = .ok (.aload_n 0, 1) := by decide +kernel
theorem dX8_number_9 : decode cX8_number 9 = .ok (.iload_n 2, 1) := by decide +kernel
theorem dX8_number_10 : decode cX8_number 10 = .ok (.invokevirtual 113, 3) := by decide +kernel
theorem dX8_number_13 : decode cX8_number 13 = .ok (.ifCond .eq 44, 3) := by decide +kernel
theorem dX8_number_16 : decode cX8_number 16 = .ok (.iload_n 3, 1) := by decide +kernel
theorem dX8_number_17 : decode cX8_number 17 = .ok (.i2l, 1) := by decide +kernel
theorem dX8_number_18 : decode cX8_number 18 = .ok (.lconst 0, 1) := by decide +kernel
theorem dX8_number_19 : decode cX8_number 19 = .ok (.aload_n 0, 1) := by decide +kernel
theorem dX8_number_20 : decode cX8_number 20 = .ok (.iload_n 1, 1) := by decide +kernel
theorem dX8_number_21 : decode cX8_number 21 = .ok (.iload_n 2, 1) := by decide +kernel
theorem dX8_number_22 : decode cX8_number 22 = .ok (.invokevirtual 87, 3) := by decide +kernel
theorem dX8_number_25 : decode cX8_number 25 = .ok (.iconst 1, 1) := by decide +kernel
theorem dX8_number_26 : decode cX8_number 26 = .ok (.isub, 1) := by decide +kernel
theorem dX8_number_27 : decode cX8_number 27 = .ok (.i2l, 1) := by decide +kernel
theorem dX8_number_28 : decode cX8_number 28 = .ok (.invokestatic 33, 3) := by decide +kernel
theorem dX8_number_31 : decode cX8_number 31 = .ok (.ifCond .eq 26, 3) := by decide +kernel
theorem dX8_number_34 : decode cX8_number 34 = .ok (.iload 4, 2) := by decide +kernel
theorem dX8_number_36 : decode cX8_number 36 = .ok (.i2l, 1) := by decide +kernel
theorem dX8_number_37 : decode cX8_number 37 = .ok (.lconst 0, 1) := by decide +kernel
theorem dX8_number_38 : decode cX8_number 38 = .ok (.aload_n 0, 1) := by decide +kernel
theorem dX8_number_39 : decode cX8_number 39 = .ok (.getfield 13, 3) := by decide +kernel
theorem dX8_number_42 : decode cX8_number 42 = .ok (.iload_n 2, 1) := by decide +kernel
theorem dX8_number_43 : decode cX8_number 43 = .ok (.iaload, 1) := by decide +kernel
theorem dX8_number_44 : decode cX8_number 44 = .ok (.iconst 1, 1) := by decide +kernel
theorem dX8_number_45 : decode cX8_number 45 = .ok (.isub, 1) := by decide +kernel
theorem dX8_number_46 : decode cX8_number 46 = .ok (.i2l, 1) := by decide +kernel
theorem dX8_number_47 : decode cX8_number 47 = .ok (.invokestatic 33, 3) := by decide +kernel
theorem dX8_number_50 : decode cX8_number 50 = .ok (.ifCond .eq 7, 3) := by decide +kernel
theorem dX8_number_53 : decode cX8_number 53 = .ok (.iconst 1, 1) := by decide +kernel
theorem dX8_number_54 : decode cX8_number 54 = .ok (.goto 4, 3) := by decide +kernel
theorem dX8_number_57 : decode cX8_number 57 = .ok (.iconst 0, 1) := by decide +kernel
theorem dX8_number_58 : decode cX8_number 58 = .ok (.istore 5, 2) := by decide +kernel
theorem dX8_number_60 : decode cX8_number 60 = .ok (.iload 5, 2) := by decide +kernel
theorem dX8_number_62 : decode cX8_number 62 = .ok (.ifCond .eq 15, 3) := by decide +kernel
theorem dX8_number_65 : decode cX8_number 65 = .ok (.aload_n 0, 1) := by decide +kernel
theorem dX8_number_66 : decode cX8_number 66 = .ok (.iload_n 1, 1) := by decide +kernel
theorem dX8_number_67 : decode cX8_number 67 = .ok (.iload_n 2, 1) := by decide +kernel
theorem dX8_number_68 : decode cX8_number 68 = .ok (.iload_n 3, 1) := by decide +kernel
theorem dX8_number_69 : decode cX8_number 69 = .ok (.iload 4, 2) := by decide +kernel
theorem dX8_number_71 : decode cX8_number 71 = .ok (.invokevirtual 134, 3) := by decide +kernel
theorem dX8_number_74 : decode cX8_number 74 = .ok (.goto 4, 3) := by decide +kernel
theorem dX8_number_77 : decode cX8_number 77 = .ok (.iconst (-1), 1) := by decide +kernel
theorem dX8_number_78 : decode cX8_number 78 = .ok (.ireturn, 1) := by decide +kernel
theorem dX8_note_0 : decode cX8_note 0 = .ok (.aload_n 0, 1) := by decide +kernel
theorem dX8_note_1 : decode cX8_note 1 = .ok (.iload_n 1, 1) := by decide +kernel
theorem dX8_note_2 : decode cX8_note 2 = .ok (.iload_n 2, 1) := by decide +kernel
theorem dX8_note_3 : decode cX8_note 3 = .ok (.invokevirtual 121, 3) := by decide +kernel
theorem dX8_note_6 : decode cX8_note 6 = .ok (.ifCond .ne 7, 3) := by decide +kernel
theorem dX8_note_9 : decode cX8_note 9 = .ok (.iconst (-1), 1) := by decide +kernel
theorem dX8_note_10 : decode cX8_note 10 = .ok (.goto 32, 3) := by decide +kernel
theorem dX8_note_13 : decode cX8_note 13 = .ok (.aload_n 0, 1) := by decide +kernel
theorem dX8_note_14 : decode cX8_note 14 = .ok (.iload_n 1, 1) := by decide +kernel
theorem dX8_note_15 : decode cX8_note 15 = .ok (.iload_n 2, 1) := by decide +kernel
theorem dX8_note_16 : decode cX8_note 16 = .ok (.invokevirtual 125, 3) := by decide +kernel
theorem dX8_note_19 : decode cX8_note 19 = .ok (.ifCond .ne 7, 3) := by decide +kernel
theorem dX8_note_22 : decode cX8_note 22 = .ok (.iconst 0, 1) := by decide +kernel
theorem dX8_note_23 : decode cX8_note 23 = .ok (.goto 19, 3) := by decide +kernel
theorem dX8_note_26 : decode cX8_note 26 = .ok (.aload_n 0, 1) := by decide +kernel
theorem dX8_note_27 : decode cX8_note 27 = .ok (.iload_n 1, 1) := by decide +kernel
theorem dX8_note_28 : decode cX8_note 28 = .ok (.iload_n 2, 1) := by decide +kernel
theorem dX8_note_29 : decode cX8_note 29 = .ok (.invokevirtual 128, 3) := by decide +kernel
theorem dX8_note_32 : decode cX8_note 32 = .ok (.bipush (-4), 2) := by decide +kernel
theorem dX8_note_34 : decode cX8_note 34 = .ok (.if_icmp .ne 7, 3) := by decide +kernel
theorem dX8_note_37 : decode cX8_note 37 = .ok (.iconst 1, 1) := by decide +kernel
theorem dX8_note_38 : decode cX8_note 38 = .ok (.goto 4, 3) := by decide +kernel
theorem dX8_note_41 : decode cX8_note 41 = .ok (.iconst 2, 1) := by decide +kernel
theorem dX8_note_42 : decode cX8_note 42 = .ok (.ireturn, 1) := by decide +kernel
theorem dX8_star_0 : decode cX8_star 0 = .ok (.iload_n 1, 1) := by decide +kernel
theorem dX8_star_1 : decode cX8_star 1 = .ok (.i2l, 1) := by decide +kernel
theorem dX8_star_2 : decode cX8_star 2 = .ok (.lconst 0, 1) := by decide +kernel
theorem dX8_star_3 : decode cX8_star 3 = .ok (.aload_n 0, 1) := by decide +kernel
theorem dX8_star_4 : decode cX8_star 4 = .ok (.getfield 13, 3) := by decide +kernel
theorem dX8_star_7 : decode cX8_star 7 = .ok (.bipush 24, 2) := by decide +kernel
theorem dX8_star_9 : decode cX8_star 9 = .ok (.iaload, 1) := by decide +kernel
theorem dX8_star_10 : decode cX8_star 10 = .ok (.iconst 1, 1) := by decide +kernel
theorem dX8_star_11 : decode cX8_star 11 = .ok (.isub, 1) := by decide +kernel
theorem dX8_star_12 : decode cX8_star 12 = .ok (.i2l, 1) := by decide +kernel
theorem dX8_star_13 : decode cX8_star 13 = .ok (.invokestatic 33, 3) := by decide +kernel
theorem dX8_star_16 : decode cX8_star 16 = .ok (.ifCond .eq 15, 3) := by decide +kernel
theorem dX8_star_19 : decode cX8_star 19 = .ok (.iload_n 2, 1) := by decide +kernel
theorem dX8_star_20 : decode cX8_star 20 = .ok (.i2l, 1) := by decide +kernel
theorem dX8_star_21 : decode cX8_star 21 = .ok (.lconst 0, 1) := by decide +kernel
theorem dX8_star_22 : decode cX8_star 22 = .ok (.ldc2_w 160, 3) := by decide +kernel
theorem dX8_star_25 : decode cX8_star 25 = .ok (.invokestatic 33, 3) := by decide +kernel
theorem dX8_star_28 : decode cX8_star 28 = .ok (.ifCond .ne 5, 3) := by decide +kernel
theorem dX8_star_31 : decode cX8_star 31 = .ok (.iconst (-1), 1) := by decide +kernel
theorem dX8_star_32 : decode cX8_star 32 = .ok (.ireturn, 1) := by decide +kernel
theorem dX8_star_33 : decode cX8_star 33 = .ok (.iload_n 2, 1) := by decide +kernel
theorem dX8_star_34 : decode cX8_star 34 = .ok (.iconst 2, 1) := by decide +kernel
theorem dX8_star_35 : decode cX8_star 35 = .ok (.if_icmp .ne 12, 3) := by decide +kernel
theorem dX8_star_38 : decode cX8_star 38 = .ok (.iconst 0, 1) := by decide +kernel
theorem dX8_star_39 : decode cX8_star 39 = .ok (.iconst 1, 1) := by decide +kernel
theorem dX8_star_40 : decode cX8_star 40 = .ok (.iload_n 1, 1) := by decide +kernel
theorem dX8_star_41 : decode cX8_star 41 = .ok (.invokestatic 106, 3) := by decide +kernel
theorem dX8_star_44 : decode cX8_star 44 = .ok (.goto 52, 3) := by decide +kernel
theorem dX8_star_47 : decode cX8_star 47 = .ok (.iload_n 1, 1) := by decide +kernel
theorem dX8_star_48 : decode cX8_star 48 = .ok (.aload_n 0, 1) := by decide +kernel
theorem dX8_star_49 : decode cX8_star 49 = .ok (.getfield 19, 3) := by decide +kernel
theorem dX8_star_52 : decode cX8_star 52 = .ok (.bipush 111, 2) := by decide +kernel
theorem dX8_star_54 : decode cX8_star 54 = .ok (.iaload, 1) := by decide +kernel
theorem dX8_star_55 : decode cX8_star 55 = .ok (.if_icmp .lt 8, 3) := by decide +kernel
theorem dX8_star_58 : decode cX8_star 58 = .ok (.bipush (-4), 2) := by decide +kernel
theorem dX8_star_60 : decode cX8_star 60 = .ok (.goto 36, 3) := by decide +kernel
theorem dX8_star_63 : decode cX8_star 63 = .ok (.iload_n 2, 1) := by decide +kernel
theorem dX8_star_64 : decode cX8_star 64 = .ok (.ifCond .ne 19, 3) := by decide +kernel
theorem dX8_star_67 : decode cX8_star 67 = .ok (.aload_n 0, 1) := by decide +kernel
theorem dX8_star_68 : decode cX8_star 68 = .ok (.getfield 19, 3) := by decide +kernel
theorem dX8_star_71 : decode cX8_star 71 = .ok (.bipush 12, 2) := by decide +kernel
theorem dX8_star_73 : decode cX8_star 73 = .ok (.iload_n 1, 1) := by decide +kernel
theorem dX8_star_74 : decode cX8_star 74 = .ok (.iadd, 1) := by decide +kernel
theorem dX8_star_75 : decode cX8_star 75 = .ok (.iaload, 1) := by decide +kernel
theorem dX8_star_76 : decode cX8_star 76 = .ok (.sipush 1000, 3) := by decide +kernel
theorem dX8_star_79 : decode cX8_star 79 = .ok (.idiv, 1) := by decide +kernel
theorem dX8_star_80 : decode cX8_star 80 = .ok (.goto 16, 3) := by decide +kernel
theorem dX8_star_83 : decode cX8_star 83 = .ok (.aload_n 0, 1) := by decide +kernel
theorem dX8_star_84 : decode cX8_star 84 = .ok (.getfield 19, 3) := by decide +kernel
theorem dX8_star_87 : decode cX8_star 87 = .ok (.bipush 12, 2) := by decide +kernel
theorem dX8_star_89 : decode cX8_star 89 = .ok (.iload_n 1, 1) := by decide +kernel
theorem dX8_star_90 : decode cX8_star 90 = .ok (.iadd, 1) := by decide +kernel
theorem dX8_star_91 : decode cX8_star 91 = .ok (.iaload, 1) := by decide +kernel
theorem dX8_star_92 : decode cX8_star 92 = .ok (.sipush 1000, 3) := by decide +kernel
theorem dX8_star_95 : decode cX8_star 95 = .ok (.irem, 1) := by decide +kernel
theorem dX8_star_96 : decode cX8_star 96 = .ok (.ireturn, 1) := by decide +kernel
theorem dX8_starOf_0 : decode cX8_starOf 0 = .ok (.aload_n 0, 1) := by decide +kernel
theorem dX8_starOf_1 : decode cX8_starOf 1 = .ok (.iload_n 1, 1) := by decide +kernel
theorem dX8_starOf_2 : decode cX8_starOf 2 = .ok (.iload_n 2, 1) := by decide +kernel
theorem dX8_starOf_3 : decode cX8_starOf 3 = .ok (.invokevirtual 121, 3) := by decide +kernel
theorem dX8_starOf_6 : decode cX8_starOf 6 = .ok (.ifCond .eq 12, 3) := by decide +kernel
end
section
theorem dX8_starOf_9 : decode cX8_starOf 9 = .ok (.aload_n 0, 1) := by decide +kernel
theorem dX8_starOf_10 : decode cX8_starOf 10 = .ok (.iload_n 1, 1) := by decide +kernel
theorem dX8_starOf_11 : decode cX8_starOf 11 = .ok (.iload_n 2, 1) := by decide +kernel
theorem dX8_starOf_12 : decode cX8_starOf 12 = .ok (.invokevirtual 128, 3) := by decide +kernel
theorem dX8_starOf_15 : decode cX8_starOf 15 = .ok (.goto 4, 3) := by decide +kernel
theorem dX8_starOf_18 : decode cX8_starOf 18 = .ok (.iconst (-1), 1) := by decide +kernel
theorem dX8_starOf_19 : decode cX8_starOf 19 = .ok (.ireturn, 1) := by decide +kernel
theorem dX8_judgeStar_0 : decode cX8_judgeStar 0 = .ok (.iload_n 1, 1) := by decide +kernel
theorem dX8_judgeStar_1 : decode cX8_judgeStar 1 = .ok (.aload_n 0, 1) := by decide +kernel
theorem dX8_judgeStar_2 : decode cX8_judgeStar 2 = .ok (.getfield 13, 3) := by decide +kernel
theorem dX8_judgeStar_5 : decode cX8_judgeStar 5 = .ok (.bipush 24, 2) := by decide +kernel
theorem dX8_judgeStar_7 : decode cX8_judgeStar 7 = .ok (.iaload, 1) := by decide +kernel
theorem dX8_judgeStar_8 : decode cX8_judgeStar 8 = .ok (.if_icmp .lt 7, 3) := by decide +kernel
theorem dX8_judgeStar_11 : decode cX8_judgeStar 11 = .ok (.iconst 2, 1) := by decide +kernel
theorem dX8_judgeStar_12 : decode cX8_judgeStar 12 = .ok (.goto 33, 3) := by decide +kernel
theorem dX8_judgeStar_15 : decode cX8_judgeStar 15 = .ok (.iload_n 2, 1) := by decide +kernel
theorem dX8_judgeStar_16 : decode cX8_judgeStar 16 = .ok (.iconst 0, 1) := by decide +kernel
theorem dX8_judgeStar_17 : decode cX8_judgeStar 17 = .ok (.iconst 1, 1) := by decide +kernel
theorem dX8_judgeStar_18 : decode cX8_judgeStar 18 = .ok (.iload_n 1, 1) := by decide +kernel
theorem dX8_judgeStar_19 : decode cX8_judgeStar 19 = .ok (.invokestatic 106, 3) := by decide +kernel
theorem dX8_judgeStar_22 : decode cX8_judgeStar 22 = .ok (.if_icmp .eq 7, 3) := by decide +kernel
theorem dX8_judgeStar_25 : decode cX8_judgeStar 25 = .ok (.iconst 3, 1) := by decide +kernel
theorem dX8_judgeStar_26 : decode cX8_judgeStar 26 = .ok (.goto 19, 3) := by decide +kernel
theorem dX8_judgeStar_29 : decode cX8_judgeStar 29 = .ok (.iload_n 1, 1) := by decide +kernel
theorem dX8_judgeStar_30 : decode cX8_judgeStar 30 = .ok (.aload_n 0, 1) := by decide +kernel
theorem dX8_judgeStar_31 : decode cX8_judgeStar 31 = .ok (.getfield 19, 3) := by decide +kernel
theorem dX8_judgeStar_34 : decode cX8_judgeStar 34 = .ok (.bipush 111, 2) := by decide +kernel
theorem dX8_judgeStar_36 : decode cX8_judgeStar 36 = .ok (.iaload, 1) := by decide +kernel
theorem dX8_judgeStar_37 : decode cX8_judgeStar 37 = .ok (.if_icmp .lt 7, 3) := by decide +kernel
theorem dX8_judgeStar_40 : decode cX8_judgeStar 40 = .ok (.iconst 4, 1) := by decide +kernel
theorem dX8_judgeStar_41 : decode cX8_judgeStar 41 = .ok (.goto 4, 3) := by decide +kernel
theorem dX8_judgeStar_44 : decode cX8_judgeStar 44 = .ok (.iconst 0, 1) := by decide +kernel
theorem dX8_judgeStar_45 : decode cX8_judgeStar 45 = .ok (.ireturn, 1) := by decide +kernel
theorem dX8_judge_0 : decode cX8_judge 0 = .ok (.iload_n 1, 1) := by decide +kernel
theorem dX8_judge_1 : decode cX8_judge 1 = .ok (.i2l, 1) := by decide +kernel
theorem dX8_judge_2 : decode cX8_judge 2 = .ok (.lconst 0, 1) := by decide +kernel
theorem dX8_judge_3 : decode cX8_judge 3 = .ok (.ldc2_w 162, 3) := by decide +kernel
theorem dX8_judge_6 : decode cX8_judge 6 = .ok (.invokestatic 33, 3) := by decide +kernel
theorem dX8_judge_9 : decode cX8_judge 9 = .ok (.ifCond .eq 27, 3) := by decide +kernel
theorem dX8_judge_12 : decode cX8_judge 12 = .ok (.iload_n 2, 1) := by decide +kernel
theorem dX8_judge_13 : decode cX8_judge 13 = .ok (.i2l, 1) := by decide +kernel
theorem dX8_judge_14 : decode cX8_judge 14 = .ok (.lconst 0, 1) := by decide +kernel
theorem dX8_judge_15 : decode cX8_judge 15 = .ok (.ldc2_w 68, 3) := by decide +kernel
theorem dX8_judge_18 : decode cX8_judge 18 = .ok (.invokestatic 33, 3) := by decide +kernel
theorem dX8_judge_21 : decode cX8_judge 21 = .ok (.ifCond .eq 15, 3) := by decide +kernel
theorem dX8_judge_24 : decode cX8_judge 24 = .ok (.iload_n 3, 1) := by decide +kernel
theorem dX8_judge_25 : decode cX8_judge 25 = .ok (.i2l, 1) := by decide +kernel
theorem dX8_judge_26 : decode cX8_judge 26 = .ok (.lconst 0, 1) := by decide +kernel
theorem dX8_judge_27 : decode cX8_judge 27 = .ok (.ldc2_w 164, 3) := by decide +kernel
theorem dX8_judge_30 : decode cX8_judge 30 = .ok (.invokestatic 33, 3) := by decide +kernel
theorem dX8_judge_33 : decode cX8_judge 33 = .ok (.ifCond .ne 5, 3) := by decide +kernel
theorem dX8_judge_36 : decode cX8_judge 36 = .ok (.iconst (-1), 1) := by decide +kernel
theorem dX8_judge_37 : decode cX8_judge 37 = .ok (.ireturn, 1) := by decide +kernel
theorem dX8_judge_38 : decode cX8_judge 38 = .ok (.iload_n 1, 1) := by decide +kernel
theorem dX8_judge_39 : decode cX8_judge 39 = .ok (.ifCond .ne 10, 3) := by decide +kernel
theorem dX8_judge_42 : decode cX8_judge 42 = .ok (.aload_n 0, 1) := by decide +kernel
theorem dX8_judge_43 : decode cX8_judge 43 = .ok (.iload_n 2, 1) := by decide +kernel
theorem dX8_judge_44 : decode cX8_judge 44 = .ok (.iload_n 3, 1) := by decide +kernel
theorem dX8_judge_45 : decode cX8_judge 45 = .ok (.invokevirtual 166, 3) := by decide +kernel
theorem dX8_judge_48 : decode cX8_judge 48 = .ok (.ireturn, 1) := by decide +kernel
theorem dX8_judge_49 : decode cX8_judge 49 = .ok (.iconst 0, 1) := by decide +kernel
theorem dX8_judge_50 : decode cX8_judge 50 = .ok (.istore 4, 2) := by decide +kernel
theorem dX8_judge_52 : decode cX8_judge 52 = .ok (.iload 4, 2) := by decide +kernel
theorem dX8_judge_54 : decode cX8_judge 54 = .ok (.aload_n 0, 1) := by decide +kernel
theorem dX8_judge_55 : decode cX8_judge 55 = .ok (.getfield 13, 3) := by decide +kernel
theorem dX8_judge_58 : decode cX8_judge 58 = .ok (.bipush 23, 2) := by decide +kernel
theorem dX8_judge_60 : decode cX8_judge 60 = .ok (.iaload, 1) := by decide +kernel
theorem dX8_judge_61 : decode cX8_judge 61 = .ok (.if_icmp .ge 25, 3) := by decide +kernel
theorem dX8_judge_64 : decode cX8_judge 64 = .ok (.aload_n 0, 1) := by decide +kernel
theorem dX8_judge_65 : decode cX8_judge 65 = .ok (.getfield 13, 3) := by decide +kernel
theorem dX8_judge_68 : decode cX8_judge 68 = .ok (.iconst 4, 1) := by decide +kernel
theorem dX8_judge_69 : decode cX8_judge 69 = .ok (.bipush 6, 2) := by decide +kernel
theorem dX8_judge_71 : decode cX8_judge 71 = .ok (.iload 4, 2) := by decide +kernel
theorem dX8_judge_73 : decode cX8_judge 73 = .ok (.imul, 1) := by decide +kernel
theorem dX8_judge_74 : decode cX8_judge 74 = .ok (.iadd, 1) := by decide +kernel
theorem dX8_judge_75 : decode cX8_judge 75 = .ok (.iaload, 1) := by decide +kernel
theorem dX8_judge_76 : decode cX8_judge 76 = .ok (.iload_n 1, 1) := by decide +kernel
theorem dX8_judge_77 : decode cX8_judge 77 = .ok (.if_icmp .eq 9, 3) := by decide +kernel
theorem dX8_judge_80 : decode cX8_judge 80 = .ok (.iinc 4 1, 3) := by decide +kernel
theorem dX8_judge_83 : decode cX8_judge 83 = .ok (.goto (-31), 3) := by decide +kernel
theorem dX8_judge_86 : decode cX8_judge 86 = .ok (.iload 4, 2) := by decide +kernel
theorem dX8_judge_88 : decode cX8_judge 88 = .ok (.aload_n 0, 1) := by decide +kernel
theorem dX8_judge_89 : decode cX8_judge 89 = .ok (.getfield 13, 3) := by decide +kernel
theorem dX8_judge_92 : decode cX8_judge 92 = .ok (.bipush 23, 2) := by decide +kernel
theorem dX8_judge_94 : decode cX8_judge 94 = .ok (.iaload, 1) := by decide +kernel
theorem dX8_judge_95 : decode cX8_judge 95 = .ok (.if_icmp .ne 5, 3) := by decide +kernel
theorem dX8_judge_98 : decode cX8_judge 98 = .ok (.iconst 1, 1) := by decide +kernel
theorem dX8_judge_99 : decode cX8_judge 99 = .ok (.ireturn, 1) := by decide +kernel
theorem dX8_judge_100 : decode cX8_judge 100 = .ok (.aload_n 0, 1) := by decide +kernel
theorem dX8_judge_101 : decode cX8_judge 101 = .ok (.iload 4, 2) := by decide +kernel
theorem dX8_judge_103 : decode cX8_judge 103 = .ok (.iload_n 2, 1) := by decide +kernel
theorem dX8_judge_104 : decode cX8_judge 104 = .ok (.invokevirtual 121, 3) := by decide +kernel
theorem dX8_judge_107 : decode cX8_judge 107 = .ok (.ifCond .ne 7, 3) := by decide +kernel
theorem dX8_judge_110 : decode cX8_judge 110 = .ok (.iconst 2, 1) := by decide +kernel
theorem dX8_judge_111 : decode cX8_judge 111 = .ok (.goto 49, 3) := by decide +kernel
theorem dX8_judge_114 : decode cX8_judge 114 = .ok (.iload_n 3, 1) := by decide +kernel
theorem dX8_judge_115 : decode cX8_judge 115 = .ok (.aload_n 0, 1) := by decide +kernel
theorem dX8_judge_116 : decode cX8_judge 116 = .ok (.iload 4, 2) := by decide +kernel
theorem dX8_judge_118 : decode cX8_judge 118 = .ok (.iload_n 2, 1) := by decide +kernel
theorem dX8_judge_119 : decode cX8_judge 119 = .ok (.invokevirtual 110, 3) := by decide +kernel
theorem dX8_judge_122 : decode cX8_judge 122 = .ok (.if_icmp .eq 7, 3) := by decide +kernel
theorem dX8_judge_125 : decode cX8_judge 125 = .ok (.iconst 3, 1) := by decide +kernel
theorem dX8_judge_126 : decode cX8_judge 126 = .ok (.goto 34, 3) := by decide +kernel
theorem dX8_judge_129 : decode cX8_judge 129 = .ok (.aload_n 0, 1) := by decide +kernel
theorem dX8_judge_130 : decode cX8_judge 130 = .ok (.iload 4, 2) := by decide +kernel
theorem dX8_judge_132 : decode cX8_judge 132 = .ok (.iload_n 2, 1) := by decide +kernel
theorem dX8_judge_133 : decode cX8_judge 133 = .ok (.invokevirtual 125, 3) := by decide +kernel
theorem dX8_judge_136 : decode cX8_judge 136 = .ok (.ifCond .ne 7, 3) := by decide +kernel
theorem dX8_judge_139 : decode cX8_judge 139 = .ok (.iconst 4, 1) := by decide +kernel
theorem dX8_judge_140 : decode cX8_judge 140 = .ok (.goto 20, 3) := by decide +kernel
theorem dX8_judge_143 : decode cX8_judge 143 = .ok (.aload_n 0, 1) := by decide +kernel
theorem dX8_judge_144 : decode cX8_judge 144 = .ok (.iload 4, 2) := by decide +kernel
theorem dX8_judge_146 : decode cX8_judge 146 = .ok (.iload_n 2, 1) := by decide +kernel
theorem dX8_judge_147 : decode cX8_judge 147 = .ok (.invokevirtual 128, 3) := by decide +kernel
theorem dX8_judge_150 : decode cX8_judge 150 = .ok (.bipush (-4), 2) := by decide +kernel
theorem dX8_judge_152 : decode cX8_judge 152 = .ok (.if_icmp .eq 7, 3) := by decide +kernel
theorem dX8_judge_155 : decode cX8_judge 155 = .ok (.iconst 5, 1) := by decide +kernel
theorem dX8_judge_156 : decode cX8_judge 156 = .ok (.goto 4, 3) := by decide +kernel
theorem dX8_judge_159 : decode cX8_judge 159 = .ok (.iconst 0, 1) := by decide +kernel
theorem dX8_judge_160 : decode cX8_judge 160 = .ok (.ireturn, 1) := by decide +kernel
theorem dX8_pack_0 : decode cX8_pack 0 = .ok (.aload_n 0, 1) := by decide +kernel
theorem dX8_pack_1 : decode cX8_pack 1 = .ok (.iload_n 1, 1) := by decide +kernel
theorem dX8_pack_2 : decode cX8_pack 2 = .ok (.invokevirtual 84, 3) := by decide +kernel
theorem dX8_pack_5 : decode cX8_pack 5 = .ok (.ifCond .eq 32, 3) := by decide +kernel
theorem dX8_pack_8 : decode cX8_pack 8 = .ok (.iload_n 2, 1) := by decide +kernel
theorem dX8_pack_9 : decode cX8_pack 9 = .ok (.i2l, 1) := by decide +kernel
theorem dX8_pack_10 : decode cX8_pack 10 = .ok (.lconst 0, 1) := by decide +kernel
theorem dX8_pack_11 : decode cX8_pack 11 = .ok (.aload_n 0, 1) := by decide +kernel
theorem dX8_pack_12 : decode cX8_pack 12 = .ok (.iload_n 1, 1) := by decide +kernel
theorem dX8_pack_13 : decode cX8_pack 13 = .ok (.invokevirtual 138, 3) := by decide +kernel
theorem dX8_pack_16 : decode cX8_pack 16 = .ok (.iconst 1, 1) := by decide +kernel
theorem dX8_pack_17 : decode cX8_pack 17 = .ok (.isub, 1) := by decide +kernel
theorem dX8_pack_18 : decode cX8_pack 18 = .ok (.i2l, 1) := by decide +kernel
theorem dX8_pack_19 : decode cX8_pack 19 = .ok (.invokestatic 33, 3) := by decide +kernel
theorem dX8_pack_22 : decode cX8_pack 22 = .ok (.ifCond .eq 15, 3) := by decide +kernel
theorem dX8_pack_25 : decode cX8_pack 25 = .ok (.iload_n 3, 1) := by decide +kernel
theorem dX8_pack_26 : decode cX8_pack 26 = .ok (.i2l, 1) := by decide +kernel
theorem dX8_pack_27 : decode cX8_pack 27 = .ok (.lconst 0, 1) := by decide +kernel
theorem dX8_pack_28 : decode cX8_pack 28 = .ok (.ldc2_w 169, 3) := by decide +kernel
theorem dX8_pack_31 : decode cX8_pack 31 = .ok (.invokestatic 33, 3) := by decide +kernel
theorem dX8_pack_34 : decode cX8_pack 34 = .ok (.ifCond .ne 5, 3) := by decide +kernel
theorem dX8_pack_37 : decode cX8_pack 37 = .ok (.iconst (-1), 1) := by decide +kernel
theorem dX8_pack_38 : decode cX8_pack 38 = .ok (.ireturn, 1) := by decide +kernel
theorem dX8_pack_39 : decode cX8_pack 39 = .ok (.aload_n 0, 1) := by decide +kernel
theorem dX8_pack_40 : decode cX8_pack 40 = .ok (.iload_n 1, 1) := by decide +kernel
theorem dX8_pack_41 : decode cX8_pack 41 = .ok (.iload_n 2, 1) := by decide +kernel
theorem dX8_pack_42 : decode cX8_pack 42 = .ok (.invokevirtual 141, 3) := by decide +kernel
theorem dX8_pack_45 : decode cX8_pack 45 = .ok (.ifCond .ne 6, 3) := by decide +kernel
theorem dX8_pack_48 : decode cX8_pack 48 = .ok (.bipush (-2), 2) := by decide +kernel
theorem dX8_pack_50 : decode cX8_pack 50 = .ok (.ireturn, 1) := by decide +kernel
theorem dX8_pack_51 : decode cX8_pack 51 = .ok (.bipush 10, 2) := by decide +kernel
theorem dX8_pack_53 : decode cX8_pack 53 = .ok (.iload_n 2, 1) := by decide +kernel
theorem dX8_pack_54 : decode cX8_pack 54 = .ok (.imul, 1) := by decide +kernel
theorem dX8_pack_55 : decode cX8_pack 55 = .ok (.iload_n 3, 1) := by decide +kernel
theorem dX8_pack_56 : decode cX8_pack 56 = .ok (.iadd, 1) := by decide +kernel
theorem dX8_pack_57 : decode cX8_pack 57 = .ok (.istore 4, 2) := by decide +kernel
theorem dX8_pack_59 : decode cX8_pack 59 = .ok (.iload 4, 2) := by decide +kernel
theorem dX8_pack_61 : decode cX8_pack 61 = .ok (.aload_n 0, 1) := by decide +kernel
theorem dX8_pack_62 : decode cX8_pack 62 = .ok (.getfield 13, 3) := by decide +kernel
theorem dX8_pack_65 : decode cX8_pack 65 = .ok (.iload_n 1, 1) := by decide +kernel
theorem dX8_pack_66 : decode cX8_pack 66 = .ok (.invokestatic 64, 3) := by decide +kernel
theorem dX8_pack_69 : decode cX8_pack 69 = .ok (.if_icmp .lt 6, 3) := by decide +kernel
theorem dX8_pack_72 : decode cX8_pack 72 = .ok (.bipush (-4), 2) := by decide +kernel
theorem dX8_pack_74 : decode cX8_pack 74 = .ok (.ireturn, 1) := by decide +kernel
theorem dX8_pack_75 : decode cX8_pack 75 = .ok (.aload_n 0, 1) := by decide +kernel
theorem dX8_pack_76 : decode cX8_pack 76 = .ok (.iload_n 1, 1) := by decide +kernel
theorem dX8_pack_77 : decode cX8_pack 77 = .ok (.iload 4, 2) := by decide +kernel
theorem dX8_pack_79 : decode cX8_pack 79 = .ok (.invokevirtual 128, 3) := by decide +kernel
theorem dX8_pack_82 : decode cX8_pack 82 = .ok (.istore 5, 2) := by decide +kernel
theorem dX8_pack_84 : decode cX8_pack 84 = .ok (.iload 5, 2) := by decide +kernel
theorem dX8_pack_86 : decode cX8_pack 86 = .ok (.bipush (-4), 2) := by decide +kernel
theorem dX8_pack_88 : decode cX8_pack 88 = .ok (.if_icmp .ne 8, 3) := by decide +kernel
theorem dX8_pack_91 : decode cX8_pack 91 = .ok (.iload 4, 2) := by decide +kernel
theorem dX8_pack_93 : decode cX8_pack 93 = .ok (.goto 9, 3) := by decide +kernel
theorem dX8_pack_96 : decode cX8_pack 96 = .ok (.sipush 1000, 3) := by decide +kernel
theorem dX8_pack_99 : decode cX8_pack 99 = .ok (.iload 5, 2) := by decide +kernel
theorem dX8_pack_101 : decode cX8_pack 101 = .ok (.iadd, 1) := by decide +kernel
theorem dX8_pack_102 : decode cX8_pack 102 = .ok (.ireturn, 1) := by decide +kernel
theorem dX8_count_0 : decode cX8_count 0 = .ok (.iconst 0, 1) := by decide +kernel
theorem dX8_count_1 : decode cX8_count 1 = .ok (.istore_n 2, 1) := by decide +kernel
theorem dX8_count_2 : decode cX8_count 2 = .ok (.iconst 0, 1) := by decide +kernel
theorem dX8_count_3 : decode cX8_count 3 = .ok (.istore_n 3, 1) := by decide +kernel
theorem dX8_count_4 : decode cX8_count 4 = .ok (.iconst 0, 1) := by decide +kernel
theorem dX8_count_5 : decode cX8_count 5 = .ok (.istore 4, 2) := by decide +kernel
theorem dX8_count_7 : decode cX8_count 7 = .ok (.iconst 0, 1) := by decide +kernel
theorem dX8_count_8 : decode cX8_count 8 = .ok (.istore 5, 2) := by decide +kernel
theorem dX8_count_10 : decode cX8_count 10 = .ok (.iload 5, 2) := by decide +kernel
theorem dX8_count_12 : decode cX8_count 12 = .ok (.aload_n 0, 1) := by decide +kernel
theorem dX8_count_13 : decode cX8_count 13 = .ok (.getfield 13, 3) := by decide +kernel
theorem dX8_count_16 : decode cX8_count 16 = .ok (.bipush 23, 2) := by decide +kernel
theorem dX8_count_18 : decode cX8_count 18 = .ok (.iaload, 1) := by decide +kernel
theorem dX8_count_19 : decode cX8_count 19 = .ok (.if_icmp .ge 39, 3) := by decide +kernel
theorem dX8_count_22 : decode cX8_count 22 = .ok (.iload_n 2, 1) := by decide +kernel
theorem dX8_count_23 : decode cX8_count 23 = .ok (.aload_n 0, 1) := by decide +kernel
theorem dX8_count_24 : decode cX8_count 24 = .ok (.iload 5, 2) := by decide +kernel
theorem dX8_count_26 : decode cX8_count 26 = .ok (.invokevirtual 146, 3) := by decide +kernel
theorem dX8_count_29 : decode cX8_count 29 = .ok (.iadd, 1) := by decide +kernel
theorem dX8_count_30 : decode cX8_count 30 = .ok (.istore_n 2, 1) := by decide +kernel
theorem dX8_count_31 : decode cX8_count 31 = .ok (.iload 4, 2) := by decide +kernel
theorem dX8_count_33 : decode cX8_count 33 = .ok (.iload_n 1, 1) := by decide +kernel
theorem dX8_count_34 : decode cX8_count 34 = .ok (.bipush 7, 2) := by decide +kernel
theorem dX8_count_36 : decode cX8_count 36 = .ok (.if_icmp .ne 12, 3) := by decide +kernel
theorem dX8_count_39 : decode cX8_count 39 = .ok (.aload_n 0, 1) := by decide +kernel
theorem dX8_count_40 : decode cX8_count 40 = .ok (.iload 5, 2) := by decide +kernel
theorem dX8_count_42 : decode cX8_count 42 = .ok (.invokevirtual 155, 3) := by decide +kernel
theorem dX8_count_45 : decode cX8_count 45 = .ok (.goto 4, 3) := by decide +kernel
theorem dX8_count_48 : decode cX8_count 48 = .ok (.iconst 0, 1) := by decide +kernel
theorem dX8_count_49 : decode cX8_count 49 = .ok (.iadd, 1) := by decide +kernel
theorem dX8_count_50 : decode cX8_count 50 = .ok (.istore 4, 2) := by decide +kernel
theorem dX8_count_52 : decode cX8_count 52 = .ok (.iinc 5 1, 3) := by decide +kernel
theorem dX8_count_55 : decode cX8_count 55 = .ok (.goto (-45), 3) := by decide +kernel
theorem dX8_count_58 : decode cX8_count 58 = .ok (.iconst 0, 1) := by decide +kernel
theorem dX8_count_59 : decode cX8_count 59 = .ok (.istore 5, 2) := by decide +kernel
theorem dX8_count_61 : decode cX8_count 61 = .ok (.iload 5, 2) := by decide +kernel
theorem dX8_count_63 : decode cX8_count 63 = .ok (.bipush 12, 2) := by decide +kernel
theorem dX8_count_65 : decode cX8_count 65 = .ok (.if_icmp .ge 19, 3) := by decide +kernel
theorem dX8_count_68 : decode cX8_count 68 = .ok (.iload_n 3, 1) := by decide +kernel
theorem dX8_count_69 : decode cX8_count 69 = .ok (.aload_n 0, 1) := by decide +kernel
theorem dX8_count_70 : decode cX8_count 70 = .ok (.getfield 19, 3) := by decide +kernel
theorem dX8_count_73 : decode cX8_count 73 = .ok (.iload 5, 2) := by decide +kernel
theorem dX8_count_75 : decode cX8_count 75 = .ok (.iaload, 1) := by decide +kernel
theorem dX8_count_76 : decode cX8_count 76 = .ok (.iadd, 1) := by decide +kernel
theorem dX8_count_77 : decode cX8_count 77 = .ok (.istore_n 3, 1) := by decide +kernel
theorem dX8_count_78 : decode cX8_count 78 = .ok (.iinc 5 1, 3) := by decide +kernel
theorem dX8_count_81 : decode cX8_count 81 = .ok (.goto (-20), 3) := by decide +kernel
theorem dX8_count_84 : decode cX8_count 84 = .ok (.iload_n 1, 1) := by decide +kernel
theorem dX8_count_85 : decode cX8_count 85 = .ok (.tableswitch 104 0 9 #[55, 63, 71, 79, 87, 79, 89, 91, 94, 99], 55) := by decide +kernel
theorem dX8_count_140 : decode cX8_count 140 = .ok (.aload_n 0, 1) := by decide +kernel
theorem dX8_count_141 : decode cX8_count 141 = .ok (.getfield 13, 3) := by decide +kernel
theorem dX8_count_144 : decode cX8_count 144 = .ok (.bipush 22, 2) := by decide +kernel
theorem dX8_count_146 : decode cX8_count 146 = .ok (.iaload, 1) := by decide +kernel
theorem dX8_count_147 : decode cX8_count 147 = .ok (.ireturn, 1) := by decide +kernel
theorem dX8_count_148 : decode cX8_count 148 = .ok (.aload_n 0, 1) := by decide +kernel
theorem dX8_count_149 : decode cX8_count 149 = .ok (.getfield 13, 3) := by decide +kernel
theorem dX8_count_152 : decode cX8_count 152 = .ok (.bipush 23, 2) := by decide +kernel
theorem dX8_count_154 : decode cX8_count 154 = .ok (.iaload, 1) := by decide +kernel
theorem dX8_count_155 : decode cX8_count 155 = .ok (.ireturn, 1) := by decide +kernel
theorem dX8_count_156 : decode cX8_count 156 = .ok (.aload_n 0, 1) := by decide +kernel
theorem dX8_count_157 : decode cX8_count 157 = .ok (.getfield 13, 3) := by decide +kernel
theorem dX8_count_160 : decode cX8_count 160 = .ok (.bipush 24, 2) := by decide +kernel
theorem dX8_count_162 : decode cX8_count 162 = .ok (.iaload, 1) := by decide +kernel
theorem dX8_count_163 : decode cX8_count 163 = .ok (.ireturn, 1) := by decide +kernel
theorem dX8_count_164 : decode cX8_count 164 = .ok (.aload_n 0, 1) := by decide +kernel
theorem dX8_count_165 : decode cX8_count 165 = .ok (.getfield 19, 3) := by decide +kernel
theorem dX8_count_168 : decode cX8_count 168 = .ok (.bipush 111, 2) := by decide +kernel
theorem dX8_count_170 : decode cX8_count 170 = .ok (.iaload, 1) := by decide +kernel
theorem dX8_count_171 : decode cX8_count 171 = .ok (.ireturn, 1) := by decide +kernel
theorem dX8_count_172 : decode cX8_count 172 = .ok (.iload_n 2, 1) := by decide +kernel
theorem dX8_count_173 : decode cX8_count 173 = .ok (.ireturn, 1) := by decide +kernel
theorem dX8_count_174 : decode cX8_count 174 = .ok (.iload_n 3, 1) := by decide +kernel
theorem dX8_count_175 : decode cX8_count 175 = .ok (.ireturn, 1) := by decide +kernel
theorem dX8_count_176 : decode cX8_count 176 = .ok (.iload 4, 2) := by decide +kernel
theorem dX8_count_178 : decode cX8_count 178 = .ok (.ireturn, 1) := by decide +kernel
theorem dX8_count_179 : decode cX8_count 179 = .ok (.aload_n 0, 1) := by decide +kernel
theorem dX8_count_180 : decode cX8_count 180 = .ok (.getfield 81, 3) := by decide +kernel
theorem dX8_count_183 : decode cX8_count 183 = .ok (.ireturn, 1) := by decide +kernel
theorem dX8_count_184 : decode cX8_count 184 = .ok (.aload_n 0, 1) := by decide +kernel
theorem dX8_count_185 : decode cX8_count 185 = .ok (.getfield 37, 3) := by decide +kernel
theorem dX8_count_188 : decode cX8_count 188 = .ok (.ireturn, 1) := by decide +kernel
theorem dX8_count_189 : decode cX8_count 189 = .ok (.iconst (-1), 1) := by decide +kernel
theorem dX8_count_190 : decode cX8_count 190 = .ok (.ireturn, 1) := by decide +kernel
end
section
/-- the links between nest mates -/
def nW : List Cond := [(Jvm.Cond.methodLinkNest "NotePress" (9 : Nat) ({ cls := "NotePress$Text", name := "<init>", desc := "()V" } : Jvm.MethodName) "NotePress"), (Jvm.Cond.fieldLinkNest "NotePress" (67 : Nat) "NotePress$Text" "length" "I" "NotePress"), (Jvm.Cond.methodLinkNest "NotePress" (18 : Nat) ({ cls := "NotePress$Stars", name := "<init>", desc := "()V" } : Jvm.MethodName) "NotePress"), (Jvm.Cond.fieldLinkNest "NotePress" (206 : Nat) "NotePress$Stars" "told" "I" "NotePress"), (Jvm.Cond.fieldLinkNest "NotePress" (123 : Nat) "NotePress$Stars" "standing" "I" "NotePress"), (Jvm.Cond.methodLinkNest "NotePress" (25 : Nat) ({ cls := "NotePress$Changes", name := "<init>", desc := "()V" } : Jvm.MethodName) "NotePress"), (Jvm.Cond.fieldLinkNest "NotePress" (137 : Nat) "NotePress$Changes" "kept" "I" "NotePress"), (Jvm.Cond.methodLinkNest "NotePress$Series" (17 : Nat) ({ cls := "NotePress$Share", name := "<init>", desc := "()V" } : Jvm.MethodName) "NotePress"), (Jvm.Cond.fieldLinkNest "NotePress" (93 : Nat) "NotePress$Share" "places" "I" "NotePress"), (Jvm.Cond.fieldLinkNest "NotePress$Series" (57 : Nat) "NotePress$Share" "places" "I" "NotePress"), (Jvm.Cond.fieldLinkNest "NotePress" (176 : Nat) "NotePress$Share" "sheets" "I" "NotePress"), (Jvm.Cond.fieldLinkNest "NotePress" (179 : Nat) "NotePress$Share" "first" "I" "NotePress"), (Jvm.Cond.fieldLinkNest "NotePress" (86 : Nat) "NotePress$Share" "sheetsRun" "I" "NotePress"), (Jvm.Cond.fieldLinkNest "NotePress$Series" (54 : Nat) "NotePress$Share" "sheetsRun" "I" "NotePress"), (Jvm.Cond.fieldLinkNest "NotePress$Plan" (44 : Nat) "NotePress$Series" "letter" "I" "NotePress"), (Jvm.Cond.fieldLinkNest "NotePress" (153 : Nat) "NotePress$Series" "letter" "I" "NotePress"), (Jvm.Cond.fieldLinkNest "NotePress" (156 : Nat) "NotePress$Series" "kind" "I" "NotePress"), (Jvm.Cond.fieldLinkNest "NotePress$Text" (84 : Nat) "NotePress$Series" "notes" "I" "NotePress"), (Jvm.Cond.fieldLinkNest "NotePress" (159 : Nat) "NotePress$Series" "notes" "I" "NotePress"), (Jvm.Cond.fieldLinkNest "NotePress$Text" (78 : Nat) "NotePress$Plan" "places" "[I" "NotePress"), (Jvm.Cond.fieldLinkNest "NotePress$Text" (75 : Nat) "NotePress$Plan" "pressesTold" "I" "NotePress"), (Jvm.Cond.fieldLinkNest "NotePress" (230 : Nat) "NotePress$Plan" "pressesTold" "I" "NotePress"), (Jvm.Cond.fieldLinkNest "NotePress" (74 : Nat) "NotePress$Plan" "seriesTold" "I" "NotePress"), (Jvm.Cond.fieldLinkNest "NotePress$Text" (55 : Nat) "NotePress$Plan" "starsTold" "I" "NotePress"), (Jvm.Cond.fieldLinkNest "NotePress" (237 : Nat) "NotePress$Plan" "starsTold" "I" "NotePress"), (Jvm.Cond.methodLinkNest "NotePress$Text" (48 : Nat) ({ cls := "NotePress", name := "isFromTo", desc := "(III)Z" } : Jvm.MethodName) "NotePress"), (Jvm.Cond.methodLinkNest "NotePress$Plan" (32 : Nat) ({ cls := "NotePress", name := "isFromTo", desc := "(III)Z" } : Jvm.MethodName) "NotePress"), (Jvm.Cond.methodLinkNest "NotePress$Series" (35 : Nat) ({ cls := "NotePress", name := "isFromTo", desc := "(III)Z" } : Jvm.MethodName) "NotePress"), (Jvm.Cond.methodLinkNest "NotePress$Share" (24 : Nat) ({ cls := "NotePress", name := "isFromTo", desc := "(III)Z" } : Jvm.MethodName) "NotePress"), (Jvm.Cond.methodLinkNest "NotePress$Checks" (33 : Nat) ({ cls := "NotePress", name := "isFromTo", desc := "(III)Z" } : Jvm.MethodName) "NotePress"), (Jvm.Cond.methodLinkNest "NotePress$Stars" (34 : Nat) ({ cls := "NotePress", name := "isFromTo", desc := "(III)Z" } : Jvm.MethodName) "NotePress")]
theorem tn_0 : (Jvm.Cond.methodLinkNest "NotePress" (9 : Nat) ({ cls := "NotePress$Text", name := "<init>", desc := "()V" } : Jvm.MethodName) "NotePress") ∈ nW := List.mem_of_getElem? (i := 0) rfl
theorem tn_1 : (Jvm.Cond.fieldLinkNest "NotePress" (67 : Nat) "NotePress$Text" "length" "I" "NotePress") ∈ nW := List.mem_of_getElem? (i := 1) rfl
theorem tn_2 : (Jvm.Cond.methodLinkNest "NotePress" (18 : Nat) ({ cls := "NotePress$Stars", name := "<init>", desc := "()V" } : Jvm.MethodName) "NotePress") ∈ nW := List.mem_of_getElem? (i := 2) rfl
theorem tn_3 : (Jvm.Cond.fieldLinkNest "NotePress" (206 : Nat) "NotePress$Stars" "told" "I" "NotePress") ∈ nW := List.mem_of_getElem? (i := 3) rfl
theorem tn_4 : (Jvm.Cond.fieldLinkNest "NotePress" (123 : Nat) "NotePress$Stars" "standing" "I" "NotePress") ∈ nW := List.mem_of_getElem? (i := 4) rfl
theorem tn_5 : (Jvm.Cond.methodLinkNest "NotePress" (25 : Nat) ({ cls := "NotePress$Changes", name := "<init>", desc := "()V" } : Jvm.MethodName) "NotePress") ∈ nW := List.mem_of_getElem? (i := 5) rfl
theorem tn_6 : (Jvm.Cond.fieldLinkNest "NotePress" (137 : Nat) "NotePress$Changes" "kept" "I" "NotePress") ∈ nW := List.mem_of_getElem? (i := 6) rfl
theorem tn_7 : (Jvm.Cond.methodLinkNest "NotePress$Series" (17 : Nat) ({ cls := "NotePress$Share", name := "<init>", desc := "()V" } : Jvm.MethodName) "NotePress") ∈ nW := List.mem_of_getElem? (i := 7) rfl
theorem tn_8 : (Jvm.Cond.fieldLinkNest "NotePress" (93 : Nat) "NotePress$Share" "places" "I" "NotePress") ∈ nW := List.mem_of_getElem? (i := 8) rfl
theorem tn_9 : (Jvm.Cond.fieldLinkNest "NotePress$Series" (57 : Nat) "NotePress$Share" "places" "I" "NotePress") ∈ nW := List.mem_of_getElem? (i := 9) rfl
theorem tn_10 : (Jvm.Cond.fieldLinkNest "NotePress" (176 : Nat) "NotePress$Share" "sheets" "I" "NotePress") ∈ nW := List.mem_of_getElem? (i := 10) rfl
theorem tn_11 : (Jvm.Cond.fieldLinkNest "NotePress" (179 : Nat) "NotePress$Share" "first" "I" "NotePress") ∈ nW := List.mem_of_getElem? (i := 11) rfl
theorem tn_12 : (Jvm.Cond.fieldLinkNest "NotePress" (86 : Nat) "NotePress$Share" "sheetsRun" "I" "NotePress") ∈ nW := List.mem_of_getElem? (i := 12) rfl
theorem tn_13 : (Jvm.Cond.fieldLinkNest "NotePress$Series" (54 : Nat) "NotePress$Share" "sheetsRun" "I" "NotePress") ∈ nW := List.mem_of_getElem? (i := 13) rfl
theorem tn_14 : (Jvm.Cond.fieldLinkNest "NotePress$Plan" (44 : Nat) "NotePress$Series" "letter" "I" "NotePress") ∈ nW := List.mem_of_getElem? (i := 14) rfl
theorem tn_15 : (Jvm.Cond.fieldLinkNest "NotePress" (153 : Nat) "NotePress$Series" "letter" "I" "NotePress") ∈ nW := List.mem_of_getElem? (i := 15) rfl
theorem tn_16 : (Jvm.Cond.fieldLinkNest "NotePress" (156 : Nat) "NotePress$Series" "kind" "I" "NotePress") ∈ nW := List.mem_of_getElem? (i := 16) rfl
theorem tn_17 : (Jvm.Cond.fieldLinkNest "NotePress$Text" (84 : Nat) "NotePress$Series" "notes" "I" "NotePress") ∈ nW := List.mem_of_getElem? (i := 17) rfl
theorem tn_18 : (Jvm.Cond.fieldLinkNest "NotePress" (159 : Nat) "NotePress$Series" "notes" "I" "NotePress") ∈ nW := List.mem_of_getElem? (i := 18) rfl
theorem tn_19 : (Jvm.Cond.fieldLinkNest "NotePress$Text" (78 : Nat) "NotePress$Plan" "places" "[I" "NotePress") ∈ nW := List.mem_of_getElem? (i := 19) rfl
theorem tn_20 : (Jvm.Cond.fieldLinkNest "NotePress$Text" (75 : Nat) "NotePress$Plan" "pressesTold" "I" "NotePress") ∈ nW := List.mem_of_getElem? (i := 20) rfl
theorem tn_21 : (Jvm.Cond.fieldLinkNest "NotePress" (230 : Nat) "NotePress$Plan" "pressesTold" "I" "NotePress") ∈ nW := List.mem_of_getElem? (i := 21) rfl
theorem tn_22 : (Jvm.Cond.fieldLinkNest "NotePress" (74 : Nat) "NotePress$Plan" "seriesTold" "I" "NotePress") ∈ nW := List.mem_of_getElem? (i := 22) rfl
theorem tn_23 : (Jvm.Cond.fieldLinkNest "NotePress$Text" (55 : Nat) "NotePress$Plan" "starsTold" "I" "NotePress") ∈ nW := List.mem_of_getElem? (i := 23) rfl
theorem tn_24 : (Jvm.Cond.fieldLinkNest "NotePress" (237 : Nat) "NotePress$Plan" "starsTold" "I" "NotePress") ∈ nW := List.mem_of_getElem? (i := 24) rfl
theorem tn_25 : (Jvm.Cond.methodLinkNest "NotePress$Text" (48 : Nat) ({ cls := "NotePress", name := "isFromTo", desc := "(III)Z" } : Jvm.MethodName) "NotePress") ∈ nW := List.mem_of_getElem? (i := 25) rfl
theorem tn_26 : (Jvm.Cond.methodLinkNest "NotePress$Plan" (32 : Nat) ({ cls := "NotePress", name := "isFromTo", desc := "(III)Z" } : Jvm.MethodName) "NotePress") ∈ nW := List.mem_of_getElem? (i := 26) rfl
theorem tn_27 : (Jvm.Cond.methodLinkNest "NotePress$Series" (35 : Nat) ({ cls := "NotePress", name := "isFromTo", desc := "(III)Z" } : Jvm.MethodName) "NotePress") ∈ nW := List.mem_of_getElem? (i := 27) rfl
theorem tn_28 : (Jvm.Cond.methodLinkNest "NotePress$Share" (24 : Nat) ({ cls := "NotePress", name := "isFromTo", desc := "(III)Z" } : Jvm.MethodName) "NotePress") ∈ nW := List.mem_of_getElem? (i := 28) rfl
theorem tn_29 : (Jvm.Cond.methodLinkNest "NotePress$Checks" (33 : Nat) ({ cls := "NotePress", name := "isFromTo", desc := "(III)Z" } : Jvm.MethodName) "NotePress") ∈ nW := List.mem_of_getElem? (i := 29) rfl
theorem tn_30 : (Jvm.Cond.methodLinkNest "NotePress$Stars" (34 : Nat) ({ cls := "NotePress", name := "isFromTo", desc := "(III)Z" } : Jvm.MethodName) "NotePress") ∈ nW := List.mem_of_getElem? (i := 30) rfl
def isNe : Cond → Bool
  | .fieldLinkNest .. => true
  | .methodLinkNest .. => true
  | _ => false
theorem nW_ne : ∀ w ∈ nW, isNe w = true := List.all_eq_true.mp (by rfl)
theorem ne_warm {w : Cond} (h : isNe w = true) {s U : State} (hW : s.WarmedH U.vm) (hZ : va_Nw w s) : va_Nw w U := by
  cases w <;> first | exact va_Nw.warmF hW hZ | exact va_Nw.warmM hW hZ | cases h
theorem ne_tab {w : Cond} (h : isNe w = true) : w.onTables = true := by
  cases w <;> first | rfl | cases h
def nN (U : State) : Prop := ∀ w ∈ nW, va_Nw w U
theorem nN.warm {s U : State} (h : nN s) (hW : s.WarmedH U.vm) : nN U := fun w hw => ne_warm (nW_ne w hw) hW (h w hw)
theorem nN.same {s U : State} (h : nN s) (hv : s.vm = U.vm) : nN U := fun w hw => va_Nw.same (ne_tab (nW_ne w hw)) hv (h w hw)
/-- the static row TURNED -/
def turnT (j : Nat) : Int32 := ([1, 5, 7, 6, 2, 8, 3, 0, 9, 4] : List Int32).getD j 0
def tR (A : Nat → Prop) (U : State) : Prop := ∃ t : Nat, va_Z "NotePress$Checks" "TURNED" "[I" (.ref t) A U U.heap ∧ va_T .int t 10 (fun j => .int (turnT j)) A U U.heap
theorem tR.go {A B : Nat → Prop} {s U : State} {H : Heap} {locs : List Loc} (h : tR A s) (hS : va_S A s.heap H locs) (hU : U.heap = H) (hv : s.vm.Alike U.vm) (hB : ∀ q, B q → A q) : tR B U := by
  obtain ⟨t, hz, ht⟩ := h
  refine ⟨t, ?_, ?_⟩
  · rw [hU]; exact ((hz.moved hv).kept (fun a ha hn => hS.2.1 a ha hn)).narrow hB
  · rw [hU]; exact ((ht.moved hv).kept (fun a ha hn => hS.2.1 a ha hn)).narrow hB
def fR (P : Nat → Prop) (sz : Nat) : Nat → Prop := fun q => P q ∨ sz ≤ q
def pR {M : Type} (D : va_G) (tys : List (ClassId × FieldType)) (w : M → va_W) (P : Nat → Prop) (σ : M) (sz : Nat) (U : State) : Prop := U.heap.size = sz ∧ va_P D vwCl (w σ) U.heap ∧ va_K D vwCl tys U ∧ nN U ∧ tR (fR P sz) U
def rmd (d : Nat) : Room := { frames := d, cells := 0, slots := 0, locals := 40 * d }
def Mq {M : Type} (l : Launch) (D : va_G) (tys : List (ClassId × FieldType)) (w : M → va_W) (P : Nat → Prop) (y : MethodName) (cc : ByteArray) (nL : Nat) (ret : Option FieldType) (d : Nat) (av : List Value) (σ : M) (Qc : Nat → Array Value → State → Outcome → State → Prop) : Prop :=
  ∀ sz : Nat, Met l y (Cond.code y cc nL ret :: tB) (rmd d) (va_Pc av (pR D tys w P σ sz)) (Qc sz) 0 0 (fR P sz)
def qI {M : Type} (D : va_G) (w : M → va_W) (P : Nat → Prop) (σ' : M) (r : Int32) (sz : Nat) : Array Value → State → Outcome → State → Prop := va_Qi (fun r' (_ : Unit) => r' = r) (fun _ t => va_P D vwCl (w σ') t.heap) (fR P sz)
def qV {M : Type} (D : va_G) (w : M → va_W) (P : Nat → Prop) (σ' : M) (sz : Nat) : Array Value → State → Outcome → State → Prop := va_Qv (fun (_ : Unit) => True) (fun _ t => va_P D vwCl (w σ') t.heap) (fR P sz)
def qE {M : Type} (a : Nat → Nat) (D : va_G) (w : M → va_W) (P : Nat → Prop) (σ' : M) (r : Option Nat) (sz : Nat) : Array Value → State → Outcome → State → Prop := va_Qe a (fun r' (_ : Unit) => r' = r) (fun _ t => va_P D vwCl (w σ') t.heap) (fR P sz)
def Cx {M : Type} (p : Program) (s : State) (m : MethodId) (args : Array Value) (meth : Method) (c : Code) (cc : ByteArray) (nL : Nat) (own : String) (D : va_G) (tys : List (ClassId × FieldType)) (P : Nat → Prop) (w : M → va_W) : Prop :=
  CallFix p m c cc nL s args tB own ∧ va_K D vwCl tys s ∧ (∀ σ, va_D (fR P s.heap.size) (w σ)) ∧ meth.locks = false ∧ nN s ∧ tR (fR P s.heap.size) s
def Gg {M : Type} (p : Program) (l : Launch) (e : Env) (R : Room) (s : State) (m : MethodId) (args : Array Value) (below : List Frame) (meth : Method) (c : Code) (D : va_G) (P : Nat → Prop) (w : M → va_W) (nL nc ns : Nat) (Q : State → Prop) (σ : M) (lv : List (Nat × Value)) (pc : Nat) (st : List Value) : Prop :=
  ∀ (H : Heap) (locs : List Loc) (ls : Array Slot), va_P D vwCl (w σ) H → va_S (fR P s.heap.size) s.heap H locs → lv_has ls nL lv → W p l e R s m args below meth c H locs nc ns Q (F0 m pc ls st)
def bI (b : Bool) : Int32 := match b with | true => 1 | false => 0
def inb (i : Int32) (n : Nat) : Bool := !(decide (i < 0) || decide (n ≤ i.toNatClampNeg))
theorem inb_in {i : Int32} {n : Nat} (h : inb i n = true) : vp_in i n := by
  unfold inb at h; unfold vp_in
  intro q
  rcases q with q | q <;> simp [q] at h
def gd {α : Type} (b : Bool) (o : Option α) : Option α := match b with | true => o | false => none
theorem gd_some {α : Type} {b : Bool} {o : Option α} {x : α} (h : gd b o = some x) : b = true ∧ o = some x := by
  cases b
  · cases h
  · exact ⟨rfl, h⟩
theorem bd_some {α β : Type} {o : Option α} {k : α → Option β} {x : β} (h : o.bind k = some x) : ∃ a, o = some a ∧ k a = some x := by
  cases o with
  | none => cases h
  | some a => exact ⟨a, rfl, h⟩
def oc {β : Type} (r : Option Nat) (a : β) (f : Nat → β) : β := match r with | none => a | some k => f k
theorem oc_n {β : Type} {a : β} {f : Nat → β} : oc none a f = a := rfl
theorem bd2_some {α β γ : Type} {o : Option (α × β)} {k : α × β → Option γ} {x : γ} (h : o.bind k = some x) : ∃ a b, o = some (a, b) ∧ k (a, b) = some x := by
  cases o with
  | none => cases h
  | some a => exact ⟨a.1, a.2, rfl, h⟩
theorem oc_s {β : Type} {a : β} {f : Nat → β} {k : Nat} : oc (some k) a f = f k := rfl
section FR
variable {M : Type} {p : Program} {l : Launch} {e : Env} {R : Room} {s : State} {m : MethodId} {args : Array Value} {below : List Frame} {meth : Method} {c : Code} {D : va_G} {tys : List (ClassId × FieldType)} {P : Nat → Prop} {w : M → va_W} {nL nc ns : Nat} {Q : State → Prop} {σ : M} {lv : List (Nat × Value)} {pc : Nat} {st : List Value} {cc : ByteArray} {own : String}
theorem g_iconst (C : Cx p s m args meth c cc nL own D tys P w) {n : Int} {v : Int32} (d : decode cc pc = .ok (.iconst n, 1)) (hv : Int32.ofInt n = v) (k : Gg p l e R s m args below meth c D P w nL nc ns Q σ lv (pc + 1) (.int v :: st)) : Gg p l e R s m args below meth c D P w nL nc ns Q σ lv pc (st) := fun H locs ls hP hS hl => lv_iconst C.1.1 C.1.2.1 d hv (k H locs ls hP hS hl)
theorem g_bipush (C : Cx p s m args meth c cc nL own D tys P w) {n : Int} {v : Int32} (d : decode cc pc = .ok (.bipush n, 2)) (hv : (Int8.ofInt n).toInt32 = v) (k : Gg p l e R s m args below meth c D P w nL nc ns Q σ lv (pc + 2) (.int v :: st)) : Gg p l e R s m args below meth c D P w nL nc ns Q σ lv pc (st) := fun H locs ls hP hS hl => lv_bipush C.1.1 C.1.2.1 d hv (k H locs ls hP hS hl)
theorem g_sipush (C : Cx p s m args meth c cc nL own D tys P w) {n : Int} {v : Int32} (d : decode cc pc = .ok (.sipush n, 3)) (hv : (Int16.ofInt n).toInt32 = v) (k : Gg p l e R s m args below meth c D P w nL nc ns Q σ lv (pc + 3) (.int v :: st)) : Gg p l e R s m args below meth c D P w nL nc ns Q σ lv pc (st) := fun H locs ls hP hS hl => lv_sipush C.1.1 C.1.2.1 d hv (k H locs ls hP hS hl)
theorem g_lconst (C : Cx p s m args meth c cc nL own D tys P w) {n : Fin 2} {v : Int64} (d : decode cc pc = .ok (.lconst n, 1)) (hv : Int64.ofNat (n : Nat) = v) (k : Gg p l e R s m args below meth c D P w nL nc ns Q σ lv (pc + 1) (.long v :: st)) : Gg p l e R s m args below meth c D P w nL nc ns Q σ lv pc (st) := fun H locs ls hP hS hl => lv_lconst C.1.1 C.1.2.1 d hv (k H locs ls hP hS hl)
theorem g_ldc2 (C : Cx p s m args meth c cc nL own D tys P w) {index : Nat} {v : Int64} (h : Cond.constantLong own index v ∈ tB) (d : decode cc pc = .ok (.ldc2_w index, 3)) (k : Gg p l e R s m args below meth c D P w nL nc ns Q σ lv (pc + 3) (.long v :: st)) : Gg p l e R s m args below meth c D P w nL nc ns Q σ lv pc st := fun H locs ls hP hS hl => lv_ldc2 C.1.1 C.1.2.1 C.1.2.2.2.1 (C.1.2.2.2.2 _ h) d (k H locs ls hP hS hl)
theorem g_iload_n (C : Cx p s m args meth c cc nL own D tys P w) {q : Fin 4} {i : Nat} {x : Int32} (d : decode cc pc = .ok (.iload_n q, 1)) (j : Nat) (hi : (q : Nat) = i) (hj : lv[j]? = some (i, .int x)) (k : Gg p l e R s m args below meth c D P w nL nc ns Q σ lv (pc + 1) (.int x :: st)) : Gg p l e R s m args below meth c D P w nL nc ns Q σ lv pc (st) := fun H locs ls hP hS hl => lv_iload_n C.1.1 C.1.2.1 d hi (lv_at hl j hj) (k H locs ls hP hS hl)
theorem g_iload (C : Cx p s m args meth c cc nL own D tys P w) {i : Nat} {x : Int32} (d : decode cc pc = .ok (.iload i, 2)) (j : Nat) (hj : lv[j]? = some (i, .int x)) (k : Gg p l e R s m args below meth c D P w nL nc ns Q σ lv (pc + 2) (.int x :: st)) : Gg p l e R s m args below meth c D P w nL nc ns Q σ lv pc (st) := fun H locs ls hP hS hl => lv_iload C.1.1 C.1.2.1 d (lv_at hl j hj) (k H locs ls hP hS hl)
theorem g_lload_n (C : Cx p s m args meth c cc nL own D tys P w) {q : Fin 4} {i : Nat} {x : Int64} (d : decode cc pc = .ok (.lload_n q, 1)) (j : Nat) (hi : (q : Nat) = i) (hj : lv[j]? = some (i, .long x)) (k : Gg p l e R s m args below meth c D P w nL nc ns Q σ lv (pc + 1) (.long x :: st)) : Gg p l e R s m args below meth c D P w nL nc ns Q σ lv pc (st) := fun H locs ls hP hS hl => lv_lload_n C.1.1 C.1.2.1 d hi (lv_at hl j hj) (k H locs ls hP hS hl)
theorem g_lload (C : Cx p s m args meth c cc nL own D tys P w) {i : Nat} {x : Int64} (d : decode cc pc = .ok (.lload i, 2)) (j : Nat) (hj : lv[j]? = some (i, .long x)) (k : Gg p l e R s m args below meth c D P w nL nc ns Q σ lv (pc + 2) (.long x :: st)) : Gg p l e R s m args below meth c D P w nL nc ns Q σ lv pc (st) := fun H locs ls hP hS hl => lv_lload C.1.1 C.1.2.1 d (lv_at hl j hj) (k H locs ls hP hS hl)
theorem g_aload_n (C : Cx p s m args meth c cc nL own D tys P w) {q : Fin 4} {i : Nat} {x : Nat} (d : decode cc pc = .ok (.aload_n q, 1)) (j : Nat) (hi : (q : Nat) = i) (hj : lv[j]? = some (i, .ref x)) (k : Gg p l e R s m args below meth c D P w nL nc ns Q σ lv (pc + 1) (.ref x :: st)) : Gg p l e R s m args below meth c D P w nL nc ns Q σ lv pc (st) := fun H locs ls hP hS hl => lv_aload_n C.1.1 C.1.2.1 d hi (lv_at hl j hj) (k H locs ls hP hS hl)
theorem g_aload (C : Cx p s m args meth c cc nL own D tys P w) {i : Nat} {x : Nat} (d : decode cc pc = .ok (.aload i, 2)) (j : Nat) (hj : lv[j]? = some (i, .ref x)) (k : Gg p l e R s m args below meth c D P w nL nc ns Q σ lv (pc + 2) (.ref x :: st)) : Gg p l e R s m args below meth c D P w nL nc ns Q σ lv pc (st) := fun H locs ls hP hS hl => lv_aload C.1.1 C.1.2.1 d (lv_at hl j hj) (k H locs ls hP hS hl)
theorem g_aload_nN (C : Cx p s m args meth c cc nL own D tys P w) {q : Fin 4} {i : Nat} (d : decode cc pc = .ok (.aload_n q, 1)) (j : Nat) (hi : (q : Nat) = i) (hj : lv[j]? = some (i, .null)) (k : Gg p l e R s m args below meth c D P w nL nc ns Q σ lv (pc + 1) (.null :: st)) : Gg p l e R s m args below meth c D P w nL nc ns Q σ lv pc (st) := fun H locs ls hP hS hl => lv_aload_nN C.1.1 C.1.2.1 d hi (lv_at hl j hj) (k H locs ls hP hS hl)
theorem g_aloadN (C : Cx p s m args meth c cc nL own D tys P w) {i : Nat} (d : decode cc pc = .ok (.aload i, 2)) (j : Nat) (hj : lv[j]? = some (i, .null)) (k : Gg p l e R s m args below meth c D P w nL nc ns Q σ lv (pc + 2) (.null :: st)) : Gg p l e R s m args below meth c D P w nL nc ns Q σ lv pc (st) := fun H locs ls hP hS hl => lv_aloadN C.1.1 C.1.2.1 d (lv_at hl j hj) (k H locs ls hP hS hl)
theorem g_istore_n (C : Cx p s m args meth c cc nL own D tys P w) {q : Fin 4} {i : Nat} {x : Int32} (lv' : List (Nat × Value)) (d : decode cc pc = .ok (.istore_n q, 1)) (hi : (q : Nat) = i) (hn : i < nL) (hl0 : (i, Value.int x) :: lv.filter (fun q => !(q.1 == i) && !(q.1 + 1 == i && q.2.category == 2)) = lv') (k : Gg p l e R s m args below meth c D P w nL nc ns Q σ lv' (pc + 1) st) : Gg p l e R s m args below meth c D P w nL nc ns Q σ lv pc (Value.int x :: st) := fun H locs ls hP hS hl => lv_istore_n C.1.1 C.1.2.1 d hi hl hn hl0 (fun ls hl => (k H locs ls hP hS hl))
theorem g_istore (C : Cx p s m args meth c cc nL own D tys P w) {i : Nat} {x : Int32} (lv' : List (Nat × Value)) (d : decode cc pc = .ok (.istore i, 2)) (hn : i < nL) (hl0 : (i, Value.int x) :: lv.filter (fun q => !(q.1 == i) && !(q.1 + 1 == i && q.2.category == 2)) = lv') (k : Gg p l e R s m args below meth c D P w nL nc ns Q σ lv' (pc + 2) st) : Gg p l e R s m args below meth c D P w nL nc ns Q σ lv pc (Value.int x :: st) := fun H locs ls hP hS hl => lv_istore C.1.1 C.1.2.1 d hl hn hl0 (fun ls hl => (k H locs ls hP hS hl))
theorem g_astore_n (C : Cx p s m args meth c cc nL own D tys P w) {q : Fin 4} {i : Nat} {x : Nat} (lv' : List (Nat × Value)) (d : decode cc pc = .ok (.astore_n q, 1)) (hi : (q : Nat) = i) (hn : i < nL) (hl0 : (i, Value.ref x) :: lv.filter (fun q => !(q.1 == i) && !(q.1 + 1 == i && q.2.category == 2)) = lv') (k : Gg p l e R s m args below meth c D P w nL nc ns Q σ lv' (pc + 1) st) : Gg p l e R s m args below meth c D P w nL nc ns Q σ lv pc (Value.ref x :: st) := fun H locs ls hP hS hl => lv_astore_n C.1.1 C.1.2.1 d hi hl hn hl0 (fun ls hl => (k H locs ls hP hS hl))
theorem g_astore (C : Cx p s m args meth c cc nL own D tys P w) {i : Nat} {x : Nat} (lv' : List (Nat × Value)) (d : decode cc pc = .ok (.astore i, 2)) (hn : i < nL) (hl0 : (i, Value.ref x) :: lv.filter (fun q => !(q.1 == i) && !(q.1 + 1 == i && q.2.category == 2)) = lv') (k : Gg p l e R s m args below meth c D P w nL nc ns Q σ lv' (pc + 2) st) : Gg p l e R s m args below meth c D P w nL nc ns Q σ lv pc (Value.ref x :: st) := fun H locs ls hP hS hl => lv_astore C.1.1 C.1.2.1 d hl hn hl0 (fun ls hl => (k H locs ls hP hS hl))
theorem g_astore_nN (C : Cx p s m args meth c cc nL own D tys P w) {q : Fin 4} {i : Nat}  (lv' : List (Nat × Value)) (d : decode cc pc = .ok (.astore_n q, 1)) (hi : (q : Nat) = i) (hn : i < nL) (hl0 : (i, Value.null) :: lv.filter (fun q => !(q.1 == i) && !(q.1 + 1 == i && q.2.category == 2)) = lv') (k : Gg p l e R s m args below meth c D P w nL nc ns Q σ lv' (pc + 1) st) : Gg p l e R s m args below meth c D P w nL nc ns Q σ lv pc (Value.null :: st) := fun H locs ls hP hS hl => lv_astore_nN C.1.1 C.1.2.1 d hi hl hn hl0 (fun ls hl => (k H locs ls hP hS hl))
theorem g_astoreN (C : Cx p s m args meth c cc nL own D tys P w) {i : Nat}  (lv' : List (Nat × Value)) (d : decode cc pc = .ok (.astore i, 2)) (hn : i < nL) (hl0 : (i, Value.null) :: lv.filter (fun q => !(q.1 == i) && !(q.1 + 1 == i && q.2.category == 2)) = lv') (k : Gg p l e R s m args below meth c D P w nL nc ns Q σ lv' (pc + 2) st) : Gg p l e R s m args below meth c D P w nL nc ns Q σ lv pc (Value.null :: st) := fun H locs ls hP hS hl => lv_astoreN C.1.1 C.1.2.1 d hl hn hl0 (fun ls hl => (k H locs ls hP hS hl))
theorem g_iinc (C : Cx p s m args meth c cc nL own D tys P w) {i : Nat} {n : Int} {x v : Int32} (lv' : List (Nat × Value)) (j : Nat) (d : decode cc pc = .ok (.iinc i n, 3)) (hj : lv[j]? = some (i, .int x)) (hv : Int32.ofInt n = v) (hn : i < nL) (hl0 : (i, Value.int (x + v)) :: lv.filter (fun q => !(q.1 == i) && !(q.1 + 1 == i && q.2.category == 2)) = lv') (k : Gg p l e R s m args below meth c D P w nL nc ns Q σ lv' (pc + 3) st) : Gg p l e R s m args below meth c D P w nL nc ns Q σ lv pc st := fun H locs ls hP hS hl => lv_iinc C.1.1 C.1.2.1 d hl hj (by rw [hv]) hn hl0 (fun ls hl => (k H locs ls hP hS hl))
theorem g_iadd (C : Cx p s m args meth c cc nL own D tys P w) {x y : Int32} (d : decode cc pc = .ok (.iadd, 1))  (k : Gg p l e R s m args below meth c D P w nL nc ns Q σ lv (pc + 1) (.int (x + y) :: st)) : Gg p l e R s m args below meth c D P w nL nc ns Q σ lv pc (.int y :: .int x :: st) := fun H locs ls hP hS hl => lv_iadd C.1.1 C.1.2.1 d  (k H locs ls hP hS hl)
theorem g_isub (C : Cx p s m args meth c cc nL own D tys P w) {x y : Int32} (d : decode cc pc = .ok (.isub, 1))  (k : Gg p l e R s m args below meth c D P w nL nc ns Q σ lv (pc + 1) (.int (x - y) :: st)) : Gg p l e R s m args below meth c D P w nL nc ns Q σ lv pc (.int y :: .int x :: st) := fun H locs ls hP hS hl => lv_isub C.1.1 C.1.2.1 d  (k H locs ls hP hS hl)
theorem g_imul (C : Cx p s m args meth c cc nL own D tys P w) {x y : Int32} (d : decode cc pc = .ok (.imul, 1))  (k : Gg p l e R s m args below meth c D P w nL nc ns Q σ lv (pc + 1) (.int (x * y) :: st)) : Gg p l e R s m args below meth c D P w nL nc ns Q σ lv pc (.int y :: .int x :: st) := fun H locs ls hP hS hl => lv_imul C.1.1 C.1.2.1 d  (k H locs ls hP hS hl)
theorem g_iand (C : Cx p s m args meth c cc nL own D tys P w) {x y : Int32} (d : decode cc pc = .ok (.iand, 1))  (k : Gg p l e R s m args below meth c D P w nL nc ns Q σ lv (pc + 1) (.int (x &&& y) :: st)) : Gg p l e R s m args below meth c D P w nL nc ns Q σ lv pc (.int y :: .int x :: st) := fun H locs ls hP hS hl => lv_iand C.1.1 C.1.2.1 d  (k H locs ls hP hS hl)
theorem g_ixor (C : Cx p s m args meth c cc nL own D tys P w) {x y : Int32} (d : decode cc pc = .ok (.ixor, 1))  (k : Gg p l e R s m args below meth c D P w nL nc ns Q σ lv (pc + 1) (.int (x ^^^ y) :: st)) : Gg p l e R s m args below meth c D P w nL nc ns Q σ lv pc (.int y :: .int x :: st) := fun H locs ls hP hS hl => lv_ixor C.1.1 C.1.2.1 d  (k H locs ls hP hS hl)
theorem g_idiv (C : Cx p s m args meth c cc nL own D tys P w) {x y : Int32} (d : decode cc pc = .ok (.idiv, 1)) (hne : ¬ y = 0) (k : Gg p l e R s m args below meth c D P w nL nc ns Q σ lv (pc + 1) (.int (x / y) :: st)) : Gg p l e R s m args below meth c D P w nL nc ns Q σ lv pc (.int y :: .int x :: st) := fun H locs ls hP hS hl => lv_idiv C.1.1 C.1.2.1 d hne (k H locs ls hP hS hl)
theorem g_irem (C : Cx p s m args meth c cc nL own D tys P w) {x y : Int32} (d : decode cc pc = .ok (.irem, 1)) (hne : ¬ y = 0) (k : Gg p l e R s m args below meth c D P w nL nc ns Q σ lv (pc + 1) (.int (x - x / y * y) :: st)) : Gg p l e R s m args below meth c D P w nL nc ns Q σ lv pc (.int y :: .int x :: st) := fun H locs ls hP hS hl => lv_irem C.1.1 C.1.2.1 d hne (k H locs ls hP hS hl)
theorem g_ineg (C : Cx p s m args meth c cc nL own D tys P w) {x : Int32} (d : decode cc pc = .ok (.ineg, 1))  (k : Gg p l e R s m args below meth c D P w nL nc ns Q σ lv (pc + 1) (.int (-x) :: st)) : Gg p l e R s m args below meth c D P w nL nc ns Q σ lv pc (.int x :: st) := fun H locs ls hP hS hl => lv_ineg C.1.1 C.1.2.1 d  (k H locs ls hP hS hl)
theorem g_i2l (C : Cx p s m args meth c cc nL own D tys P w) {x : Int32} (d : decode cc pc = .ok (.i2l, 1))  (k : Gg p l e R s m args below meth c D P w nL nc ns Q σ lv (pc + 1) (.long x.toInt64 :: st)) : Gg p l e R s m args below meth c D P w nL nc ns Q σ lv pc (.int x :: st) := fun H locs ls hP hS hl => lv_i2l C.1.1 C.1.2.1 d rfl (k H locs ls hP hS hl)
theorem g_lcmp (C : Cx p s m args meth c cc nL own D tys P w) {x y : Int64} (d : decode cc pc = .ok (.lcmp, 1)) (k : Gg p l e R s m args below meth c D P w nL nc ns Q σ lv (pc + 1) (.int (lg_cmp x y) :: st)) : Gg p l e R s m args below meth c D P w nL nc ns Q σ lv pc (.long y :: .long x :: st) := fun H locs ls hP hS hl => W.lcmp C.1.1 C.1.2.1 d (k H locs ls hP hS hl)
theorem g_dup (C : Cx p s m args meth c cc nL own D tys P w) {v : Value} (d : decode cc pc = .ok (.dup, 1)) (hv : v.category = 1) (k : Gg p l e R s m args below meth c D P w nL nc ns Q σ lv (pc + 1) (v :: v :: st)) : Gg p l e R s m args below meth c D P w nL nc ns Q σ lv pc (v :: st) := fun H locs ls hP hS hl => lv_dup C.1.1 C.1.2.1 d hv (k H locs ls hP hS hl)
theorem g_pop (C : Cx p s m args meth c cc nL own D tys P w) {v : Value} (d : decode cc pc = .ok (.pop, 1)) (hv : v.category = 1) (k : Gg p l e R s m args below meth c D P w nL nc ns Q σ lv (pc + 1) (st)) : Gg p l e R s m args below meth c D P w nL nc ns Q σ lv pc (v :: st) := fun H locs ls hP hS hl => lv_pop C.1.1 C.1.2.1 d hv (k H locs ls hP hS hl)
theorem g_dup2 (C : Cx p s m args meth c cc nL own D tys P w) {u v : Value} (d : decode cc pc = .ok (.dup2, 1)) (hu : u.category = 1) (hv : v.category = 1) (k : Gg p l e R s m args below meth c D P w nL nc ns Q σ lv (pc + 1) (u :: v :: u :: v :: st)) : Gg p l e R s m args below meth c D P w nL nc ns Q σ lv pc (u :: v :: st) := fun H locs ls hP hS hl => lv_dup2_11 C.1.1 C.1.2.1 d hu hv (k H locs ls hP hS hl)
theorem g_null (C : Cx p s m args meth c cc nL own D tys P w)  (d : decode cc pc = .ok (.aconst_null, 1))  (k : Gg p l e R s m args below meth c D P w nL nc ns Q σ lv (pc + 1) (.null :: st)) : Gg p l e R s m args below meth c D P w nL nc ns Q σ lv pc (st) := fun H locs ls hP hS hl => lv_null C.1.1 C.1.2.1 d  (k H locs ls hP hS hl)
theorem g_if_eq (C : Cx p s m args meth c cc nL own D tys P w) {x : Int32} {off : Int} (tgt : Nat) (d : decode cc pc = .ok (.ifCond .eq off, 3)) (ht : (pc : Int) + off = (tgt : Int)) (kt : x = 0 → Gg p l e R s m args below meth c D P w nL nc ns Q σ lv tgt st) (kf : ¬ (x = 0) → Gg p l e R s m args below meth c D P w nL nc ns Q σ lv (pc + 3) st) : Gg p l e R s m args below meth c D P w nL nc ns Q σ lv pc (.int x :: st) := fun H locs ls hP hS hl => lv_if_eq C.1.1 C.1.2.1 d ht (fun q => kt q H locs ls hP hS hl) (fun q => kf q H locs ls hP hS hl)
theorem g_icmp_eq (C : Cx p s m args meth c cc nL own D tys P w) {x y : Int32} {off : Int} (tgt : Nat) (d : decode cc pc = .ok (.if_icmp .eq off, 3)) (ht : (pc : Int) + off = (tgt : Int)) (kt : x = y → Gg p l e R s m args below meth c D P w nL nc ns Q σ lv tgt st) (kf : ¬ (x = y) → Gg p l e R s m args below meth c D P w nL nc ns Q σ lv (pc + 3) st) : Gg p l e R s m args below meth c D P w nL nc ns Q σ lv pc (.int y :: .int x :: st) := fun H locs ls hP hS hl => lv_icmp_eq C.1.1 C.1.2.1 d ht (fun q => kt q H locs ls hP hS hl) (fun q => kf q H locs ls hP hS hl)
theorem g_if_ne (C : Cx p s m args meth c cc nL own D tys P w) {x : Int32} {off : Int} (tgt : Nat) (d : decode cc pc = .ok (.ifCond .ne off, 3)) (ht : (pc : Int) + off = (tgt : Int)) (kt : ¬ x = 0 → Gg p l e R s m args below meth c D P w nL nc ns Q σ lv tgt st) (kf : x = 0 → Gg p l e R s m args below meth c D P w nL nc ns Q σ lv (pc + 3) st) : Gg p l e R s m args below meth c D P w nL nc ns Q σ lv pc (.int x :: st) := fun H locs ls hP hS hl => lv_if_ne C.1.1 C.1.2.1 d ht (fun q => kt q H locs ls hP hS hl) (fun q => kf q H locs ls hP hS hl)
theorem g_icmp_ne (C : Cx p s m args meth c cc nL own D tys P w) {x y : Int32} {off : Int} (tgt : Nat) (d : decode cc pc = .ok (.if_icmp .ne off, 3)) (ht : (pc : Int) + off = (tgt : Int)) (kt : ¬ x = y → Gg p l e R s m args below meth c D P w nL nc ns Q σ lv tgt st) (kf : x = y → Gg p l e R s m args below meth c D P w nL nc ns Q σ lv (pc + 3) st) : Gg p l e R s m args below meth c D P w nL nc ns Q σ lv pc (.int y :: .int x :: st) := fun H locs ls hP hS hl => lv_icmp_ne C.1.1 C.1.2.1 d ht (fun q => kt q H locs ls hP hS hl) (fun q => kf q H locs ls hP hS hl)
theorem g_if_lt (C : Cx p s m args meth c cc nL own D tys P w) {x : Int32} {off : Int} (tgt : Nat) (d : decode cc pc = .ok (.ifCond .lt off, 3)) (ht : (pc : Int) + off = (tgt : Int)) (kt : x < 0 → Gg p l e R s m args below meth c D P w nL nc ns Q σ lv tgt st) (kf : ¬ (x < 0) → Gg p l e R s m args below meth c D P w nL nc ns Q σ lv (pc + 3) st) : Gg p l e R s m args below meth c D P w nL nc ns Q σ lv pc (.int x :: st) := fun H locs ls hP hS hl => lv_if_lt C.1.1 C.1.2.1 d ht (fun q => kt q H locs ls hP hS hl) (fun q => kf q H locs ls hP hS hl)
theorem g_icmp_lt (C : Cx p s m args meth c cc nL own D tys P w) {x y : Int32} {off : Int} (tgt : Nat) (d : decode cc pc = .ok (.if_icmp .lt off, 3)) (ht : (pc : Int) + off = (tgt : Int)) (kt : x < y → Gg p l e R s m args below meth c D P w nL nc ns Q σ lv tgt st) (kf : ¬ (x < y) → Gg p l e R s m args below meth c D P w nL nc ns Q σ lv (pc + 3) st) : Gg p l e R s m args below meth c D P w nL nc ns Q σ lv pc (.int y :: .int x :: st) := fun H locs ls hP hS hl => lv_icmp_lt C.1.1 C.1.2.1 d ht (fun q => kt q H locs ls hP hS hl) (fun q => kf q H locs ls hP hS hl)
theorem g_if_ge (C : Cx p s m args meth c cc nL own D tys P w) {x : Int32} {off : Int} (tgt : Nat) (d : decode cc pc = .ok (.ifCond .ge off, 3)) (ht : (pc : Int) + off = (tgt : Int)) (kt : 0 ≤ x → Gg p l e R s m args below meth c D P w nL nc ns Q σ lv tgt st) (kf : ¬ (0 ≤ x) → Gg p l e R s m args below meth c D P w nL nc ns Q σ lv (pc + 3) st) : Gg p l e R s m args below meth c D P w nL nc ns Q σ lv pc (.int x :: st) := fun H locs ls hP hS hl => lv_if_ge C.1.1 C.1.2.1 d ht (fun q => kt q H locs ls hP hS hl) (fun q => kf q H locs ls hP hS hl)
theorem g_icmp_ge (C : Cx p s m args meth c cc nL own D tys P w) {x y : Int32} {off : Int} (tgt : Nat) (d : decode cc pc = .ok (.if_icmp .ge off, 3)) (ht : (pc : Int) + off = (tgt : Int)) (kt : y ≤ x → Gg p l e R s m args below meth c D P w nL nc ns Q σ lv tgt st) (kf : ¬ (y ≤ x) → Gg p l e R s m args below meth c D P w nL nc ns Q σ lv (pc + 3) st) : Gg p l e R s m args below meth c D P w nL nc ns Q σ lv pc (.int y :: .int x :: st) := fun H locs ls hP hS hl => lv_icmp_ge C.1.1 C.1.2.1 d ht (fun q => kt q H locs ls hP hS hl) (fun q => kf q H locs ls hP hS hl)
theorem g_if_gt (C : Cx p s m args meth c cc nL own D tys P w) {x : Int32} {off : Int} (tgt : Nat) (d : decode cc pc = .ok (.ifCond .gt off, 3)) (ht : (pc : Int) + off = (tgt : Int)) (kt : 0 < x → Gg p l e R s m args below meth c D P w nL nc ns Q σ lv tgt st) (kf : ¬ (0 < x) → Gg p l e R s m args below meth c D P w nL nc ns Q σ lv (pc + 3) st) : Gg p l e R s m args below meth c D P w nL nc ns Q σ lv pc (.int x :: st) := fun H locs ls hP hS hl => lv_if_gt C.1.1 C.1.2.1 d ht (fun q => kt q H locs ls hP hS hl) (fun q => kf q H locs ls hP hS hl)
theorem g_icmp_gt (C : Cx p s m args meth c cc nL own D tys P w) {x y : Int32} {off : Int} (tgt : Nat) (d : decode cc pc = .ok (.if_icmp .gt off, 3)) (ht : (pc : Int) + off = (tgt : Int)) (kt : y < x → Gg p l e R s m args below meth c D P w nL nc ns Q σ lv tgt st) (kf : ¬ (y < x) → Gg p l e R s m args below meth c D P w nL nc ns Q σ lv (pc + 3) st) : Gg p l e R s m args below meth c D P w nL nc ns Q σ lv pc (.int y :: .int x :: st) := fun H locs ls hP hS hl => lv_icmp_gt C.1.1 C.1.2.1 d ht (fun q => kt q H locs ls hP hS hl) (fun q => kf q H locs ls hP hS hl)
theorem g_if_le (C : Cx p s m args meth c cc nL own D tys P w) {x : Int32} {off : Int} (tgt : Nat) (d : decode cc pc = .ok (.ifCond .le off, 3)) (ht : (pc : Int) + off = (tgt : Int)) (kt : x ≤ 0 → Gg p l e R s m args below meth c D P w nL nc ns Q σ lv tgt st) (kf : ¬ (x ≤ 0) → Gg p l e R s m args below meth c D P w nL nc ns Q σ lv (pc + 3) st) : Gg p l e R s m args below meth c D P w nL nc ns Q σ lv pc (.int x :: st) := fun H locs ls hP hS hl => lv_if_le C.1.1 C.1.2.1 d ht (fun q => kt q H locs ls hP hS hl) (fun q => kf q H locs ls hP hS hl)
theorem g_icmp_le (C : Cx p s m args meth c cc nL own D tys P w) {x y : Int32} {off : Int} (tgt : Nat) (d : decode cc pc = .ok (.if_icmp .le off, 3)) (ht : (pc : Int) + off = (tgt : Int)) (kt : x ≤ y → Gg p l e R s m args below meth c D P w nL nc ns Q σ lv tgt st) (kf : ¬ (x ≤ y) → Gg p l e R s m args below meth c D P w nL nc ns Q σ lv (pc + 3) st) : Gg p l e R s m args below meth c D P w nL nc ns Q σ lv pc (.int y :: .int x :: st) := fun H locs ls hP hS hl => lv_icmp_le C.1.1 C.1.2.1 d ht (fun q => kt q H locs ls hP hS hl) (fun q => kf q H locs ls hP hS hl)
theorem g_goto (C : Cx p s m args meth c cc nL own D tys P w) {off : Int} (tgt : Nat) (d : decode cc pc = .ok (.goto off, 3)) (ht : (pc : Int) + off = (tgt : Int)) (k : Gg p l e R s m args below meth c D P w nL nc ns Q σ lv tgt st) : Gg p l e R s m args below meth c D P w nL nc ns Q σ lv pc st := fun H locs ls hP hS hl => lv_goto C.1.1 C.1.2.1 d ht (k H locs ls hP hS hl)
theorem g_ifnull (C : Cx p s m args meth c cc nL own D tys P w) {x : Nat} {off : Int} (d : decode cc pc = .ok (.ifnull off, 3)) (k : Gg p l e R s m args below meth c D P w nL nc ns Q σ lv (pc + 3) st) : Gg p l e R s m args below meth c D P w nL nc ns Q σ lv pc (.ref x :: st) := fun H locs ls hP hS hl => lv_ifnull C.1.1 C.1.2.1 d (k H locs ls hP hS hl)
theorem g_ifnonnull (C : Cx p s m args meth c cc nL own D tys P w) {x : Nat} {off : Int} (tgt : Nat) (d : decode cc pc = .ok (.ifnonnull off, 3)) (ht : (pc : Int) + off = (tgt : Int)) (k : Gg p l e R s m args below meth c D P w nL nc ns Q σ lv tgt st) : Gg p l e R s m args below meth c D P w nL nc ns Q σ lv pc (.ref x :: st) := fun H locs ls hP hS hl => lv_ifnonnull C.1.1 C.1.2.1 d ht (k H locs ls hP hS hl)
theorem g_ifnullN (C : Cx p s m args meth c cc nL own D tys P w) {off : Int} (tgt : Nat) (d : decode cc pc = .ok (.ifnull off, 3)) (ht : (pc : Int) + off = (tgt : Int)) (k : Gg p l e R s m args below meth c D P w nL nc ns Q σ lv tgt st) : Gg p l e R s m args below meth c D P w nL nc ns Q σ lv pc (.null :: st) := fun H locs ls hP hS hl => lv_ifnullN C.1.1 C.1.2.1 d ht (k H locs ls hP hS hl)
theorem g_ifnonnullN (C : Cx p s m args meth c cc nL own D tys P w) {off : Int} (d : decode cc pc = .ok (.ifnonnull off, 3)) (k : Gg p l e R s m args below meth c D P w nL nc ns Q σ lv (pc + 3) st) : Gg p l e R s m args below meth c D P w nL nc ns Q σ lv pc (.null :: st) := fun H locs ls hP hS hl => lv_ifnonnullN C.1.1 C.1.2.1 d (k H locs ls hP hS hl)
theorem g_tabIn (C : Cx p s m args meth c cc nL own D tys P w) {dflt lo hi : Int} {offs : Array Int} {len : Nat} {x : Int32} {off : Int} (tgt : Nat) (d : decode cc pc = .ok (.tableswitch dflt lo hi offs, len)) (h1 : ¬ x.toInt < lo) (h2 : ¬ hi < x.toInt) (ho : offs[(x.toInt - lo).toNat]? = some off) (ht : (pc : Int) + off = (tgt : Int)) (k : Gg p l e R s m args below meth c D P w nL nc ns Q σ lv tgt st) : Gg p l e R s m args below meth c D P w nL nc ns Q σ lv pc (.int x :: st) := fun H locs ls hP hS hl => lv_tableIn C.1.1 C.1.2.1 d h1 h2 ho ht (k H locs ls hP hS hl)
theorem g_tabOut (C : Cx p s m args meth c cc nL own D tys P w) {dflt lo hi : Int} {offs : Array Int} {len : Nat} {x : Int32} (tgt : Nat) (d : decode cc pc = .ok (.tableswitch dflt lo hi offs, len)) (h : x.toInt < lo ∨ hi < x.toInt) (ht : (pc : Int) + dflt = (tgt : Int)) (k : Gg p l e R s m args below meth c D P w nL nc ns Q σ lv tgt st) : Gg p l e R s m args below meth c D P w nL nc ns Q σ lv pc (.int x :: st) := fun H locs ls hP hS hl => lv_tableOut C.1.1 C.1.2.1 d h ht (k H locs ls hP hS hl)
theorem g_lookup (C : Cx p s m args meth c cc nL own D tys P w) {dflt : Int} {ps : Array (Int × Int)} {len : Nat} {x : Int32} {off : Int} (tgt : Nat) (d : decode cc pc = .ok (.lookupswitch dflt ps, len)) (hp : (ps.toList.zip (ps.toList.drop 1)).all (fun (a, next) => a.1 < next.1) = true) (ho : Op.lookupswitch.offset ps.toList dflt x.toInt = off) (ht : (pc : Int) + off = (tgt : Int)) (k : Gg p l e R s m args below meth c D P w nL nc ns Q σ lv tgt st) : Gg p l e R s m args below meth c D P w nL nc ns Q σ lv pc (.int x :: st) := fun H locs ls hP hS hl => lv_lookup C.1.1 C.1.2.1 d hp ho ht (k H locs ls hP hS hl)
theorem g_top {v v1 : Value} (h : v = v1) (k : Gg p l e R s m args below meth c D P w nL nc ns Q σ lv pc (v1 :: st)) : Gg p l e R s m args below meth c D P w nL nc ns Q σ lv pc (v :: st) := by rw [h]; exact k
theorem g_sub {lv0 : List (Nat × Value)} (ks : List Nat) (h : lv_pick lv ks = lv0) (k : Gg p l e R s m args below meth c D P w nL nc ns Q σ lv0 pc st) : Gg p l e R s m args below meth c D P w nL nc ns Q σ lv pc st := fun H locs ls hP hS hl => k H locs ls hP hS (lv_sub hl ks h)
theorem g_get (C : Cx p s m args meth c cc nL own D tys P w) {C0 : String} {T : u_T} {N ci index : Nat} {a q0 : Nat} {fs : List Value} (hin : ∀ w ∈ u_ws C0 T N, w ∈ tB) (he : (w σ)[q0]? = some (a, .inr (ci, fs))) (hc : vwCl[ci]? = some (C0, T, N)) (j : Nat) (hj : j < N) (hk : Cond.fieldLink own index (T j).1 (T j).2.1 (T j).2.2.1 ∈ tB) {v : Value} (hv : fs[j]? = some v) (d : decode cc pc = .ok (.getfield index, 3)) (k : Gg p l e R s m args below meth c D P w nL nc ns Q σ lv (pc + 3) (v :: st)) : Gg p l e R s m args below meth c D P w nL nc ns Q σ lv pc (.ref a :: st) := fun H locs ls hP hS hl => va_get C.1.1 C.1.2.1 C.1.2.2.2.2 hin C.1.2.2.2.1 C.2.1 hP q0 he hc j hj (C.1.2.2.2.2 _ hk) (fun _ h => h) hv d (k H locs ls hP hS hl)
theorem g_getN (C : Cx p s m args meth c cc nL own D tys P w) {C0 : String} {T : u_T} {N ci index : Nat} {a q0 : Nat} {fs : List Value} {host : String} (hin : ∀ w ∈ u_ws C0 T N, w ∈ tB) (he : (w σ)[q0]? = some (a, .inr (ci, fs))) (hc : vwCl[ci]? = some (C0, T, N)) (j : Nat) (hj : j < N) (hk : Cond.fieldLinkNest own index (T j).1 (T j).2.1 (T j).2.2.1 host ∈ nW) {v : Value} (hv : fs[j]? = some v) (d : decode cc pc = .ok (.getfield index, 3)) (k : Gg p l e R s m args below meth c D P w nL nc ns Q σ lv (pc + 3) (v :: st)) : Gg p l e R s m args below meth c D P w nL nc ns Q σ lv pc (.ref a :: st) := fun H locs ls hP hS hl => va_getN C.1.1 C.1.2.1 C.1.2.2.2.2 hin C.1.2.2.2.1 C.2.1 hP q0 he hc j hj (va_Nw.use rfl (C.2.2.2.2.1 _ hk)) (fun _ h => h) hv d (k H locs ls hP hS hl)
theorem g_put (C : Cx p s m args meth c cc nL own D tys P w) {C0 : String} {T : u_T} {N ci index : Nat} {a q0 : Nat} {fs : List Value} {σ1 : M} (hin : ∀ w ∈ u_ws C0 T N, w ∈ tB) (ty0 : Nat → FieldType) (hty : ∀ k, k < N → parseFieldDescriptor (T k).2.2.1 = some (ty0 k)) (hnm : ∀ a, a < N → ∀ b, b < N → a ≠ b → (T a).2.1 ≠ (T b).2.1) (he : (w σ)[q0]? = some (a, .inr (ci, fs))) (hc : vwCl[ci]? = some (C0, T, N)) (j : Nat) (hj : j < N) (hk : Cond.fieldLink own index (T j).1 (T j).2.1 (T j).2.2.1 ∈ tB) (hf : (T j).2.2.2 = false) {v : Value} (hn : narrow (ty0 j) v = v) (hfit : fits (ty0 j) v = true) (hl1 : j < fs.length) (hset : (w σ).set q0 (a, .inr (ci, fs.set j v)) = w σ1) (d : decode cc pc = .ok (.putfield index, 3)) (k : Gg p l e R s m args below meth c D P w nL nc ns Q σ1 lv (pc + 3) st) : Gg p l e R s m args below meth c D P w nL nc ns Q σ lv pc (v :: .ref a :: st) := fun H locs ls hP hS hl => va_put C.1.1 C.1.2.1 C.1.2.2.2.2 hin ty0 hty hnm C.1.2.2.2.1 C.2.1 hP (C.2.2.1 σ) hS q0 he hc j hj (C.1.2.2.2.2 _ hk) (fun _ h => h) hf (hty j hj) hn hfit hl1 d (fun H locs hP _ hS => k H locs ls (by rw [← hset]; exact hP) hS hl)
theorem g_putN (C : Cx p s m args meth c cc nL own D tys P w) {C0 : String} {T : u_T} {N ci index : Nat} {a q0 : Nat} {fs : List Value} {host : String} {σ1 : M} (hin : ∀ w ∈ u_ws C0 T N, w ∈ tB) (ty0 : Nat → FieldType) (hty : ∀ k, k < N → parseFieldDescriptor (T k).2.2.1 = some (ty0 k)) (hnm : ∀ a, a < N → ∀ b, b < N → a ≠ b → (T a).2.1 ≠ (T b).2.1) (he : (w σ)[q0]? = some (a, .inr (ci, fs))) (hc : vwCl[ci]? = some (C0, T, N)) (j : Nat) (hj : j < N) (hk : Cond.fieldLinkNest own index (T j).1 (T j).2.1 (T j).2.2.1 host ∈ nW) (hf : (T j).2.2.2 = false) {v : Value} (hn : narrow (ty0 j) v = v) (hfit : fits (ty0 j) v = true) (hl1 : j < fs.length) (hset : (w σ).set q0 (a, .inr (ci, fs.set j v)) = w σ1) (d : decode cc pc = .ok (.putfield index, 3)) (k : Gg p l e R s m args below meth c D P w nL nc ns Q σ1 lv (pc + 3) st) : Gg p l e R s m args below meth c D P w nL nc ns Q σ lv pc (v :: .ref a :: st) := fun H locs ls hP hS hl => va_putN C.1.1 C.1.2.1 C.1.2.2.2.2 hin ty0 hty hnm C.1.2.2.2.1 C.2.1 hP (C.2.2.1 σ) hS q0 he hc j hj (va_Nw.use rfl (C.2.2.2.2.1 _ hk)) (fun _ h => h) hf (hty j hj) hn hfit hl1 d (fun H locs hP _ hS => k H locs ls (by rw [← hset]; exact hP) hS hl)
theorem g_iald (C : Cx p s m args meth c cc nL own D tys P w) {q0 a n : Nat} {cA : ClassId} {f : Nat → Int32} {i : Int32} (t0 : Nat) (he : (w σ)[q0]? = some (a, .inl (cA, n, .inl f))) (ht : tys[t0]? = some (cA, .int)) (hin : inb i n = true) {j : Nat} (hj : i.toNatClampNeg = j) (d : decode cc pc = .ok (.iaload, 1)) (k : Gg p l e R s m args below meth c D P w nL nc ns Q σ lv (pc + 1) (.int (f j) :: st)) : Gg p l e R s m args below meth c D P w nL nc ns Q σ lv pc (.int i :: .ref a :: st) := fun H locs ls hP hS hl => va_iald C.1.1 C.1.2.1 C.2.1 hP q0 t0 he ht (inb_in hin) d (by rw [hj]; exact (k H locs ls hP hS hl))
theorem g_iast (C : Cx p s m args meth c cc nL own D tys P w) {σ1 : M} {q0 a n : Nat} {cA : ClassId} {f : Nat → Int32} {i x : Int32} (t0 : Nat) (he : (w σ)[q0]? = some (a, .inl (cA, n, .inl f))) (ht : tys[t0]? = some (cA, .int)) (hin : inb i n = true) {j : Nat} (hj : i.toNatClampNeg = j) (hset : (w σ).set q0 (a, .inl (cA, n, .inl (upd f j x))) = w σ1) (d : decode cc pc = .ok (.iastore, 1)) (k : Gg p l e R s m args below meth c D P w nL nc ns Q σ1 lv (pc + 1) st) : Gg p l e R s m args below meth c D P w nL nc ns Q σ lv pc (.int x :: .int i :: .ref a :: st) := fun H locs ls hP hS hl => va_iast C.1.1 C.1.2.1 C.2.1 hP (C.2.2.1 σ) hS q0 t0 he ht (inb_in hin) d (fun H locs hP _ hS => k H locs ls (by rw [← hset, ← hj]; exact hP) hS hl)
theorem g_aald (C : Cx p s m args meth c cc nL own D tys P w) {q0 a n : Nat} {cA : ClassId} {C1 : String} {f : Nat → Option Nat} {i : Int32} (t0 : Nat) (v : Value) (he : (w σ)[q0]? = some (a, .inl (cA, n, .inr (.inr (.inr (.inr f)))))) (ht : tys[t0]? = some (cA, .object C1)) (hin : inb i n = true) (hv : va_rf (f i.toNatClampNeg) = v) (d : decode cc pc = .ok (.aaload, 1)) (k : Gg p l e R s m args below meth c D P w nL nc ns Q σ lv (pc + 1) (v :: st)) : Gg p l e R s m args below meth c D P w nL nc ns Q σ lv pc (.int i :: .ref a :: st) := fun H locs ls hP hS hl => va_aldq C.1.1 C.1.2.1 C.2.1 hP q0 t0 he ht (inb_in hin) d (by rw [hv]; exact (k H locs ls hP hS hl))
theorem g_aast (C : Cx p s m args meth c cc nL own D tys P w) {σ1 : M} {q0 a n qk ci v : Nat} {cA : ClassId} {r : vw_C} {vs : List Value} {f : Nat → Option Nat} {i : Int32} (t0 : Nat) (he : (w σ)[q0]? = some (a, .inl (cA, n, .inr (.inr (.inr (.inr f)))))) (ht : tys[t0]? = some (cA, .object r.1)) (hv : (w σ)[qk]? = some (v, .inr (ci, vs))) (hc : vwCl[ci]? = some r) (hin : inb i n = true) (hset : (w σ).set q0 (a, .inl (cA, n, .inr (.inr (.inr (.inr (va_up f i.toNatClampNeg (some v))))))) = w σ1) (d : decode cc pc = .ok (.aastore, 1)) (k : Gg p l e R s m args below meth c D P w nL nc ns Q σ1 lv (pc + 1) st) : Gg p l e R s m args below meth c D P w nL nc ns Q σ lv pc (.ref v :: .int i :: .ref a :: st) := fun H locs ls hP hS hl => va_astq C.1.1 C.1.2.1 C.2.1 hP (C.2.2.1 σ) hS q0 t0 qk ci he ht hv hc (inb_in hin) d (fun H locs hP _ hS => k H locs ls (by rw [← hset]; exact hP) hS hl)
theorem g_aastN (C : Cx p s m args meth c cc nL own D tys P w) {σ1 : M} {q0 a n : Nat} {cA : ClassId} {C1 : String} {f : Nat → Option Nat} {i : Int32} (t0 : Nat) (he : (w σ)[q0]? = some (a, .inl (cA, n, .inr (.inr (.inr (.inr f)))))) (ht : tys[t0]? = some (cA, .object C1)) (hin : inb i n = true) (hset : (w σ).set q0 (a, .inl (cA, n, .inr (.inr (.inr (.inr (va_up f i.toNatClampNeg none)))))) = w σ1) (d : decode cc pc = .ok (.aastore, 1)) (k : Gg p l e R s m args below meth c D P w nL nc ns Q σ1 lv (pc + 1) st) : Gg p l e R s m args below meth c D P w nL nc ns Q σ lv pc (.null :: .int i :: .ref a :: st) := fun H locs ls hP hS hl => va_astqN C.1.1 C.1.2.1 C.2.1 hP (C.2.2.1 σ) hS q0 t0 he ht (inb_in hin) d (fun H locs hP _ hS => k H locs ls (by rw [← hset]; exact hP) hS hl)
theorem g_turned (C : Cx p s m args meth c cc nL own D tys P w) {index : Nat} (h : Cond.fieldLink own index "NotePress$Checks" "TURNED" "[I" ∈ tB) (d : decode cc pc = .ok (.getstatic index, 3)) (k : ∀ t : Nat, va_T .int t 10 (fun j => .int (turnT j)) (fR P s.heap.size) s s.heap → Gg p l e R s m args below meth c D P w nL nc ns Q σ lv (pc + 3) (.ref t :: st)) : Gg p l e R s m args below meth c D P w nL nc ns Q σ lv pc st := fun H locs ls hP hS hl => by
  obtain ⟨t, hz, ht⟩ := C.2.2.2.2.2
  exact va_gets C.1.1 C.1.2.1 hz hS C.1.2.2.2.1 (C.1.2.2.2.2 _ h) (fun _ h => h) d (k t ht H locs ls hP hS hl)
theorem g_tald (C : Cx p s m args meth c cc nL own D tys P w) {t : Nat} {i : Int32} (ht : va_T .int t 10 (fun j => .int (turnT j)) (fR P s.heap.size) s s.heap) (hin : inb i 10 = true) (d : decode cc pc = .ok (.iaload, 1)) (k : Gg p l e R s m args below meth c D P w nL nc ns Q σ lv (pc + 1) (.int (turnT i.toNatClampNeg) :: st)) : Gg p l e R s m args below meth c D P w nL nc ns Q σ lv pc (.int i :: .ref t :: st) := fun H locs ls hP hS hl => va_ti C.1.1 C.1.2.1 ht hS (inb_in hin) rfl d (k H locs ls hP hS hl)
theorem fR_F {A : Nat → Prop} {s t : State} {H : Heap} {locs : List Loc} (hS : va_S A s.heap H locs) (ht : t.heap = H) : va_F A s t := hS.F ht
theorem g_iret (C : Cx p s m args meth c cc nL own D tys P w) {x : Int32} (hr : meth.sig.returnType = some .int) (d : decode cc pc = .ok (.ireturn, 1)) : Gg p l e R s m args below meth c D P w nL nc ns (MQ below (qI D w P σ x s.heap.size) args s nc ns (fR P s.heap.size)) σ lv pc [.int x] := fun H locs ls hP hS hl => W.iret C.1.1 C.1.2.1 hr (fun t ht hW => ⟨⟨x, (), rfl, rfl, by show va_P D vwCl (w σ) t.heap; rw [ht]; exact hP⟩, hS.F ht⟩) hS.2.2 d C.2.2.2.1
theorem bI_nar (b : Bool) : narrow .boolean (.int (bI b)) = .int (bI b) := by cases b <;> rfl
theorem g_zret (C : Cx p s m args meth c cc nL own D tys P w) {b : Bool} (hr : meth.sig.returnType = some .boolean) (d : decode cc pc = .ok (.ireturn, 1)) : Gg p l e R s m args below meth c D P w nL nc ns (MQ below (qI D w P σ (bI b) s.heap.size) args s nc ns (fR P s.heap.size)) σ lv pc [.int (bI b)] := fun H locs ls hP hS hl => W.zret C.1.1 C.1.2.1 hr (bI_nar b) (fun t ht hW => ⟨⟨bI b, (), rfl, rfl, by show va_P D vwCl (w σ) t.heap; rw [ht]; exact hP⟩, hS.F ht⟩) hS.2.2 d C.2.2.2.1
theorem g_vret (C : Cx p s m args meth c cc nL own D tys P w) (hr : meth.sig.returnType = none) (d : decode cc pc = .ok (.return_, 1)) : Gg p l e R s m args below meth c D P w nL nc ns (MQ below (qV D w P σ s.heap.size) args s nc ns (fR P s.heap.size)) σ lv pc [] := fun H locs ls hP hS hl => W.vret C.1.1 C.1.2.1 hr (fun t ht hW => ⟨⟨(), rfl, trivial, by show va_P D vwCl (w σ) t.heap; rw [ht]; exact hP⟩, hS.F ht⟩) hS.2.2 d C.2.2.2.1
theorem g_eret (C : Cx p s m args meth c cc nL own D tys P w) {a : Nat → Nat} {r : Option Nat} {C1 : String} (hr : meth.sig.returnType = some (.object C1)) (d : decode cc pc = .ok (.areturn, 1)) : Gg p l e R s m args below meth c D P w nL nc ns (MQ below (qE a D w P σ r s.heap.size) args s nc ns (fR P s.heap.size)) σ lv pc [va_re a r] := fun H locs ls hP hS hl => W.aret C.1.1 C.1.2.1 hr (Or.inl ⟨_, rfl⟩) (va_re_or a r) (fun t ht hW => ⟨⟨r, (), rfl, rfl, by show va_P D vwCl (w σ) t.heap; rw [ht]; exact hP⟩, hS.F ht⟩) hS.2.2 d C.2.2.2.1
theorem mOf {y : MethodName} {ret : Option FieldType} {d : Nat} {av : List Value} {Qc : Nat → Array Value → State → Outcome → State → Prop} (hy : plainFor y = true) (hw : ∀ σ, va_D P (w σ)) (hn : (lg_sl av).length ≤ nL) (lv : List (Nat × Value)) (hlv : lv_args 0 av = lv)
    (body : ∀ (p : Program) (e : Env) (s : State) (m : MethodId) (args : Array Value) (below : List Frame) (meth : Method) (c : Code), Cx p s m args meth c cc nL y.cls D tys P w → meth.sig.returnType = ret → Gg p l e (rmd d) s m args below meth c D P w nL 0 0 (MQ below (Qc s.heap.size) args s 0 0 (fR P s.heap.size)) σ lv 0 []) : Mq l D tys w P y cc nL ret d av σ Qc := by
  intro sz
  refine va_MetF (cc := cc) (maxL := nL) (ret := ret) hy rfl ?_
  intro p e s m args below meth c s₁ B hml hv
  obtain ⟨rfl, hsz, hP, hK, hN, hT⟩ := hv
  subst hsz
  have hts := atoms_spec (ws := Cond.code y cc nL ret :: tB) B.pre
  have C : Cx p s m av.toArray meth c cc nL y.cls D tys P w := ⟨⟨B.exec, B.bytes, hml, findClass_of_methodNamed B.named, fun w h => hts w (List.mem_cons_of_mem _ h)⟩, hK, fun σ => (hw σ).weaken (fun _ _ _ h => Or.inl h), B.notSynchronized, hN, hT⟩
  have hl := lv_entry av (n := nL) hn
  rw [lg_entry_eq]
  rw [hlv] at hl
  exact body p e s m _ below meth c C B.returns s.heap [] _ hP va_S.rf hl
theorem pR_blind {M : Type} {D : va_G} {tys : List (ClassId × FieldType)} {w : M → va_W} {P : Nat → Prop} {σ : M} {sz : Nat} {av : List Value} : FrameBlind (va_Pc av (pR D tys w P σ sz)) := by
  intro a U g mk q
  obtain ⟨q0, q1, qP, qK, qN, qT⟩ := q
  exact ⟨q0, q1, qP, va_K.moved (u := U) (U := U.calling g mk a) (Vm.Alike.refl U.vm) qK, nN.same (s := U) (U := U.calling g mk a) qN rfl, tR.go (s := U) (U := U.calling g mk a) (H := U.heap) (locs := []) qT va_S.rf rfl (Vm.Alike.refl U.vm) (fun _ h => h)⟩
/-- what a call wants of its callee's world w', P' beside the caller's -/
def jW {M M' : Type} (D : va_G) (w : M → va_W) (w' : M' → va_W) (P' : Nat → Prop) (A : Nat → Prop) (σ σ1 : M) (τ τ1 : M') : Prop :=
  (∀ H, va_P D vwCl (w σ) H → va_P D vwCl (w' τ) H) ∧ (∀ H H1 : Heap, va_P D vwCl (w σ) H → va_P D vwCl (w' τ1) H1 → (∀ q : Nat, q < H.size → ¬ fR P' H.size q → H1[q]? = H[q]?) → va_P D vwCl (w σ1) H1) ∧ ∀ q, P' q → A q
theorem jW.rf {M : Type} {D : va_G} {w : M → va_W} {P : Nat → Prop} {sz : Nat} {σ σ1 : M} : jW D w w P (fR P sz) σ σ1 σ σ1 := ⟨fun _ h => h, fun _ _ _ h _ => h, fun _ h => Or.inl h⟩
theorem jW.free {M M' : Type} {D : va_G} {w : M → va_W} {w' : M' → va_W} {P P' : Nat → Prop} {σ σ1 : M} {τ τ1 : M'} {H0 H : Heap} {locs : List Loc} (J : jW D w w' P' (fR P H0.size) σ σ1 τ τ1) (hS : va_S (fR P H0.size) H0 H locs) : ∀ q, fR P' H.size q → fR P H0.size q := by
  intro q h
  rcases h with h | h
  · exact J.2.2 q h
  · exact Or.inr (Nat.le_trans hS.1 h)
def yV (y : MethodName) (cc : ByteArray) (nL : Nat) (ret : Option FieldType) (n : Nat) : Prop := Cond.instanceMethod y ∈ tB ∧ Cond.selects y.cls y y ∈ tB ∧ Cond.initialized y.cls ∈ tB ∧ Cond.code y cc nL ret ∈ tB ∧ y.cls ≠ "java/lang/invoke/MethodHandle" ∧ y.cls ≠ "java/lang/invoke/VarHandle" ∧ (parseMethodDescriptor y.desc).map (fun d => d.parameters.length) = some n
def yS (y : MethodName) (cc : ByteArray) (nL : Nat) (ret : Option FieldType) (n : Nat) : Prop := Cond.static y ∈ tB ∧ Cond.initialized y.cls ∈ tB ∧ Cond.code y cc nL ret ∈ tB ∧ y.cls ≠ "java/lang/invoke/MethodHandle" ∧ y.cls ≠ "java/lang/invoke/VarHandle" ∧ (parseMethodDescriptor y.desc).map (fun d => d.parameters.length) = some n
theorem tB_GV {own : String} {index : Nat} {y : MethodName} {b : ByteArray} {n k : Nat} {r : Option FieldType} (Y : yV y b n r k) (hk : Cond.methodLink own index y ∈ tB) : GoodIn tB (wsV own index y.cls y (Cond.code y b n r :: tB)) := by
  intro w hw
  have key : w ∈ tB := by
    simp only [wsV, List.mem_append, List.mem_cons, List.not_mem_nil, or_false] at hw
    rcases hw with (rfl | rfl | rfl | rfl) | rfl | h
    · exact hk
    · exact Y.1
    · exact Y.2.1
    · exact Y.2.2.1
    · exact Y.2.2.2.1
    · exact h
  exact ⟨key, good_of_word (tB_good w key)⟩
theorem tB_GS {own : String} {index : Nat} {y : MethodName} {b : ByteArray} {n k : Nat} {r : Option FieldType} (Y : yS y b n r k) (hk : Cond.methodLink own index y ∈ tB) : GoodIn tB (va_wsS own index y (Cond.code y b n r :: tB)) := by
  intro w hw
  have key : w ∈ tB := by
    simp only [va_wsS, List.mem_append, List.mem_cons, List.not_mem_nil, or_false] at hw
    rcases hw with (rfl | rfl | rfl) | rfl | h
    · exact hk
    · exact Y.1
    · exact Y.2.1
    · exact Y.2.2.1
    · exact h
  exact ⟨key, good_of_word (tB_good w key)⟩
theorem tB_GC {y : MethodName} {b : ByteArray} {n : Nat} {r : Option FieldType} (h : Cond.code y b n r ∈ tB) : GoodIn tB (Cond.code y b n r :: tB) := by
  intro w hw
  have key : w ∈ tB := by
    rcases List.mem_cons.mp hw with e | h1
    · rw [e]; exact h
    · exact h1
  exact ⟨key, good_of_word (tB_good w key)⟩
theorem pR_go {M M' : Type} {p : Program} {s : State} {m : MethodId} {args : Array Value} {meth : Method} {c : Code} {cc : ByteArray} {nL : Nat} {own : String} {D : va_G} {tys : List (ClassId × FieldType)} {P P' : Nat → Prop} {w : M → va_W} {w' : M' → va_W} {σ σ1 : M} {τ τ1 : M'} {H : Heap} {locs : List Loc} (C : Cx p s m args meth c cc nL own D tys P w) (J : jW D w w' P' (fR P s.heap.size) σ σ1 τ τ1) (hP : va_P D vwCl (w σ) H) (hS : va_S (fR P s.heap.size) s.heap H locs) (U : State) (hU : U.heap = H) (hW : s.WarmedH U.vm) : pR D tys w' P' τ H.size U :=
  ⟨by rw [hU], by rw [hU]; exact J.1 H hP, va_K.moved hW.alike C.2.1, C.2.2.2.2.1.warm hW, C.2.2.2.2.2.go hS hU hW.alike (J.free hS)⟩
theorem g_cVi (C : Cx p s m args meth c cc nL own D tys P w) {st0 : List Value} {M' : Type} {w' : M' → va_W} {P' : Nat → Prop} {τ τ1 : M'} {σ1 : M} {y : MethodName} {cc' : ByteArray} {nL' d' n index : Nat} {ret' : Option FieldType} {As : List Value} {r : Int32} {b q0 ci : Nat} {q : vw_C} {fs : List Value} (J : jW D w w' P' (fR P s.heap.size) σ σ1 τ τ1) (hM : Mq l D tys w' P' y cc' nL' ret' d' (.ref b :: As) τ (qI D w' P' τ1 r)) (Y : yV y cc' nL' ret' n) (hk : Cond.methodLink own index y ∈ tB) (hn : As.length = n) (hR : d' + 1 ≤ R.frames ∧ 8 + (nL' + 11) + 40 * d' ≤ R.locals) (hc : nc ≤ R.cells ∧ ns ≤ R.slots) (hroom : (st.map fun v => v.category).sum ≤ 8) (he : (w σ)[q0]? = some (b, .inr (ci, fs))) (hcl : vwCl[ci]? = some q) (hq : q.1 = y.cls) (d : decode cc pc = .ok (.invokevirtual index, 3)) (hst : st0 = As.reverse ++ .ref b :: st) (k : Gg p l e R s m args below meth c D P w nL nc ns Q σ1 lv (pc + 3) (.int r :: st)) : Gg p l e R s m args below meth c D P w nL nc ns Q σ lv pc st0 := fun H locs ls hP hS hl =>
  va_calli (va_runV (As := As) (rest := st) C.1 (hM H.size) (cwV n C.1.2.2.2.2 (tB_GV Y hk) rfl rfl rfl ⟨rfl, Y.2.2.2.2⟩ hR) ⟨pR_blind, by rw [← hq]; exact va_recv C.2.1 hP hcl he, fun U hU hW => ⟨rfl, pR_go C J hP hS U hU hW⟩⟩ rfl hn hl.1 hst (lv_room hroom) d hc) hS (fun q _ h => J.free hS q h) (J.free hS) (fun r1 u t H1 locs1 ht hvm hp hB hz hk hS1 => by
  have hp : r1 = r := hp
  subst hp
  exact k H1 locs1 ls (J.2.1 H H1 hP (by rw [← ht]; exact hB) hk) hS1 hl)
theorem g_cVv (C : Cx p s m args meth c cc nL own D tys P w) {st0 : List Value} {M' : Type} {w' : M' → va_W} {P' : Nat → Prop} {τ τ1 : M'} {σ1 : M} {y : MethodName} {cc' : ByteArray} {nL' d' n index : Nat} {ret' : Option FieldType} {As : List Value}  {b q0 ci : Nat} {q : vw_C} {fs : List Value} (J : jW D w w' P' (fR P s.heap.size) σ σ1 τ τ1) (hM : Mq l D tys w' P' y cc' nL' ret' d' (.ref b :: As) τ (qV D w' P' τ1)) (Y : yV y cc' nL' ret' n) (hk : Cond.methodLink own index y ∈ tB) (hn : As.length = n) (hR : d' + 1 ≤ R.frames ∧ 8 + (nL' + 11) + 40 * d' ≤ R.locals) (hc : nc ≤ R.cells ∧ ns ≤ R.slots) (hroom : (st.map fun v => v.category).sum ≤ 8) (he : (w σ)[q0]? = some (b, .inr (ci, fs))) (hcl : vwCl[ci]? = some q) (hq : q.1 = y.cls) (d : decode cc pc = .ok (.invokevirtual index, 3)) (hst : st0 = As.reverse ++ .ref b :: st) (k : Gg p l e R s m args below meth c D P w nL nc ns Q σ1 lv (pc + 3) (st)) : Gg p l e R s m args below meth c D P w nL nc ns Q σ lv pc st0 := fun H locs ls hP hS hl =>
  va_callv (va_runV (As := As) (rest := st) C.1 (hM H.size) (cwV n C.1.2.2.2.2 (tB_GV Y hk) rfl rfl rfl ⟨rfl, Y.2.2.2.2⟩ hR) ⟨pR_blind, by rw [← hq]; exact va_recv C.2.1 hP hcl he, fun U hU hW => ⟨rfl, pR_go C J hP hS U hU hW⟩⟩ rfl hn hl.1 hst (lv_room hroom) d hc) hS (fun q _ h => J.free hS q h) (J.free hS) (fun u t H1 locs1 ht hvm hp hB hz hk hS1 => k H1 locs1 ls (J.2.1 H H1 hP (by rw [← ht]; exact hB) hk) hS1 hl)
theorem g_cVe (C : Cx p s m args meth c cc nL own D tys P w) {st0 : List Value} {M' : Type} {w' : M' → va_W} {P' : Nat → Prop} {τ τ1 : M'} {σ1 : M} {y : MethodName} {cc' : ByteArray} {nL' d' n index : Nat} {ret' : Option FieldType} {As : List Value} {a : Nat → Nat} {r : Option Nat} {b q0 ci : Nat} {q : vw_C} {fs : List Value} (J : jW D w w' P' (fR P s.heap.size) σ σ1 τ τ1) (hM : Mq l D tys w' P' y cc' nL' ret' d' (.ref b :: As) τ (qE a D w' P' τ1 r)) (Y : yV y cc' nL' ret' n) (hk : Cond.methodLink own index y ∈ tB) (hn : As.length = n) (hR : d' + 1 ≤ R.frames ∧ 8 + (nL' + 11) + 40 * d' ≤ R.locals) (hc : nc ≤ R.cells ∧ ns ≤ R.slots) (hroom : (st.map fun v => v.category).sum ≤ 8) (he : (w σ)[q0]? = some (b, .inr (ci, fs))) (hcl : vwCl[ci]? = some q) (hq : q.1 = y.cls) (d : decode cc pc = .ok (.invokevirtual index, 3)) (hst : st0 = As.reverse ++ .ref b :: st) (k : Gg p l e R s m args below meth c D P w nL nc ns Q σ1 lv (pc + 3) (va_re a r :: st)) : Gg p l e R s m args below meth c D P w nL nc ns Q σ lv pc st0 := fun H locs ls hP hS hl =>
  va_calle (va_runV (As := As) (rest := st) C.1 (hM H.size) (cwV n C.1.2.2.2.2 (tB_GV Y hk) rfl rfl rfl ⟨rfl, Y.2.2.2.2⟩ hR) ⟨pR_blind, by rw [← hq]; exact va_recv C.2.1 hP hcl he, fun U hU hW => ⟨rfl, pR_go C J hP hS U hU hW⟩⟩ rfl hn hl.1 hst (lv_room hroom) d hc) hS (fun q _ h => J.free hS q h) (J.free hS) (fun r1 u t H1 locs1 ht hvm hp hB hz hk hS1 => by
  have hp : r1 = r := hp
  subst hp
  exact k H1 locs1 ls (J.2.1 H H1 hP (by rw [← ht]; exact hB) hk) hS1 hl)
theorem g_cSi (C : Cx p s m args meth c cc nL own D tys P w) {st0 : List Value} {M' : Type} {w' : M' → va_W} {P' : Nat → Prop} {τ τ1 : M'} {σ1 : M} {y : MethodName} {cc' : ByteArray} {nL' d' n index : Nat} {ret' : Option FieldType} {As : List Value} {r : Int32} (J : jW D w w' P' (fR P s.heap.size) σ σ1 τ τ1) (hM : Mq l D tys w' P' y cc' nL' ret' d' As τ (qI D w' P' τ1 r)) (Y : yS y cc' nL' ret' n) (hk : Cond.methodLink own index y ∈ tB) (hn : As.length = n) (hR : d' + 1 ≤ R.frames ∧ 8 + (nL' + 11) + 40 * d' ≤ R.locals) (hc : nc ≤ R.cells ∧ ns ≤ R.slots) (hroom : (st.map fun v => v.category).sum ≤ 8) (d : decode cc pc = .ok (.invokestatic index, 3)) (hst : st0 = As.reverse ++ st) (k : Gg p l e R s m args below meth c D P w nL nc ns Q σ1 lv (pc + 3) (.int r :: st)) : Gg p l e R s m args below meth c D P w nL nc ns Q σ lv pc st0 := fun H locs ls hP hS hl =>
  va_calli (va_runS (As := As) (rest := st) C.1 (hM H.size) (va_cwS n C.1.2.2.2.2 (tB_GS Y hk) rfl rfl rfl Y.2.2.2 hR) ⟨pR_blind, fun U hU hW => ⟨rfl, pR_go C J hP hS U hU hW⟩⟩ rfl hn hl.1 hst (lv_room hroom) d hc) hS (fun q _ h => J.free hS q h) (J.free hS) (fun r1 u t H1 locs1 ht hvm hp hB hz hk hS1 => by
  have hp : r1 = r := hp
  subst hp
  exact k H1 locs1 ls (J.2.1 H H1 hP (by rw [← ht]; exact hB) hk) hS1 hl)
theorem g_cNi (C : Cx p s m args meth c cc nL own D tys P w) {st0 : List Value} {M' : Type} {w' : M' → va_W} {P' : Nat → Prop} {τ τ1 : M'} {σ1 : M} {y : MethodName} {cc' : ByteArray} {nL' d' n index : Nat} {ret' : Option FieldType} {As : List Value} {r : Int32} {host : String} (J : jW D w w' P' (fR P s.heap.size) σ σ1 τ τ1) (hM : Mq l D tys w' P' y cc' nL' ret' d' As τ (qI D w' P' τ1 r)) (Y : yS y cc' nL' ret' n) (hk : Cond.methodLinkNest own index y host ∈ nW) (hn : As.length = n) (hR : d' + 1 ≤ R.frames ∧ 8 + (nL' + 11) + 40 * d' ≤ R.locals) (hc : nc ≤ R.cells ∧ ns ≤ R.slots) (hroom : (st.map fun v => v.category).sum ≤ 8) (d : decode cc pc = .ok (.invokestatic index, 3)) (hst : st0 = As.reverse ++ st) (k : Gg p l e R s m args below meth c D P w nL nc ns Q σ1 lv (pc + 3) (.int r :: st)) : Gg p l e R s m args below meth c D P w nL nc ns Q σ lv pc st0 := fun H locs ls hP hS hl =>
  va_calli (va_runSN (As := As) (rest := st) C.1 (hM H.size) ⟨va_cnB n C.1.2.2.2.2 (tB_GC Y.2.2.1) rfl rfl rfl (C.2.2.2.2.1 _ hk) (C.1.2.2.2.2 _ Y.2.1) Y.2.2.2 hR, C.1.2.2.2.2 _ Y.1, trivial⟩ ⟨pR_blind, fun U hU hW => ⟨rfl, pR_go C J hP hS U hU hW⟩⟩ rfl hn hl.1 hst (lv_room hroom) d hc) hS (fun q _ h => J.free hS q h) (J.free hS) (fun r1 u t H1 locs1 ht hvm hp hB hz hk hS1 => by
  have hp : r1 = r := hp
  subst hp
  exact k H1 locs1 ls (J.2.1 H H1 hP (by rw [← ht]; exact hB) hk) hS1 hl)
theorem g_cSv (C : Cx p s m args meth c cc nL own D tys P w) {st0 : List Value} {M' : Type} {w' : M' → va_W} {P' : Nat → Prop} {τ τ1 : M'} {σ1 : M} {y : MethodName} {cc' : ByteArray} {nL' d' n index : Nat} {ret' : Option FieldType} {As : List Value}  (J : jW D w w' P' (fR P s.heap.size) σ σ1 τ τ1) (hM : Mq l D tys w' P' y cc' nL' ret' d' As τ (qV D w' P' τ1)) (Y : yS y cc' nL' ret' n) (hk : Cond.methodLink own index y ∈ tB) (hn : As.length = n) (hR : d' + 1 ≤ R.frames ∧ 8 + (nL' + 11) + 40 * d' ≤ R.locals) (hc : nc ≤ R.cells ∧ ns ≤ R.slots) (hroom : (st.map fun v => v.category).sum ≤ 8) (d : decode cc pc = .ok (.invokestatic index, 3)) (hst : st0 = As.reverse ++ st) (k : Gg p l e R s m args below meth c D P w nL nc ns Q σ1 lv (pc + 3) (st)) : Gg p l e R s m args below meth c D P w nL nc ns Q σ lv pc st0 := fun H locs ls hP hS hl =>
  va_callv (va_runS (As := As) (rest := st) C.1 (hM H.size) (va_cwS n C.1.2.2.2.2 (tB_GS Y hk) rfl rfl rfl Y.2.2.2 hR) ⟨pR_blind, fun U hU hW => ⟨rfl, pR_go C J hP hS U hU hW⟩⟩ rfl hn hl.1 hst (lv_room hroom) d hc) hS (fun q _ h => J.free hS q h) (J.free hS) (fun u t H1 locs1 ht hvm hp hB hz hk hS1 => k H1 locs1 ls (J.2.1 H H1 hP (by rw [← ht]; exact hB) hk) hS1 hl)
theorem g_cNv (C : Cx p s m args meth c cc nL own D tys P w) {st0 : List Value} {M' : Type} {w' : M' → va_W} {P' : Nat → Prop} {τ τ1 : M'} {σ1 : M} {y : MethodName} {cc' : ByteArray} {nL' d' n index : Nat} {ret' : Option FieldType} {As : List Value}  {host : String} (J : jW D w w' P' (fR P s.heap.size) σ σ1 τ τ1) (hM : Mq l D tys w' P' y cc' nL' ret' d' As τ (qV D w' P' τ1)) (Y : yS y cc' nL' ret' n) (hk : Cond.methodLinkNest own index y host ∈ nW) (hn : As.length = n) (hR : d' + 1 ≤ R.frames ∧ 8 + (nL' + 11) + 40 * d' ≤ R.locals) (hc : nc ≤ R.cells ∧ ns ≤ R.slots) (hroom : (st.map fun v => v.category).sum ≤ 8) (d : decode cc pc = .ok (.invokestatic index, 3)) (hst : st0 = As.reverse ++ st) (k : Gg p l e R s m args below meth c D P w nL nc ns Q σ1 lv (pc + 3) (st)) : Gg p l e R s m args below meth c D P w nL nc ns Q σ lv pc st0 := fun H locs ls hP hS hl =>
  va_callv (va_runSN (As := As) (rest := st) C.1 (hM H.size) ⟨va_cnB n C.1.2.2.2.2 (tB_GC Y.2.2.1) rfl rfl rfl (C.2.2.2.2.1 _ hk) (C.1.2.2.2.2 _ Y.2.1) Y.2.2.2 hR, C.1.2.2.2.2 _ Y.1, trivial⟩ ⟨pR_blind, fun U hU hW => ⟨rfl, pR_go C J hP hS U hU hW⟩⟩ rfl hn hl.1 hst (lv_room hroom) d hc) hS (fun q _ h => J.free hS q h) (J.free hS) (fun u t H1 locs1 ht hvm hp hB hz hk hS1 => k H1 locs1 ls (J.2.1 H H1 hP (by rw [← ht]; exact hB) hk) hS1 hl)
end FR
end
section
/-- a memory: object's name, place in it -/
abbrev Me : Type := Nat → Nat → Int32
def up (σ : Me) (k j : Nat) (v : Int32) : Me := fun k' => if k' = k then upd (σ k) j v else σ k'
theorem up_row (σ : Me) (k j : Nat) (v : Int32) : up σ k j v k = upd (σ k) j v := by simp [up]
theorem up_oth (σ : Me) {k k' : Nat} (j : Nat) (v : Int32) (h : k' ≠ k) : up σ k j v k' = σ k' := by simp [up, h]
theorem up_eq (σ : Me) (k j : Nat) (v : Int32) : up σ k j v k j = v := by simp [up, upd]
theorem up_ne (σ : Me) {k j k' j' : Nat} (v : Int32) (h : ¬ (k' = k ∧ j' = j)) : up σ k j v k' j' = σ k' j' := by
  by_cases h1 : k' = k
  · subst h1
    have h2 : ¬ j' = j := fun e => h ⟨rfl, e⟩
    simp [up, upd, h2]
  · simp [up, h1]
/-- a name as a number, and back -/
def rf (x : Int32) : Option Nat := if x < 0 then none else some x.toNatClampNeg
def ro (r : Option Nat) : Int32 := match r with | none => -1 | some k => nI k
theorem rf_none : rf (-1) = none := by decide
theorem rf_some {k : Nat} (h : k < 2 ^ 31) : rf (nI k) = some k := by
  unfold rf
  rw [if_neg (nI_pos h), nI_clamp h]
/-- the kinds of the class's 51 cells, by their names -/
def kd (k : Nat) : Nat := if k < 9 then k else if 51 ≤ k then 99 else if (k - 9) % 21 < 3 then 9 + (k - 9) % 21 else if ((k - 9) % 21 - 3) % 6 < 2 then 12 + ((k - 9) % 21 - 3) % 6 else 14
theorem kd_lt {k j : Nat} (h : kd k = j) (hj : j < 99) : k < 51 := by
  unfold kd at h
  by_cases h1 : k < 9
  · omega
  · rw [if_neg h1] at h
    by_cases h2 : 51 ≤ k
    · rw [if_pos h2] at h; omega
    · omega
def aQ (f : Nat → Option Nat) (n : Nat) (cA : ClassId) : va_E := .inl (cA, n, .inr (.inr (.inr (.inr f))))
def ce (cI cH cE : ClassId) (a : Nat → Nat) (row : Nat → Int32) (k : Nat) : va_E := match kd k with
  | 0 => .inr (6, [.ref (a 1), .ref (a 3), .ref (a 6), .ref (a (row 3).toNatClampNeg), .ref (a (row 4).toNatClampNeg)])
  | 1 => .inr (5, [.ref (a 2), .int (row 1), .int (row 2)])
  | 2 => .inl (cI, 200, .inl row)
  | 3 => .inr (4, [.ref (a 4), .ref (a 5), .int (row 2), .int (row 3)])
  | 4 => .inl (cI, 99, .inl row)
  | 5 => .inl (cI, 99, .inl row)
  | 6 => .inr (0, [.ref (a 7), .ref (a 8), .int (row 2)])
  | 7 => .inl (cH, 6, .inr (.inr (.inr (.inr (fun i => (rf (row i)).map a)))))
  | 8 => .inl (cI, 6, .inl row)
  | 9 => .inr (1, [.ref (a (k + 1)), .ref (a (k + 2)), .int (row 2), .int (row 3), .int (row 4)])
  | 10 => .inl (cI, 4, .inl row)
  | 11 => .inl (cE, 3, .inr (.inr (.inr (.inr (fun i => some (a (k + 1 + 6 * i)))))))
  | 12 => .inr (2, [.ref (a (k + 1)), .int (row 1), .int (row 2), .int (row 3), .int (row 4)])
  | 13 => .inl (cH, 4, .inr (.inr (.inr (.inr (fun i => some (a (k + 1 + i)))))))
  | _ => .inr (3, [.int (row 0), .int (row 1), .int (row 2), .int (row 3)])
def wc (cI cH cE : ClassId) (a : Nat → Nat) (σ : Me) : va_W := (List.range 51).map (fun k => (a k, ce cI cH cE a (σ k) k))
def tyc (cI cH cE cJ : ClassId) : List (ClassId × FieldType) := [(cI, .int), (cH, .object "NotePress$Share"), (cE, .object "NotePress$Series"), (cJ, .int)]
def Pc (a : Nat → Nat) : Nat → Prop := fun q => ∃ k, k < 51 ∧ q = a k
def wm (cJ : ClassId) (b : Nat → Nat) (τ : Me) : va_W := [(b 0, .inr (7, [.int (τ 0 0), .ref (b 1), .int (τ 0 2), .ref (b 2), .ref (b 3), .ref (b 4), .ref (b 5), .int (τ 0 7)])), (b 1, .inl (cJ, 200, .inl (τ 1))), (b 2, .inl (cJ, 25, .inl (τ 2))), (b 3, .inl (cJ, 25, .inl (τ 3))), (b 4, .inl (cJ, 112, .inl (τ 4))), (b 5, .inl (cJ, 672, .inl (τ 5)))]
def Pm (b : Nat → Nat) : Nat → Prop := fun q => ∃ k, k < 6 ∧ q = b k
section WL
variable {cI cH cE cJ : ClassId} {a b : Nat → Nat} {σ τ : Me}
theorem wc_at {k : Nat} (h : k < 51) : (wc cI cH cE a σ)[k]? = some (a k, ce cI cH cE a (σ k) k) := by
  simp [wc, List.getElem?_map, List.getElem?_range h]
theorem wc_ge {k : Nat} (h : ¬ k < 51) : (wc cI cH cE a σ)[k]? = none := by
  simp only [wc, List.getElem?_eq_none_iff, List.length_map, List.length_range]; omega
theorem wc_D (inj : ∀ i j, i < 51 → j < 51 → a i = a j → i = j) : ∀ σ, va_D (Pc a) (wc cI cH cE a σ) := by
  intro σ
  refine ⟨fun i j p q hi hj hpq => ?_, fun k q hk => ?_⟩
  · by_cases h1 : i < 51
    · by_cases h2 : j < 51
      · rw [wc_at h1] at hi; rw [wc_at h2] at hj
        cases hi; cases hj
        exact inj i j h1 h2 hpq
      · rw [wc_ge h2] at hj; cases hj
    · rw [wc_ge h1] at hi; cases hi
  · by_cases h1 : k < 51
    · rw [wc_at h1] at hk; cases hk
      exact ⟨k, h1, rfl⟩
    · rw [wc_ge h1] at hk; cases hk
theorem wc_set {k j : Nat} {v : Int32} {e : va_E} (hk : k < 51) (he : e = ce cI cH cE a (upd (σ k) j v) k) : (wc cI cH cE a σ).set k (a k, e) = wc cI cH cE a (up σ k j v) := by
  apply List.ext_getElem?
  intro i
  by_cases hi : i < 51
  · rw [wc_at hi]
    by_cases h : i = k
    · subst h
      rw [List.getElem?_set_self (by simpa [wc] using hi), up_row, he]
    · rw [List.getElem?_set_ne (Ne.symm h), wc_at hi, up_oth _ _ _ h]
  · rw [wc_ge hi]
    rw [List.getElem?_eq_none_iff, List.length_set]
    simp only [wc, List.length_map, List.length_range]; omega
theorem wc_0 : (wc cI cH cE a σ)[0]? = some (a 0, .inr (6, [.ref (a 1), .ref (a 3), .ref (a 6), .ref (a (σ 0 3).toNatClampNeg), .ref (a (σ 0 4).toNatClampNeg)])) := wc_at (by decide)
theorem wc_1 : (wc cI cH cE a σ)[1]? = some (a 1, .inr (5, [.ref (a 2), .int (σ 1 1), .int (σ 1 2)])) := wc_at (by decide)
theorem wc_2 : (wc cI cH cE a σ)[2]? = some (a 2, .inl (cI, 200, .inl (σ 2))) := wc_at (by decide)
theorem wc_3 : (wc cI cH cE a σ)[3]? = some (a 3, .inr (4, [.ref (a 4), .ref (a 5), .int (σ 3 2), .int (σ 3 3)])) := wc_at (by decide)
theorem wc_4 : (wc cI cH cE a σ)[4]? = some (a 4, .inl (cI, 99, .inl (σ 4))) := wc_at (by decide)
theorem wc_5 : (wc cI cH cE a σ)[5]? = some (a 5, .inl (cI, 99, .inl (σ 5))) := wc_at (by decide)
theorem wc_6 : (wc cI cH cE a σ)[6]? = some (a 6, .inr (0, [.ref (a 7), .ref (a 8), .int (σ 6 2)])) := wc_at (by decide)
theorem wc_7 : (wc cI cH cE a σ)[7]? = some (a 7, .inl (cH, 6, .inr (.inr (.inr (.inr (fun i => (rf (σ 7 i)).map a)))))) := wc_at (by decide)
theorem wc_8 : (wc cI cH cE a σ)[8]? = some (a 8, .inl (cI, 6, .inl (σ 8))) := wc_at (by decide)
theorem wc_9 {k : Nat} (h : kd k = 9) : (wc cI cH cE a σ)[k]? = some (a k, .inr (1, [.ref (a (k + 1)), .ref (a (k + 2)), .int (σ k 2), .int (σ k 3), .int (σ k 4)])) := by
  rw [wc_at (kd_lt h (by decide))]; simp only [ce, h]
theorem wc_10 {k : Nat} (h : kd k = 10) : (wc cI cH cE a σ)[k]? = some (a k, .inl (cI, 4, .inl (σ k))) := by
  rw [wc_at (kd_lt h (by decide))]; simp only [ce, h]
theorem wc_11 {k : Nat} (h : kd k = 11) : (wc cI cH cE a σ)[k]? = some (a k, .inl (cE, 3, .inr (.inr (.inr (.inr (fun i => some (a (k + 1 + 6 * i)))))))) := by
  rw [wc_at (kd_lt h (by decide))]; simp only [ce, h]
theorem wc_12 {k : Nat} (h : kd k = 12) : (wc cI cH cE a σ)[k]? = some (a k, .inr (2, [.ref (a (k + 1)), .int (σ k 1), .int (σ k 2), .int (σ k 3), .int (σ k 4)])) := by
  rw [wc_at (kd_lt h (by decide))]; simp only [ce, h]
theorem wc_13 {k : Nat} (h : kd k = 13) : (wc cI cH cE a σ)[k]? = some (a k, .inl (cH, 4, .inr (.inr (.inr (.inr (fun i => some (a (k + 1 + i)))))))) := by
  rw [wc_at (kd_lt h (by decide))]; simp only [ce, h]
theorem wc_14 {k : Nat} (h : kd k = 14) : (wc cI cH cE a σ)[k]? = some (a k, .inr (3, [.int (σ k 0), .int (σ k 1), .int (σ k 2), .int (σ k 3)])) := by
  rw [wc_at (kd_lt h (by decide))]; simp only [ce, h]
theorem wp_1_1 {v : Int32} : (wc cI cH cE a σ).set 1 (a 1, .inr (5, ([.ref (a 2), .int (σ 1 1), .int (σ 1 2)] : List Value).set 1 (.int v))) = wc cI cH cE a (up σ 1 1 v) := wc_set (by decide) rfl
theorem wp_1_2 {v : Int32} : (wc cI cH cE a σ).set 1 (a 1, .inr (5, ([.ref (a 2), .int (σ 1 1), .int (σ 1 2)] : List Value).set 2 (.int v))) = wc cI cH cE a (up σ 1 2 v) := wc_set (by decide) rfl
theorem wp_3_2 {v : Int32} : (wc cI cH cE a σ).set 3 (a 3, .inr (4, ([.ref (a 4), .ref (a 5), .int (σ 3 2), .int (σ 3 3)] : List Value).set 2 (.int v))) = wc cI cH cE a (up σ 3 2 v) := wc_set (by decide) rfl
theorem wp_3_3 {v : Int32} : (wc cI cH cE a σ).set 3 (a 3, .inr (4, ([.ref (a 4), .ref (a 5), .int (σ 3 2), .int (σ 3 3)] : List Value).set 3 (.int v))) = wc cI cH cE a (up σ 3 3 v) := wc_set (by decide) rfl
theorem wp_6_2 {v : Int32} : (wc cI cH cE a σ).set 6 (a 6, .inr (0, ([.ref (a 7), .ref (a 8), .int (σ 6 2)] : List Value).set 2 (.int v))) = wc cI cH cE a (up σ 6 2 v) := wc_set (by decide) rfl
theorem wp_0_3 {x : Nat} (hx : x < 2 ^ 31) : (wc cI cH cE a σ).set 0 (a 0, .inr (6, ([.ref (a 1), .ref (a 3), .ref (a 6), .ref (a (σ 0 3).toNatClampNeg), .ref (a (σ 0 4).toNatClampNeg)] : List Value).set 3 (.ref (a x)))) = wc cI cH cE a (up σ 0 3 (nI x)) := wc_set (by decide) (by simp [ce, kd, upd, nI_clamp hx])
theorem wp_0_4 {x : Nat} (hx : x < 2 ^ 31) : (wc cI cH cE a σ).set 0 (a 0, .inr (6, ([.ref (a 1), .ref (a 3), .ref (a 6), .ref (a (σ 0 3).toNatClampNeg), .ref (a (σ 0 4).toNatClampNeg)] : List Value).set 4 (.ref (a x)))) = wc cI cH cE a (up σ 0 4 (nI x)) := wc_set (by decide) (by simp [ce, kd, upd, nI_clamp hx])
theorem wa_2 {i : Nat} {v : Int32} : (wc cI cH cE a σ).set 2 (a 2, .inl (cI, 200, .inl (upd (σ 2) i v))) = wc cI cH cE a (up σ 2 i v) := wc_set (by decide) rfl
theorem wa_4 {i : Nat} {v : Int32} : (wc cI cH cE a σ).set 4 (a 4, .inl (cI, 99, .inl (upd (σ 4) i v))) = wc cI cH cE a (up σ 4 i v) := wc_set (by decide) rfl
theorem wa_5 {i : Nat} {v : Int32} : (wc cI cH cE a σ).set 5 (a 5, .inl (cI, 99, .inl (upd (σ 5) i v))) = wc cI cH cE a (up σ 5 i v) := wc_set (by decide) rfl
theorem wa_8 {i : Nat} {v : Int32} : (wc cI cH cE a σ).set 8 (a 8, .inl (cI, 6, .inl (upd (σ 8) i v))) = wc cI cH cE a (up σ 8 i v) := wc_set (by decide) rfl
theorem wa_7n {i : Nat} : (wc cI cH cE a σ).set 7 (a 7, .inl (cH, 6, .inr (.inr (.inr (.inr (va_up (fun i => (rf (σ 7 i)).map a) i none)))))) = wc cI cH cE a (up σ 7 i (-1)) := wc_set (by decide) (by
  simp only [ce, show kd 7 = 7 from rfl]
  congr 7
  funext q
  by_cases h : q = i
  · simp [va_up, upd, h, rf_none]
  · simp [va_up, upd, h])
theorem wa_7s {i x : Nat} (hx : x < 2 ^ 31) : (wc cI cH cE a σ).set 7 (a 7, .inl (cH, 6, .inr (.inr (.inr (.inr (va_up (fun i => (rf (σ 7 i)).map a) i (some (a x))))))))= wc cI cH cE a (up σ 7 i (nI x)) := wc_set (by decide) (by
  simp only [ce, show kd 7 = 7 from rfl]
  congr 7
  funext q
  by_cases h : q = i
  · simp [va_up, upd, h, rf_some hx]
  · simp [va_up, upd, h])
theorem wp_9_2 {k : Nat} (h : kd k = 9) {v : Int32} : (wc cI cH cE a σ).set k (a k, .inr (1, ([.ref (a (k + 1)), .ref (a (k + 2)), .int (σ k 2), .int (σ k 3), .int (σ k 4)] : List Value).set 2 (.int v))) = wc cI cH cE a (up σ k 2 v) := wc_set (kd_lt h (by decide)) (by simp [ce, h, upd])
theorem wp_9_3 {k : Nat} (h : kd k = 9) {v : Int32} : (wc cI cH cE a σ).set k (a k, .inr (1, ([.ref (a (k + 1)), .ref (a (k + 2)), .int (σ k 2), .int (σ k 3), .int (σ k 4)] : List Value).set 3 (.int v))) = wc cI cH cE a (up σ k 3 v) := wc_set (kd_lt h (by decide)) (by simp [ce, h, upd])
theorem wp_9_4 {k : Nat} (h : kd k = 9) {v : Int32} : (wc cI cH cE a σ).set k (a k, .inr (1, ([.ref (a (k + 1)), .ref (a (k + 2)), .int (σ k 2), .int (σ k 3), .int (σ k 4)] : List Value).set 4 (.int v))) = wc cI cH cE a (up σ k 4 v) := wc_set (kd_lt h (by decide)) (by simp [ce, h, upd])
theorem wp_12_1 {k : Nat} (h : kd k = 12) {v : Int32} : (wc cI cH cE a σ).set k (a k, .inr (2, ([.ref (a (k + 1)), .int (σ k 1), .int (σ k 2), .int (σ k 3), .int (σ k 4)] : List Value).set 1 (.int v))) = wc cI cH cE a (up σ k 1 v) := wc_set (kd_lt h (by decide)) (by simp [ce, h, upd])
theorem wp_12_2 {k : Nat} (h : kd k = 12) {v : Int32} : (wc cI cH cE a σ).set k (a k, .inr (2, ([.ref (a (k + 1)), .int (σ k 1), .int (σ k 2), .int (σ k 3), .int (σ k 4)] : List Value).set 2 (.int v))) = wc cI cH cE a (up σ k 2 v) := wc_set (kd_lt h (by decide)) (by simp [ce, h, upd])
theorem wp_12_3 {k : Nat} (h : kd k = 12) {v : Int32} : (wc cI cH cE a σ).set k (a k, .inr (2, ([.ref (a (k + 1)), .int (σ k 1), .int (σ k 2), .int (σ k 3), .int (σ k 4)] : List Value).set 3 (.int v))) = wc cI cH cE a (up σ k 3 v) := wc_set (kd_lt h (by decide)) (by simp [ce, h, upd])
theorem wp_12_4 {k : Nat} (h : kd k = 12) {v : Int32} : (wc cI cH cE a σ).set k (a k, .inr (2, ([.ref (a (k + 1)), .int (σ k 1), .int (σ k 2), .int (σ k 3), .int (σ k 4)] : List Value).set 4 (.int v))) = wc cI cH cE a (up σ k 4 v) := wc_set (kd_lt h (by decide)) (by simp [ce, h, upd])
theorem wp_14_0 {k : Nat} (h : kd k = 14) {v : Int32} : (wc cI cH cE a σ).set k (a k, .inr (3, ([.int (σ k 0), .int (σ k 1), .int (σ k 2), .int (σ k 3)] : List Value).set 0 (.int v))) = wc cI cH cE a (up σ k 0 v) := wc_set (kd_lt h (by decide)) (by simp [ce, h, upd])
theorem wp_14_1 {k : Nat} (h : kd k = 14) {v : Int32} : (wc cI cH cE a σ).set k (a k, .inr (3, ([.int (σ k 0), .int (σ k 1), .int (σ k 2), .int (σ k 3)] : List Value).set 1 (.int v))) = wc cI cH cE a (up σ k 1 v) := wc_set (kd_lt h (by decide)) (by simp [ce, h, upd])
theorem wp_14_2 {k : Nat} (h : kd k = 14) {v : Int32} : (wc cI cH cE a σ).set k (a k, .inr (3, ([.int (σ k 0), .int (σ k 1), .int (σ k 2), .int (σ k 3)] : List Value).set 2 (.int v))) = wc cI cH cE a (up σ k 2 v) := wc_set (kd_lt h (by decide)) (by simp [ce, h, upd])
theorem wp_14_3 {k : Nat} (h : kd k = 14) {v : Int32} : (wc cI cH cE a σ).set k (a k, .inr (3, ([.int (σ k 0), .int (σ k 1), .int (σ k 2), .int (σ k 3)] : List Value).set 3 (.int v))) = wc cI cH cE a (up σ k 3 v) := wc_set (kd_lt h (by decide)) (by simp [ce, h, upd])
theorem wa_10 {k : Nat} (h : kd k = 10) {i : Nat} {v : Int32} : (wc cI cH cE a σ).set k (a k, .inl (cI, 4, .inl (upd (σ k) i v))) = wc cI cH cE a (up σ k i v) := wc_set (kd_lt h (by decide)) (by simp [ce, h])
theorem mp_0 {v : Int32} : (wm cJ b τ).set 0 (b 0, .inr (7, ([.int (τ 0 0), .ref (b 1), .int (τ 0 2), .ref (b 2), .ref (b 3), .ref (b 4), .ref (b 5), .int (τ 0 7)] : List Value).set 0 (.int v))) = wm cJ b (up τ 0 0 v) := by simp [wm, up, upd]
theorem mp_2 {v : Int32} : (wm cJ b τ).set 0 (b 0, .inr (7, ([.int (τ 0 0), .ref (b 1), .int (τ 0 2), .ref (b 2), .ref (b 3), .ref (b 4), .ref (b 5), .int (τ 0 7)] : List Value).set 2 (.int v))) = wm cJ b (up τ 0 2 v) := by simp [wm, up, upd]
theorem mp_7 {v : Int32} : (wm cJ b τ).set 0 (b 0, .inr (7, ([.int (τ 0 0), .ref (b 1), .int (τ 0 2), .ref (b 2), .ref (b 3), .ref (b 4), .ref (b 5), .int (τ 0 7)] : List Value).set 7 (.int v))) = wm cJ b (up τ 0 7 v) := by simp [wm, up, upd]
theorem ma_1 {i : Nat} {v : Int32} : (wm cJ b τ).set 1 (b 1, .inl (cJ, 200, .inl (upd (τ 1) i v))) = wm cJ b (up τ 1 i v) := by simp [wm, up]
theorem ma_2 {i : Nat} {v : Int32} : (wm cJ b τ).set 2 (b 2, .inl (cJ, 25, .inl (upd (τ 2) i v))) = wm cJ b (up τ 2 i v) := by simp [wm, up]
theorem ma_3 {i : Nat} {v : Int32} : (wm cJ b τ).set 3 (b 3, .inl (cJ, 25, .inl (upd (τ 3) i v))) = wm cJ b (up τ 3 i v) := by simp [wm, up]
theorem ma_4 {i : Nat} {v : Int32} : (wm cJ b τ).set 4 (b 4, .inl (cJ, 112, .inl (upd (τ 4) i v))) = wm cJ b (up τ 4 i v) := by simp [wm, up]
theorem ma_5 {i : Nat} {v : Int32} : (wm cJ b τ).set 5 (b 5, .inl (cJ, 672, .inl (upd (τ 5) i v))) = wm cJ b (up τ 5 i v) := by simp [wm, up]
theorem wm_D (inj : ∀ i j, i < 6 → j < 6 → b i = b j → i = j) : ∀ τ, va_D (Pm b) (wm cJ b τ) := by
  intro τ
  have hl : (wm cJ b τ).length = 6 := rfl
  have key : ∀ (k : Nat) (q : Nat × va_E), (wm cJ b τ)[k]? = some q → k < 6 ∧ q.1 = b k := by
    intro k q hk
    have h6 : k < 6 := by rw [← hl]; exact (List.getElem?_eq_some_iff.mp hk).1
    refine ⟨h6, ?_⟩
    match k, h6, hk with
    | 0, _, hk => cases hk; rfl
    | 1, _, hk => cases hk; rfl
    | 2, _, hk => cases hk; rfl
    | 3, _, hk => cases hk; rfl
    | 4, _, hk => cases hk; rfl
    | 5, _, hk => cases hk; rfl
    | k + 6, h, _ => omega
  refine ⟨fun i j p q hi hj hpq => ?_, fun k q hk => ?_⟩
  · obtain ⟨h1, e1⟩ := key i p hi
    obtain ⟨h2, e2⟩ := key j q hj
    exact inj i j h1 h2 (by rw [← e1, ← e2, hpq])
  · obtain ⟨h1, e1⟩ := key k q hk
    exact ⟨k, h1, e1⟩
theorem kd_9_1 {k : Nat} (h : kd k = 9) : kd (k + 1) = 10 := (show ∀ k, k < 51 → kd k = 9 → kd (k + 1) = 10 by decide) k (kd_lt h (by decide)) h
theorem kd_9_2 {k : Nat} (h : kd k = 9) : kd (k + 2) = 11 := (show ∀ k, k < 51 → kd k = 9 → kd (k + 2) = 11 by decide) k (kd_lt h (by decide)) h
theorem kd_11_s {k i : Nat} (h : kd k = 11) (hi : i < 3) : kd (k + 1 + 6 * i) = 12 := (show ∀ k, k < 51 → ∀ i, i < 3 → kd k = 11 → kd (k + 1 + 6 * i) = 12 by decide) k (kd_lt h (by decide)) i hi h
theorem kd_12_1 {k : Nat} (h : kd k = 12) : kd (k + 1) = 13 := (show ∀ k, k < 51 → kd k = 12 → kd (k + 1) = 13 by decide) k (kd_lt h (by decide)) h
theorem kd_13_s {k i : Nat} (h : kd k = 13) (hi : i < 4) : kd (k + 1 + i) = 14 := (show ∀ k, k < 51 → ∀ i, i < 4 → kd k = 13 → kd (k + 1 + i) = 14 by decide) k (kd_lt h (by decide)) i hi h
theorem inb_lt {i : Int32} {n : Nat} (h : inb i n = true) : i.toNatClampNeg < n := by
  unfold inb at h
  rcases Nat.lt_or_ge i.toNatClampNeg n with q | q
  · exact q
  · simp [q] at h
theorem kd_bd {k : Nat} (h : kd k < 99) : k < 2 ^ 31 := Nat.lt_trans (kd_lt rfl h) (by decide)
end WL
end
section
theorem cl_X0 : vwCl[0]? = some (RX0, TX0, 3) := rfl
theorem cl_X2 : vwCl[1]? = some (RX2, TX2, 5) := rfl
theorem cl_X3 : vwCl[2]? = some (RX3, TX3, 5) := rfl
theorem cl_X4 : vwCl[3]? = some (RX4, TX4, 4) := rfl
theorem cl_X5 : vwCl[4]? = some (RX5, TX5, 4) := rfl
theorem cl_X6 : vwCl[5]? = some (RX6, TX6, 3) := rfl
theorem cl_X7 : vwCl[6]? = some (RX7, TX7, 5) := rfl
theorem cl_X8 : vwCl[7]? = some (RX8, TX8, 8) := rfl
theorem wm_0 {cJ : ClassId} {b : Nat → Nat} {τ : Me} : (wm cJ b τ)[0]? = some (b 0, .inr (7, [.int (τ 0 0), .ref (b 1), .int (τ 0 2), .ref (b 2), .ref (b 3), .ref (b 4), .ref (b 5), .int (τ 0 7)])) := rfl
theorem wm_1 {cJ : ClassId} {b : Nat → Nat} {τ : Me} : (wm cJ b τ)[1]? = some (b 1, .inl (cJ, 200, .inl (τ 1))) := rfl
theorem wm_2 {cJ : ClassId} {b : Nat → Nat} {τ : Me} : (wm cJ b τ)[2]? = some (b 2, .inl (cJ, 25, .inl (τ 2))) := rfl
theorem wm_3 {cJ : ClassId} {b : Nat → Nat} {τ : Me} : (wm cJ b τ)[3]? = some (b 3, .inl (cJ, 25, .inl (τ 3))) := rfl
theorem wm_4 {cJ : ClassId} {b : Nat → Nat} {τ : Me} : (wm cJ b τ)[4]? = some (b 4, .inl (cJ, 112, .inl (τ 4))) := rfl
theorem wm_5 {cJ : ClassId} {b : Nat → Nat} {τ : Me} : (wm cJ b τ)[5]? = some (b 5, .inl (cJ, 672, .inl (τ 5))) := rfl
theorem bp_m4 : (Int8.ofInt (-4)).toInt32 = (-4) := by decide
theorem bp_m3 : (Int8.ofInt (-3)).toInt32 = (-3) := by decide
theorem bp_m2 : (Int8.ofInt (-2)).toInt32 = (-2) := by decide
theorem bp_6 : (Int8.ofInt 6).toInt32 = 6 := by decide
theorem bp_7 : (Int8.ofInt 7).toInt32 = 7 := by decide
theorem bp_8 : (Int8.ofInt 8).toInt32 = 8 := by decide
theorem bp_9 : (Int8.ofInt 9).toInt32 = 9 := by decide
theorem bp_10 : (Int8.ofInt 10).toInt32 = 10 := by decide
theorem bp_11 : (Int8.ofInt 11).toInt32 = 11 := by decide
theorem bp_12 : (Int8.ofInt 12).toInt32 = 12 := by decide
theorem bp_20 : (Int8.ofInt 20).toInt32 = 20 := by decide
theorem bp_22 : (Int8.ofInt 22).toInt32 = 22 := by decide
theorem bp_23 : (Int8.ofInt 23).toInt32 = 23 := by decide
theorem bp_24 : (Int8.ofInt 24).toInt32 = 24 := by decide
theorem bp_25 : (Int8.ofInt 25).toInt32 = 25 := by decide
theorem bp_26 : (Int8.ofInt 26).toInt32 = 26 := by decide
theorem bp_32 : (Int8.ofInt 32).toInt32 = 32 := by decide
theorem bp_40 : (Int8.ofInt 40).toInt32 = 40 := by decide
theorem bp_44 : (Int8.ofInt 44).toInt32 = 44 := by decide
theorem bp_48 : (Int8.ofInt 48).toInt32 = 48 := by decide
theorem bp_57 : (Int8.ofInt 57).toInt32 = 57 := by decide
theorem bp_59 : (Int8.ofInt 59).toInt32 = 59 := by decide
theorem bp_96 : (Int8.ofInt 96).toInt32 = 96 := by decide
theorem bp_97 : (Int8.ofInt 97).toInt32 = 97 := by decide
theorem bp_99 : (Int8.ofInt 99).toInt32 = 99 := by decide
theorem bp_100 : (Int8.ofInt 100).toInt32 = 100 := by decide
theorem bp_111 : (Int8.ofInt 111).toInt32 = 111 := by decide
theorem bp_112 : (Int8.ofInt 112).toInt32 = 112 := by decide
theorem bp_115 : (Int8.ofInt 115).toInt32 = 115 := by decide
theorem bp_122 : (Int8.ofInt 122).toInt32 = 122 := by decide
theorem bp_126 : (Int8.ofInt 126).toInt32 = 126 := by decide
theorem ic_m1 : Int32.ofInt (-1) = (-1) := by decide
theorem ic_0 : Int32.ofInt 0 = 0 := by decide
theorem ic_1 : Int32.ofInt 1 = 1 := by decide
theorem ic_2 : Int32.ofInt 2 = 2 := by decide
theorem ic_3 : Int32.ofInt 3 = 3 := by decide
theorem ic_4 : Int32.ofInt 4 = 4 := by decide
theorem ic_5 : Int32.ofInt 5 = 5 := by decide
theorem lc_0 : Int64.ofNat ((0 : Fin 2) : Nat) = 0 := by decide
theorem lc_1 : Int64.ofNat ((1 : Fin 2) : Nat) = 1 := by decide
theorem sp_200 : (Int16.ofInt 200).toInt32 = 200 := by decide
theorem sp_560 : (Int16.ofInt 560).toInt32 = 560 := by decide
theorem sp_999 : (Int16.ofInt 999).toInt32 = 999 := by decide
theorem sp_1000 : (Int16.ofInt 1000).toInt32 = 1000 := by decide
theorem tnn_22 : (22 : Int32).toNatClampNeg = 22 := by decide
theorem tnn_23 : (23 : Int32).toNatClampNeg = 23 := by decide
theorem tnn_24 : (24 : Int32).toNatClampNeg = 24 := by decide
theorem tnn_111 : (111 : Int32).toNatClampNeg = 111 := by decide
theorem y_X0_clear : yV yX0_clear cX0_clear 1 (Option.none : Option Jvm.ClassFile.FieldType) 0 := ⟨tw_298, tw_299, tw_4, tw_300, by decide, by decide, by decide⟩
theorem y_X0_forgetOldest : yV yX0_forgetOldest cX0_forgetOldest 2 (Option.none : Option Jvm.ClassFile.FieldType) 0 := ⟨tw_371, ts_10, tw_4, tw_372, by decide, by decide, by decide⟩
theorem y_X0_remember : yV yX0_remember cX0_remember 3 (Option.none : Option Jvm.ClassFile.FieldType) 2 := ⟨tw_367, ts_9, tw_4, tw_368, by decide, by decide, by decide⟩
theorem y_X0_rememberRun : yV yX0_rememberRun cX0_rememberRun 3 (Option.none : Option Jvm.ClassFile.FieldType) 2 := ⟨tw_362, tw_363, tw_4, tw_364, by decide, by decide, by decide⟩
theorem y_X0_rememberSpoiled : yV yX0_rememberSpoiled cX0_rememberSpoiled 2 (Option.none : Option Jvm.ClassFile.FieldType) 1 := ⟨tw_416, tw_417, tw_4, tw_418, by decide, by decide, by decide⟩
theorem y_X0_latestShare : yV yX0_latestShare cX0_latestShare 1 (Option.some (Jvm.ClassFile.FieldType.object "NotePress$Share")) 0 := ⟨tw_441, tw_442, tw_4, tw_443, by decide, by decide, by decide⟩
theorem y_X0_latestAmount : yV yX0_latestAmount cX0_latestAmount 1 (Option.some Jvm.ClassFile.FieldType.int) 0 := ⟨tw_445, tw_446, tw_4, tw_447, by decide, by decide, by decide⟩
theorem y_J9_max_7cf53 : yS yJ9_max_7cf53 cJ9_max_7cf53 2 (Option.some Jvm.ClassFile.FieldType.int) 2 := ⟨tw_453, tw_12, tw_454, by decide, by decide, by decide⟩
theorem y_X0_forgetLatest : yV yX0_forgetLatest cX0_forgetLatest 1 (Option.none : Option Jvm.ClassFile.FieldType) 0 := ⟨tw_456, tw_457, tw_4, tw_458, by decide, by decide, by decide⟩
theorem y_J9_floorMod_7cf53 : yS yJ9_floorMod_7cf53 cJ9_floorMod_7cf53 3 (Option.some Jvm.ClassFile.FieldType.int) 2 := ⟨tw_522, tw_12, tw_523, by decide, by decide, by decide⟩
theorem y_X1_make : yS yX1_make cX1_make 3 (Option.some Jvm.ClassFile.FieldType.int) 2 := ⟨tw_534, tw_14, tw_535, by decide, by decide, by decide⟩
theorem y_X7_isFromTo : yS yX7_isFromTo cX7_isFromTo 3 (Option.some Jvm.ClassFile.FieldType.boolean) 3 := ⟨tw_248, tw_1, tw_249, by decide, by decide, by decide⟩
theorem y_X1_turned : yS yX1_turned cX1_turned 4 (Option.some Jvm.ClassFile.FieldType.int) 2 := ⟨tw_528, tw_14, tw_529, by decide, by decide, by decide⟩
theorem y_X1_byTurns : yS yX1_byTurns cX1_byTurns 5 (Option.some Jvm.ClassFile.FieldType.int) 4 := ⟨tw_525, tw_14, tw_526, by decide, by decide, by decide⟩
theorem y_X1_ofFigures : yS yX1_ofFigures cX1_ofFigures 5 (Option.some Jvm.ClassFile.FieldType.int) 5 := ⟨tw_519, tw_14, tw_520, by decide, by decide, by decide⟩
theorem y_X1_ofNumber : yS yX1_ofNumber cX1_ofNumber 3 (Option.some Jvm.ClassFile.FieldType.int) 3 := ⟨tw_516, tw_14, tw_517, by decide, by decide, by decide⟩
theorem y_X1_ofStar : yS yX1_ofStar cX1_ofStar 1 (Option.some Jvm.ClassFile.FieldType.int) 1 := ⟨tw_564, tw_14, tw_565, by decide, by decide, by decide⟩
theorem y_X1_missedFigures : yS yX1_missedFigures cX1_missedFigures 9 (Option.some Jvm.ClassFile.FieldType.int) 3 := ⟨tw_541, tw_14, tw_542, by decide, by decide, by decide⟩
theorem y_X1_missedSwaps : yS yX1_missedSwaps cX1_missedSwaps 8 (Option.some Jvm.ClassFile.FieldType.int) 3 := ⟨tw_544, tw_14, tw_545, by decide, by decide, by decide⟩
theorem y_X2_clear : yV yX2_clear cX2_clear 1 (Option.none : Option Jvm.ClassFile.FieldType) 0 := ⟨tw_224, tw_225, tw_5, tw_226, by decide, by decide, by decide⟩
theorem y_X2_addPress : yV yX2_addPress cX2_addPress 2 (Option.some Jvm.ClassFile.FieldType.boolean) 1 := ⟨tw_251, tw_252, tw_5, tw_253, by decide, by decide, by decide⟩
theorem y_X2_nextSeries : yV yX2_nextSeries cX2_nextSeries 1 (Option.some (Jvm.ClassFile.FieldType.object "NotePress$Series")) 0 := ⟨tw_259, tw_260, tw_5, tw_261, by decide, by decide, by decide⟩
theorem y_X2_keepNextSeries : yV yX2_keepNextSeries cX2_keepNextSeries 1 (Option.none : Option Jvm.ClassFile.FieldType) 0 := ⟨tw_283, tw_284, tw_5, tw_285, by decide, by decide, by decide⟩
theorem y_X2_seriesAt : yV yX2_seriesAt cX2_seriesAt 2 (Option.some (Jvm.ClassFile.FieldType.object "NotePress$Series")) 1 := ⟨tw_348, tw_349, tw_5, tw_350, by decide, by decide, by decide⟩
theorem y_X3_shareAt : yV yX3_shareAt cX3_shareAt 2 (Option.some (Jvm.ClassFile.FieldType.object "NotePress$Share")) 1 := ⟨tw_353, tw_354, tw_6, tw_355, by decide, by decide, by decide⟩
theorem y_X2_shareAt : yV yX2_shareAt cX2_shareAt 4 (Option.some (Jvm.ClassFile.FieldType.object "NotePress$Share")) 2 := ⟨tw_344, tw_345, tw_5, tw_346, by decide, by decide, by decide⟩
theorem y_X2_seriesOfLetter : yV yX2_seriesOfLetter cX2_seriesOfLetter 3 (Option.some Jvm.ClassFile.FieldType.int) 1 := ⟨tw_267, tw_268, tw_5, tw_269, by decide, by decide, by decide⟩
theorem y_X3_notesPrinted : yV yX3_notesPrinted cX3_notesPrinted 3 (Option.some Jvm.ClassFile.FieldType.int) 0 := ⟨tw_465, tw_466, tw_6, tw_467, by decide, by decide, by decide⟩
theorem y_X2_notesPrinted : yV yX2_notesPrinted cX2_notesPrinted 3 (Option.some Jvm.ClassFile.FieldType.int) 0 := ⟨tw_595, tw_596, tw_5, tw_597, by decide, by decide, by decide⟩
theorem y_X3_sheetsRun : yV yX3_sheetsRun cX3_sheetsRun 3 (Option.some Jvm.ClassFile.FieldType.int) 0 := ⟨tw_604, tw_605, tw_6, tw_606, by decide, by decide, by decide⟩
theorem y_X2_sheetsRun : yV yX2_sheetsRun cX2_sheetsRun 3 (Option.some Jvm.ClassFile.FieldType.int) 0 := ⟨tw_600, tw_601, tw_5, tw_602, by decide, by decide, by decide⟩
theorem y_J9_min_7cf53 : yS yJ9_min_7cf53 cJ9_min_7cf53 2 (Option.some Jvm.ClassFile.FieldType.int) 2 := ⟨tw_295, tw_12, tw_296, by decide, by decide, by decide⟩
theorem y_X4_hasNumber : yV yX4_hasNumber cX4_hasNumber 2 (Option.some Jvm.ClassFile.FieldType.boolean) 1 := ⟨tw_391, tw_392, tw_7, tw_393, by decide, by decide, by decide⟩
theorem y_X3_pressOf : yV yX3_pressOf cX3_pressOf 3 (Option.some Jvm.ClassFile.FieldType.int) 1 := ⟨tw_387, tw_388, tw_6, tw_389, by decide, by decide, by decide⟩
theorem y_X4_sheetOf : yV yX4_sheetOf cX4_sheetOf 2 (Option.some Jvm.ClassFile.FieldType.int) 1 := ⟨tw_396, tw_397, tw_7, tw_398, by decide, by decide, by decide⟩
theorem y_X3_isPrinted : yV yX3_isPrinted cX3_isPrinted 3 (Option.some Jvm.ClassFile.FieldType.boolean) 1 := ⟨tw_383, tw_384, tw_6, tw_385, by decide, by decide, by decide⟩
theorem y_X3_isWhole : yV yX3_isWhole cX3_isWhole 4 (Option.some Jvm.ClassFile.FieldType.boolean) 1 := ⟨tw_487, tw_488, tw_6, tw_489, by decide, by decide, by decide⟩
theorem y_X3_packs : yV yX3_packs cX3_packs 1 (Option.some Jvm.ClassFile.FieldType.int) 0 := ⟨tw_478, tw_479, tw_6, tw_480, by decide, by decide, by decide⟩
theorem y_X3_wholePacks : yV yX3_wholePacks cX3_wholePacks 3 (Option.some Jvm.ClassFile.FieldType.int) 0 := ⟨tw_482, tw_483, tw_6, tw_484, by decide, by decide, by decide⟩
theorem y_X2_wholePacks : yV yX2_wholePacks cX2_wholePacks 3 (Option.some Jvm.ClassFile.FieldType.int) 0 := ⟨tw_608, tw_609, tw_5, tw_610, by decide, by decide, by decide⟩
theorem y_X3_begin : yV yX3_begin cX3_begin 3 (Option.none : Option Jvm.ClassFile.FieldType) 2 := ⟨tw_271, tw_272, tw_6, tw_273, by decide, by decide, by decide⟩
theorem y_X4_begin : yV yX4_begin cX4_begin 4 (Option.none : Option Jvm.ClassFile.FieldType) 3 := ⟨tw_279, tw_280, tw_7, tw_281, by decide, by decide, by decide⟩
theorem y_X3_addShare : yV yX3_addShare cX3_addShare 3 (Option.none : Option Jvm.ClassFile.FieldType) 2 := ⟨tw_275, tw_276, tw_6, tw_277, by decide, by decide, by decide⟩
theorem y_X3_hasNumber : yV yX3_hasNumber cX3_hasNumber 2 (Option.some Jvm.ClassFile.FieldType.boolean) 1 := ⟨tw_379, tw_380, tw_6, tw_381, by decide, by decide, by decide⟩
theorem y_X4_sheetsLeft : yV yX4_sheetsLeft cX4_sheetsLeft 1 (Option.some Jvm.ClassFile.FieldType.int) 0 := ⟨tw_358, tw_359, tw_7, tw_360, by decide, by decide, by decide⟩
theorem y_X3_sheetsLeft : yV yX3_sheetsLeft cX3_sheetsLeft 3 (Option.some Jvm.ClassFile.FieldType.int) 0 := ⟨tw_473, tw_474, tw_6, tw_475, by decide, by decide, by decide⟩
theorem y_X4_hasSheet : yV yX4_hasSheet cX4_hasSheet 2 (Option.some Jvm.ClassFile.FieldType.boolean) 1 := ⟨tw_424, tw_425, tw_7, tw_426, by decide, by decide, by decide⟩
theorem y_X4_numberAt : yV yX4_numberAt cX4_numberAt 3 (Option.some Jvm.ClassFile.FieldType.int) 2 := ⟨tw_433, tw_434, tw_7, tw_435, by decide, by decide, by decide⟩
theorem y_X4_placeOf : yV yX4_placeOf cX4_placeOf 2 (Option.some Jvm.ClassFile.FieldType.int) 1 := ⟨tw_504, tw_505, tw_7, tw_506, by decide, by decide, by decide⟩
theorem y_X5_begin : yV yX5_begin cX5_begin 2 (Option.none : Option Jvm.ClassFile.FieldType) 1 := ⟨tw_291, tw_292, tw_3, tw_293, by decide, by decide, by decide⟩
theorem y_X5_left : yV yX5_left cX5_left 1 (Option.some Jvm.ClassFile.FieldType.int) 0 := ⟨tw_408, tw_409, tw_3, tw_410, by decide, by decide, by decide⟩
theorem y_X5_standFor : yV yX5_standFor cX5_standFor 3 (Option.none : Option Jvm.ClassFile.FieldType) 2 := ⟨tw_412, tw_413, tw_3, tw_414, by decide, by decide, by decide⟩
theorem y_X5_takeBack : yV yX5_takeBack cX5_takeBack 2 (Option.none : Option Jvm.ClassFile.FieldType) 1 := ⟨tw_449, tw_450, tw_3, tw_451, by decide, by decide, by decide⟩
theorem y_X5_seriesOf : yV yX5_seriesOf cX5_seriesOf 2 (Option.some Jvm.ClassFile.FieldType.int) 1 := ⟨tw_555, tw_556, tw_3, tw_557, by decide, by decide, by decide⟩
theorem y_X5_numberOf : yV yX5_numberOf cX5_numberOf 2 (Option.some Jvm.ClassFile.FieldType.int) 1 := ⟨tw_560, tw_561, tw_3, tw_562, by decide, by decide, by decide⟩
theorem y_X5_standingFor : yV yX5_standingFor cX5_standingFor 4 (Option.some Jvm.ClassFile.FieldType.int) 2 := ⟨tw_404, tw_405, tw_3, tw_406, by decide, by decide, by decide⟩
theorem y_X5_standsFor : yV yX5_standsFor cX5_standsFor 3 (Option.some Jvm.ClassFile.FieldType.boolean) 2 := ⟨tw_400, tw_401, tw_3, tw_402, by decide, by decide, by decide⟩
theorem y_X5_standingForSeries : yV yX5_standingForSeries cX5_standingForSeries 4 (Option.some Jvm.ClassFile.FieldType.int) 1 := ⟨tw_469, tw_470, tw_3, tw_471, by decide, by decide, by decide⟩
theorem y_X6_append : yV yX6_append cX6_append 2 (Option.some Jvm.ClassFile.FieldType.boolean) 1 := ⟨tw_212, tw_213, tw_2, tw_214, by decide, by decide, by decide⟩
theorem y_X6_clear : yV yX6_clear cX6_clear 1 (Option.none : Option Jvm.ClassFile.FieldType) 0 := ⟨tw_302, tw_303, tw_2, tw_304, by decide, by decide, by decide⟩
theorem y_X6_readFigure : yV yX6_readFigure cX6_readFigure 1 (Option.some Jvm.ClassFile.FieldType.int) 0 := ⟨tw_245, ts_5, tw_2, tw_246, by decide, by decide, by decide⟩
theorem y_X6_readNumber : yV yX6_readNumber cX6_readNumber 3 (Option.some Jvm.ClassFile.FieldType.int) 0 := ⟨tw_241, ts_4, tw_2, tw_242, by decide, by decide, by decide⟩
theorem y_X6_skip : yV yX6_skip cX6_skip 2 (Option.some Jvm.ClassFile.FieldType.boolean) 1 := ⟨tw_233, ts_2, tw_2, tw_234, by decide, by decide, by decide⟩
theorem y_X6_readPress : yV yX6_readPress cX6_readPress 3 (Option.some Jvm.ClassFile.FieldType.boolean) 1 := ⟨tw_237, ts_3, tw_2, tw_238, by decide, by decide, by decide⟩
theorem y_X6_readLetter : yV yX6_readLetter cX6_readLetter 1 (Option.some Jvm.ClassFile.FieldType.int) 0 := ⟨tw_264, ts_7, tw_2, tw_265, by decide, by decide, by decide⟩
theorem y_X6_readSeries : yV yX6_readSeries cX6_readSeries 7 (Option.some Jvm.ClassFile.FieldType.boolean) 1 := ⟨tw_256, ts_6, tw_2, tw_257, by decide, by decide, by decide⟩
theorem y_X6_readStars : yV yX6_readStars cX6_readStars 3 (Option.some Jvm.ClassFile.FieldType.boolean) 1 := ⟨tw_288, ts_8, tw_2, tw_289, by decide, by decide, by decide⟩
theorem y_X6_readItem : yV yX6_readItem cX6_readItem 2 (Option.some Jvm.ClassFile.FieldType.boolean) 1 := ⟨tw_229, ts_1, tw_2, tw_230, by decide, by decide, by decide⟩
theorem y_X6_readInto : yV yX6_readInto cX6_readInto 4 (Option.some Jvm.ClassFile.FieldType.int) 1 := ⟨tw_220, tw_221, tw_2, tw_222, by decide, by decide, by decide⟩
theorem y_X7_write : yV yX7_write cX7_write 2 (Option.some Jvm.ClassFile.FieldType.int) 1 := ⟨tw_323, tw_324, tw_1, tw_325, by decide, by decide, by decide⟩
theorem y_X7_wipe : yV yX7_wipe cX7_wipe 2 (Option.some Jvm.ClassFile.FieldType.int) 0 := ⟨tw_328, tw_329, tw_1, tw_330, by decide, by decide, by decide⟩
theorem y_X7_fault : yV yX7_fault cX7_fault 1 (Option.some Jvm.ClassFile.FieldType.int) 0 := ⟨tw_332, tw_333, tw_1, tw_334, by decide, by decide, by decide⟩
theorem y_X7_layText : yV yX7_layText cX7_layText 2 (Option.some Jvm.ClassFile.FieldType.boolean) 0 := ⟨tw_217, ts_0, tw_1, tw_218, by decide, by decide, by decide⟩
theorem y_X7_lay : yV yX7_lay cX7_lay 1 (Option.some Jvm.ClassFile.FieldType.int) 0 := ⟨tw_336, tw_337, tw_1, tw_338, by decide, by decide, by decide⟩
theorem y_X7_run : yV yX7_run cX7_run 5 (Option.some Jvm.ClassFile.FieldType.int) 3 := ⟨tw_340, tw_341, tw_1, tw_342, by decide, by decide, by decide⟩
theorem y_X7_spoil : yV yX7_spoil cX7_spoil 4 (Option.some Jvm.ClassFile.FieldType.int) 2 := ⟨tw_374, tw_375, tw_1, tw_376, by decide, by decide, by decide⟩
theorem y_X7_unspoiledOfSheet : yV yX7_unspoiledOfSheet cX7_unspoiledOfSheet 6 (Option.some Jvm.ClassFile.FieldType.int) 3 := ⟨tw_430, ts_11, tw_1, tw_431, by decide, by decide, by decide⟩
theorem y_X7_spoilSheet : yV yX7_spoilSheet cX7_spoilSheet 8 (Option.some Jvm.ClassFile.FieldType.int) 3 := ⟨tw_420, tw_421, tw_1, tw_422, by decide, by decide, by decide⟩
theorem y_X7_undo : yV yX7_undo cX7_undo 3 (Option.some Jvm.ClassFile.FieldType.int) 0 := ⟨tw_437, tw_438, tw_1, tw_439, by decide, by decide, by decide⟩
theorem y_X7_series : yV yX7_series cX7_series 4 (Option.some Jvm.ClassFile.FieldType.int) 2 := ⟨tw_461, tw_462, tw_1, tw_463, by decide, by decide, by decide⟩
theorem y_X7_share : yV yX7_share cX7_share 5 (Option.some Jvm.ClassFile.FieldType.int) 3 := ⟨tw_493, tw_494, tw_1, tw_495, by decide, by decide, by decide⟩
theorem y_X7_where : yV yX7_where cX7_where 7 (Option.some Jvm.ClassFile.FieldType.int) 3 := ⟨tw_497, tw_498, tw_1, tw_499, by decide, by decide, by decide⟩
theorem y_X7_number : yV yX7_number cX7_number 6 (Option.some Jvm.ClassFile.FieldType.int) 4 := ⟨tw_508, tw_509, tw_1, tw_510, by decide, by decide, by decide⟩
theorem y_X7_check : yV yX7_check cX7_check 4 (Option.some Jvm.ClassFile.FieldType.int) 2 := ⟨tw_512, tw_513, tw_1, tw_514, by decide, by decide, by decide⟩
theorem y_X7_missed : yV yX7_missed cX7_missed 5 (Option.some Jvm.ClassFile.FieldType.int) 3 := ⟨tw_537, tw_538, tw_1, tw_539, by decide, by decide, by decide⟩
theorem y_X7_note : yV yX7_note cX7_note 4 (Option.some Jvm.ClassFile.FieldType.int) 2 := ⟨tw_547, tw_548, tw_1, tw_549, by decide, by decide, by decide⟩
theorem y_X7_star : yV yX7_star cX7_star 3 (Option.some Jvm.ClassFile.FieldType.int) 2 := ⟨tw_551, tw_552, tw_1, tw_553, by decide, by decide, by decide⟩
theorem y_X7_starOf : yV yX7_starOf cX7_starOf 4 (Option.some Jvm.ClassFile.FieldType.int) 2 := ⟨tw_568, tw_569, tw_1, tw_570, by decide, by decide, by decide⟩
theorem y_X7_judgeNote : yV yX7_judgeNote cX7_judgeNote 6 (Option.some Jvm.ClassFile.FieldType.int) 3 := ⟨tw_582, ts_13, tw_1, tw_583, by decide, by decide, by decide⟩
theorem y_X7_judgeStar : yV yX7_judgeStar cX7_judgeStar 3 (Option.some Jvm.ClassFile.FieldType.int) 2 := ⟨tw_578, ts_12, tw_1, tw_579, by decide, by decide, by decide⟩
theorem y_X7_judge : yV yX7_judge cX7_judge 4 (Option.some Jvm.ClassFile.FieldType.int) 3 := ⟨tw_573, tw_574, tw_1, tw_575, by decide, by decide, by decide⟩
theorem y_X7_pack : yV yX7_pack cX7_pack 7 (Option.some Jvm.ClassFile.FieldType.int) 3 := ⟨tw_586, tw_587, tw_1, tw_588, by decide, by decide, by decide⟩
theorem y_X7_count : yV yX7_count cX7_count 2 (Option.some Jvm.ClassFile.FieldType.int) 1 := ⟨tw_591, tw_592, tw_1, tw_593, by decide, by decide, by decide⟩
theorem y_X8_adds : yV yX8_adds cX8_adds 6 (Option.none : Option Jvm.ClassFile.FieldType) 4 := ⟨tw_620, ts_14, tw_13, tw_621, by decide, by decide, by decide⟩
theorem y_X8_in : yS yX8_in cX8_in 6 (Option.some Jvm.ClassFile.FieldType.boolean) 3 := ⟨tw_654, tw_13, tw_655, by decide, by decide, by decide⟩
theorem y_X8_write : yV yX8_write cX8_write 2 (Option.some Jvm.ClassFile.FieldType.int) 1 := ⟨tw_648, tw_649, tw_13, tw_650, by decide, by decide, by decide⟩
theorem y_X8_wipe : yV yX8_wipe cX8_wipe 2 (Option.some Jvm.ClassFile.FieldType.int) 0 := ⟨tw_657, tw_658, tw_13, tw_659, by decide, by decide, by decide⟩
theorem y_X8_byteAt : yV yX8_byteAt cX8_byteAt 2 (Option.some Jvm.ClassFile.FieldType.int) 1 := ⟨tw_674, ts_17, tw_13, tw_675, by decide, by decide, by decide⟩
theorem y_X8_gone : yV yX8_gone cX8_gone 3 (Option.some Jvm.ClassFile.FieldType.boolean) 1 := ⟨tw_686, ts_19, tw_13, tw_687, by decide, by decide, by decide⟩
theorem y_X8_number2 : yV yX8_number2 cX8_number2 6 (Option.some Jvm.ClassFile.FieldType.boolean) 3 := ⟨tw_670, ts_16, tw_13, tw_671, by decide, by decide, by decide⟩
theorem y_X8_whole : yS yX8_whole cX8_whole 4 (Option.some Jvm.ClassFile.FieldType.int) 2 := ⟨tw_689, tw_13, tw_690, by decide, by decide, by decide⟩
theorem y_X8_seriesItem : yV yX8_seriesItem cX8_seriesItem 5 (Option.some Jvm.ClassFile.FieldType.boolean) 0 := ⟨tw_680, ts_18, tw_13, tw_681, by decide, by decide, by decide⟩
theorem y_X8_item : yV yX8_item cX8_item 2 (Option.some Jvm.ClassFile.FieldType.boolean) 1 := ⟨tw_666, ts_15, tw_13, tw_667, by decide, by decide, by decide⟩
theorem y_X8_fault : yV yX8_fault cX8_fault 2 (Option.some Jvm.ClassFile.FieldType.int) 0 := ⟨tw_661, tw_662, tw_13, tw_663, by decide, by decide, by decide⟩
theorem y_X8_lay : yV yX8_lay cX8_lay 2 (Option.some Jvm.ClassFile.FieldType.int) 0 := ⟨tw_693, tw_694, tw_13, tw_695, by decide, by decide, by decide⟩
theorem y_X8_isSeries : yV yX8_isSeries cX8_isSeries 2 (Option.some Jvm.ClassFile.FieldType.boolean) 1 := ⟨tw_703, ts_20, tw_13, tw_704, by decide, by decide, by decide⟩
theorem y_X8_isPress : yV yX8_isPress cX8_isPress 2 (Option.some Jvm.ClassFile.FieldType.boolean) 1 := ⟨tw_732, ts_22, tw_13, tw_733, by decide, by decide, by decide⟩
theorem y_X8_sheets : yV yX8_sheets cX8_sheets 3 (Option.some Jvm.ClassFile.FieldType.int) 2 := ⟨tw_737, ts_23, tw_13, tw_738, by decide, by decide, by decide⟩
theorem y_X8_isNumber : yV yX8_isNumber cX8_isNumber 3 (Option.some Jvm.ClassFile.FieldType.boolean) 2 := ⟨tw_749, ts_25, tw_13, tw_750, by decide, by decide, by decide⟩
theorem y_X8_first : yV yX8_first cX8_first 5 (Option.some Jvm.ClassFile.FieldType.int) 2 := ⟨tw_765, ts_29, tw_13, tw_766, by decide, by decide, by decide⟩
theorem y_X8_pressOf : yV yX8_pressOf cX8_pressOf 4 (Option.some Jvm.ClassFile.FieldType.int) 2 := ⟨tw_761, ts_28, tw_13, tw_762, by decide, by decide, by decide⟩
theorem y_X8_sheetOf : yV yX8_sheetOf cX8_sheetOf 4 (Option.some Jvm.ClassFile.FieldType.int) 2 := ⟨tw_757, ts_27, tw_13, tw_758, by decide, by decide, by decide⟩
theorem y_X8_isPrinted : yV yX8_isPrinted cX8_isPrinted 3 (Option.some Jvm.ClassFile.FieldType.boolean) 2 := ⟨tw_753, ts_26, tw_13, tw_754, by decide, by decide, by decide⟩
theorem y_X8_starAt : yV yX8_starAt cX8_starAt 4 (Option.some Jvm.ClassFile.FieldType.int) 2 := ⟨tw_769, ts_30, tw_13, tw_770, by decide, by decide, by decide⟩
theorem y_X8_turned : yS yX8_turned cX8_turned 1 (Option.some Jvm.ClassFile.FieldType.int) 1 := ⟨tw_713, tw_13, tw_714, by decide, by decide, by decide⟩
theorem y_X8_make : yS yX8_make cX8_make 3 (Option.some Jvm.ClassFile.FieldType.int) 2 := ⟨tw_716, tw_13, tw_717, by decide, by decide, by decide⟩
theorem y_X8_checkOf : yS yX8_checkOf cX8_checkOf 8 (Option.some Jvm.ClassFile.FieldType.int) 3 := ⟨tw_710, tw_13, tw_711, by decide, by decide, by decide⟩
theorem y_X8_checkIn : yV yX8_checkIn cX8_checkIn 3 (Option.some Jvm.ClassFile.FieldType.int) 2 := ⟨tw_707, ts_21, tw_13, tw_708, by decide, by decide, by decide⟩
theorem y_X8_check : yV yX8_check cX8_check 3 (Option.some Jvm.ClassFile.FieldType.int) 2 := ⟨tw_698, tw_699, tw_13, tw_700, by decide, by decide, by decide⟩
theorem y_X8_missed : yV yX8_missed cX8_missed 9 (Option.some Jvm.ClassFile.FieldType.int) 3 := ⟨tw_719, tw_720, tw_13, tw_721, by decide, by decide, by decide⟩
theorem y_X8_note1 : yV yX8_note1 cX8_note1 2 (Option.none : Option Jvm.ClassFile.FieldType) 0 := ⟨tw_741, ts_24, tw_13, tw_742, by decide, by decide, by decide⟩
theorem y_X8_undo : yV yX8_undo cX8_undo 2 (Option.some Jvm.ClassFile.FieldType.int) 0 := ⟨tw_723, tw_724, tw_13, tw_725, by decide, by decide, by decide⟩
theorem y_X8_run : yV yX8_run cX8_run 4 (Option.some Jvm.ClassFile.FieldType.int) 3 := ⟨tw_727, tw_728, tw_13, tw_729, by decide, by decide, by decide⟩
theorem y_X8_stands : yV yX8_stands cX8_stands 4 (Option.some Jvm.ClassFile.FieldType.int) 2 := ⟨tw_773, ts_31, tw_13, tw_774, by decide, by decide, by decide⟩
theorem y_X8_spoil : yV yX8_spoil cX8_spoil 3 (Option.some Jvm.ClassFile.FieldType.int) 2 := ⟨tw_744, tw_745, tw_13, tw_746, by decide, by decide, by decide⟩
theorem y_X8_numberAt : yV yX8_numberAt cX8_numberAt 5 (Option.some Jvm.ClassFile.FieldType.int) 4 := ⟨tw_781, ts_32, tw_13, tw_782, by decide, by decide, by decide⟩
theorem y_X8_spoilSheet : yV yX8_spoilSheet cX8_spoilSheet 8 (Option.some Jvm.ClassFile.FieldType.int) 3 := ⟨tw_776, tw_777, tw_13, tw_778, by decide, by decide, by decide⟩
theorem y_X8_printed : yV yX8_printed cX8_printed 4 (Option.some Jvm.ClassFile.FieldType.int) 1 := ⟨tw_790, ts_33, tw_13, tw_791, by decide, by decide, by decide⟩
theorem y_X8_spoiled : yV yX8_spoiled cX8_spoiled 4 (Option.some Jvm.ClassFile.FieldType.int) 1 := ⟨tw_794, ts_34, tw_13, tw_795, by decide, by decide, by decide⟩
theorem y_X8_leftOf : yV yX8_leftOf cX8_leftOf 4 (Option.some Jvm.ClassFile.FieldType.int) 1 := ⟨tw_798, ts_35, tw_13, tw_799, by decide, by decide, by decide⟩
theorem y_X8_packs : yV yX8_packs cX8_packs 2 (Option.some Jvm.ClassFile.FieldType.int) 1 := ⟨tw_802, ts_36, tw_13, tw_803, by decide, by decide, by decide⟩
theorem y_X8_isWhole : yV yX8_isWhole cX8_isWhole 4 (Option.some Jvm.ClassFile.FieldType.boolean) 2 := ⟨tw_810, ts_38, tw_13, tw_811, by decide, by decide, by decide⟩
theorem y_X8_wholes : yV yX8_wholes cX8_wholes 4 (Option.some Jvm.ClassFile.FieldType.int) 1 := ⟨tw_806, ts_37, tw_13, tw_807, by decide, by decide, by decide⟩
theorem y_X8_series : yV yX8_series cX8_series 3 (Option.some Jvm.ClassFile.FieldType.int) 2 := ⟨tw_784, tw_785, tw_13, tw_786, by decide, by decide, by decide⟩
theorem y_X8_share : yV yX8_share cX8_share 4 (Option.some Jvm.ClassFile.FieldType.int) 3 := ⟨tw_813, tw_814, tw_13, tw_815, by decide, by decide, by decide⟩
theorem y_X8_where : yV yX8_where cX8_where 5 (Option.some Jvm.ClassFile.FieldType.int) 3 := ⟨tw_818, tw_819, tw_13, tw_820, by decide, by decide, by decide⟩
theorem y_X8_number : yV yX8_number cX8_number 6 (Option.some Jvm.ClassFile.FieldType.int) 4 := ⟨tw_823, tw_824, tw_13, tw_825, by decide, by decide, by decide⟩
theorem y_X8_note : yV yX8_note cX8_note 3 (Option.some Jvm.ClassFile.FieldType.int) 2 := ⟨tw_827, tw_828, tw_13, tw_829, by decide, by decide, by decide⟩
theorem y_X8_star : yV yX8_star cX8_star 3 (Option.some Jvm.ClassFile.FieldType.int) 2 := ⟨tw_831, tw_832, tw_13, tw_833, by decide, by decide, by decide⟩
theorem y_X8_starOf : yV yX8_starOf cX8_starOf 3 (Option.some Jvm.ClassFile.FieldType.int) 2 := ⟨tw_835, tw_836, tw_13, tw_837, by decide, by decide, by decide⟩
theorem y_X8_judgeStar : yV yX8_judgeStar cX8_judgeStar 3 (Option.some Jvm.ClassFile.FieldType.int) 2 := ⟨tw_846, ts_39, tw_13, tw_847, by decide, by decide, by decide⟩
theorem y_X8_judge : yV yX8_judge cX8_judge 5 (Option.some Jvm.ClassFile.FieldType.int) 3 := ⟨tw_839, tw_840, tw_13, tw_841, by decide, by decide, by decide⟩
theorem y_X8_pack : yV yX8_pack cX8_pack 6 (Option.some Jvm.ClassFile.FieldType.int) 3 := ⟨tw_849, tw_850, tw_13, tw_851, by decide, by decide, by decide⟩
theorem y_X8_count : yV yX8_count cX8_count 6 (Option.some Jvm.ClassFile.FieldType.int) 1 := ⟨tw_854, tw_855, tw_13, tw_856, by decide, by decide, by decide⟩
end
section
-- 10.checks
def f_J9_max_7cf53 (x0 : Int32) (x1 : Int32) : Option Int32 := if x0 < x1 then (some x1) else (some x0)

def f_J9_floorMod_7cf53 (x0 : Int32) (x1 : Int32) : Option Int32 := gd (decide (¬ x1 = 0)) (if 0 ≤ (x0 ^^^ x1) then (some (x0 - x0 / x1 * x1)) else (if (x0 - x0 / x1 * x1) = 0 then (some (x0 - x0 / x1 * x1)) else (some ((x0 - x0 / x1 * x1) + x1))))

def f_X1_make_20  (x0 : Int32) (x1 : Int32) (t0 : Int32) : Option Int32 := if 5 ≤ x0 then (if 5 ≤ x1 then (if (0 : Int32) = 0 then (some t0) else (some (5 + t0))) else (if (0 : Int32) = 1 then (some t0) else (some (5 + t0)))) else (if 5 ≤ x1 then (if (1 : Int32) = 0 then (some t0) else (some (5 + t0))) else (if (1 : Int32) = 1 then (some t0) else (some (5 + t0))))
def f_X1_make (x0 : Int32) (x1 : Int32) : Option Int32 := if 5 ≤ x0 then (f_X1_make_20 x0 x1 (((x0 - x1) + 5) - ((x0 - x1) + 5) / 5 * 5)) else (f_X1_make_20 x0 x1 ((x0 + x1) - (x0 + x1) / 5 * 5))

def f_X7_isFromTo (x0 : Int32) (x1 : Int32) (x2 : Int32) : Option Bool := if x0 < x1 then (some false) else (if x2 < x0 then (some false) else (some true))

def f_X1_turned_4  : Nat → Int32 → Int32 → Int32 → Option Int32
  | 0, _, _, _ => none
  | n + 1, x1, x2, x3 => if x1 ≤ x3 then (some x2) else ((f_X7_isFromTo x2 0 9).bind fun r2 => if (bI r2) = 0 then (f_X1_turned_4 n x1 0 (x3 + 1)) else (gd (inb x2 10) (f_X1_turned_4 n x1 (turnT x2.toNatClampNeg) (x3 + 1))))
def f_X1_turned (x0 : Int32) (x1 : Int32) : Option Int32 := f_X1_turned_4 1000 x1 x0 0

def f_X1_byTurns (x0 : Int32) (x1 : Int32) (x2 : Int32) (x3 : Int32) : Option Int32 := (f_X1_turned x1 1).bind fun r1 => (f_X1_make (x0 - x0 / 10 * 10) r1).bind fun r2 => (f_X1_turned x2 2).bind fun r3 => (f_X1_make r2 r3).bind fun r4 => (f_X1_turned x3 3).bind fun r5 => (f_X1_make r4 r5).bind fun r6 => if 5 ≤ r6 then (some r6) else (some ((5 - r6) - (5 - r6) / 5 * 5))

def f_X1_ofFigures (x0 : Int32) (x1 : Int32) (x2 : Int32) (x3 : Int32) (x4 : Int32) : Option Int32 := if x0 = 0 then ((f_J9_floorMod_7cf53 (-(((x1 + x2) + x3) + x4)) 9).bind fun r5 => some r5) else (if x0 = 1 then ((f_J9_floorMod_7cf53 (-((((5 * x1) + (4 * x2)) + (3 * x3)) + (2 * x4))) 11).bind fun r4 => some r4) else ((f_X1_byTurns x1 x2 x3 x4).bind fun r3 => some r3))

def f_X1_ofNumber (x0 : Int32) (x1 : Int32) (x2 : Int32) : Option Int32 := (f_X1_ofFigures x0 x1 (x2 / 100) ((x2 / 10) - (x2 / 10) / 10 * 10) (x2 - x2 / 10 * 10)).bind fun r1 => some r1

def f_X1_ofStar (x0 : Int32) : Option Int32 := (f_X1_ofNumber 1 0 x0).bind fun r1 => some r1

def f_X1_missedFigures_95 (K38 : Int32 → Int32 → Int32 → Int32 → Int32 → Int32 → Int32 → Int32 → Option Int32) (x0 : Int32) (x1 : Int32) (x3 : Int32) (x4 : Int32) (x5 : Int32) (x6 : Int32) (x7 : Int32) (x8 : Int32) : Option Int32 := if x8 = x5 then (K38 x0 x1 x3 x4 x5 x6 x7 (x8 + 1)) else ((f_X1_ofFigures x0 x1 x3 x4 x8).bind fun r2 => if r2 = x6 then (K38 x0 x1 x3 x4 x5 x6 (x7 + 1) (x8 + 1)) else (K38 x0 x1 x3 x4 x5 x6 x7 (x8 + 1)))
def f_X1_missedFigures_70 (K38 : Int32 → Int32 → Int32 → Int32 → Int32 → Int32 → Int32 → Int32 → Option Int32) (x0 : Int32) (x1 : Int32) (x3 : Int32) (x4 : Int32) (x5 : Int32) (x6 : Int32) (x7 : Int32) (x8 : Int32) : Option Int32 := if x8 = x4 then (f_X1_missedFigures_95 K38 x0 x1 x3 x4 x5 x6 x7 x8) else ((f_X1_ofFigures x0 x1 x3 x8 x5).bind fun r5 => if r5 = x6 then (f_X1_missedFigures_95 K38 x0 x1 x3 x4 x5 x6 (x7 + 1) x8) else (f_X1_missedFigures_95 K38 x0 x1 x3 x4 x5 x6 x7 x8))
def f_X1_missedFigures_38  : Nat → Int32 → Int32 → Int32 → Int32 → Int32 → Int32 → Int32 → Int32 → Option Int32
  | 0, _, _, _, _, _, _, _, _ => none
  | n + 1, x0, x1, x3, x4, x5, x6, x7, x8 => if 9 < x8 then (some x7) else (if x8 = x3 then (f_X1_missedFigures_70 (f_X1_missedFigures_38 n) x0 x1 x3 x4 x5 x6 x7 x8) else ((f_X1_ofFigures x0 x1 x8 x4 x5).bind fun r9 => if r9 = x6 then (f_X1_missedFigures_70 (f_X1_missedFigures_38 n) x0 x1 x3 x4 x5 x6 (x7 + 1) x8) else (f_X1_missedFigures_70 (f_X1_missedFigures_38 n) x0 x1 x3 x4 x5 x6 x7 x8)))
def f_X1_missedFigures (x0 : Int32) (x1 : Int32) (x2 : Int32) : Option Int32 := (f_X1_ofFigures x0 x1 (x2 / 100) ((x2 / 10) - (x2 / 10) / 10 * 10) (x2 - x2 / 10 * 10)).bind fun r11 => f_X1_missedFigures_38 1000 x0 x1 (x2 / 100) ((x2 / 10) - (x2 / 10) / 10 * 10) (x2 - x2 / 10 * 10) r11 0 0

def f_X1_missedSwaps_59  (x0 : Int32) (x1 : Int32) (x3 : Int32) (x4 : Int32) (x5 : Int32) (x6 : Int32) (x7 : Int32) : Option Int32 := if x4 = x5 then (some x7) else ((f_X1_ofFigures x0 x1 x3 x5 x4).bind fun r2 => if r2 = x6 then (some (x7 + 1)) else (some x7))
def f_X1_missedSwaps (x0 : Int32) (x1 : Int32) (x2 : Int32) : Option Int32 := (f_X1_ofFigures x0 x1 (x2 / 100) ((x2 / 10) - (x2 / 10) / 10 * 10) (x2 - x2 / 10 * 10)).bind fun r4 => if (x2 / 100) = ((x2 / 10) - (x2 / 10) / 10 * 10) then (f_X1_missedSwaps_59 x0 x1 (x2 / 100) ((x2 / 10) - (x2 / 10) / 10 * 10) (x2 - x2 / 10 * 10) r4 0) else ((f_X1_ofFigures x0 x1 ((x2 / 10) - (x2 / 10) / 10 * 10) (x2 / 100) (x2 - x2 / 10 * 10)).bind fun r6 => if r6 = r4 then (f_X1_missedSwaps_59 x0 x1 (x2 / 100) ((x2 / 10) - (x2 / 10) / 10 * 10) (x2 - x2 / 10 * 10) r4 (0 + 1)) else (f_X1_missedSwaps_59 x0 x1 (x2 / 100) ((x2 / 10) - (x2 / 10) / 10 * 10) (x2 - x2 / 10 * 10) r4 0))

def f_J9_min_7cf53 (x0 : Int32) (x1 : Int32) : Option Int32 := if x1 < x0 then (some x1) else (some x0)
-- 11.plan
def f_X2_clear (σ : Me) (k0 : Nat) : Option Me := some (up (up (up σ k0 2 0) k0 3 0) k0 4 20)

def f_X2_addPress (σ : Me) (k0 : Nat) (x1 : Int32) : Option (Me × Bool) := if 4 ≤ (σ k0 2) then (some (σ, false)) else (if (σ k0 3) ≤ 0 then (gd (inb (σ k0 2) 4) (some (up (up σ (k0 + 1) (σ k0 2).toNatClampNeg x1) k0 2 (((up σ (k0 + 1) (σ k0 2).toNatClampNeg x1) k0 2) + 1), true))) else (some (σ, false)))

def f_X2_nextSeries (σ : Me) (k0 : Nat) : Option (Option Nat) := if 3 ≤ (σ k0 3) then (some none) else (gd (inb (σ k0 3) 3) (some (some ((k0 + 2) + 1 + 6 * (σ k0 3).toNatClampNeg))))

def f_X2_keepNextSeries (σ : Me) (k0 : Nat) : Option Me := if 3 ≤ (σ k0 3) then (some σ) else (some (up σ k0 3 ((σ k0 3) + 1)))

def f_X2_seriesAt (σ : Me) (k0 : Nat) (x1 : Int32) : Option (Option Nat) := (f_X7_isFromTo x1 0 ((σ k0 3) - 1)).bind fun r1 => if (bI r1) = 0 then (some none) else (gd (inb x1 3) (some (some ((k0 + 2) + 1 + 6 * x1.toNatClampNeg))))

def f_X3_shareAt (σ : Me) (k0 : Nat) (x1 : Int32) : Option (Option Nat) := (f_X7_isFromTo x1 0 ((σ k0 1) - 1)).bind fun r1 => if (bI r1) = 0 then (some none) else (gd (inb x1 4) (some (some ((k0 + 1) + 1 + x1.toNatClampNeg))))

def f_X2_shareAt (σ : Me) (k0 : Nat) (x1 : Int32) (x2 : Int32) : Option (Option Nat) := (f_X2_seriesAt σ k0 x1).bind fun r1 => oc r1 (some none) (fun k901 => gd (decide (kd k901 = 12)) ((f_X3_shareAt σ k901 x2).bind fun r2 => oc r2 (some none) (fun k902 => gd (decide (kd k902 = 14)) (some (some k902)))))

def f_X2_seriesOfLetter_2  : Nat → Me → Nat → Int32 → Int32 → Option Int32
  | 0, _, _, _, _ => none
  | n + 1, σ, k0, x1, x2 => if (σ k0 3) ≤ x2 then (some (-4)) else (gd (inb x2 3) (if (σ ((k0 + 2) + 1 + 6 * x2.toNatClampNeg) 2) = x1 then (some x2) else (f_X2_seriesOfLetter_2 n σ k0 x1 (x2 + 1))))
def f_X2_seriesOfLetter (σ : Me) (k0 : Nat) (x1 : Int32) : Option Int32 := f_X2_seriesOfLetter_2 1000 σ k0 x1 0

def f_X3_notesPrinted_4  : Nat → Me → Nat → Int32 → Int32 → Option Int32
  | 0, _, _, _, _ => none
  | n + 1, σ, k0, x1, x2 => if (σ k0 1) ≤ x2 then (some x1) else (gd (inb x2 4) (gd (inb x2 4) (f_X3_notesPrinted_4 n σ k0 (x1 + ((σ ((k0 + 1) + 1 + x2.toNatClampNeg) 3) * (σ ((k0 + 1) + 1 + x2.toNatClampNeg) 0))) (x2 + 1))))
def f_X3_notesPrinted (σ : Me) (k0 : Nat) : Option Int32 := f_X3_notesPrinted_4 1000 σ k0 0 0

def f_X2_notesPrinted_4  : Nat → Me → Nat → Int32 → Int32 → Option Int32
  | 0, _, _, _, _ => none
  | n + 1, σ, k0, x1, x2 => if (σ k0 3) ≤ x2 then (some x1) else (gd (inb x2 3) ((f_X3_notesPrinted σ ((k0 + 2) + 1 + 6 * x2.toNatClampNeg)).bind fun r3 => f_X2_notesPrinted_4 n σ k0 (x1 + r3) (x2 + 1)))
def f_X2_notesPrinted (σ : Me) (k0 : Nat) : Option Int32 := f_X2_notesPrinted_4 1000 σ k0 0 0

def f_X3_sheetsRun_4  : Nat → Me → Nat → Int32 → Int32 → Option Int32
  | 0, _, _, _, _ => none
  | n + 1, σ, k0, x1, x2 => if (σ k0 1) ≤ x2 then (some x1) else (gd (inb x2 4) (f_X3_sheetsRun_4 n σ k0 (x1 + (σ ((k0 + 1) + 1 + x2.toNatClampNeg) 3)) (x2 + 1)))
def f_X3_sheetsRun (σ : Me) (k0 : Nat) : Option Int32 := f_X3_sheetsRun_4 1000 σ k0 0 0

def f_X2_sheetsRun_4  : Nat → Me → Nat → Int32 → Int32 → Option Int32
  | 0, _, _, _, _ => none
  | n + 1, σ, k0, x1, x2 => if (σ k0 3) ≤ x2 then (some x1) else (gd (inb x2 3) ((f_X3_sheetsRun σ ((k0 + 2) + 1 + 6 * x2.toNatClampNeg)).bind fun r3 => f_X2_sheetsRun_4 n σ k0 (x1 + r3) (x2 + 1)))
def f_X2_sheetsRun (σ : Me) (k0 : Nat) : Option Int32 := f_X2_sheetsRun_4 1000 σ k0 0 0

def f_X4_hasNumber (σ : Me) (k0 : Nat) (x1 : Int32) : Option Bool := if x1 < (σ k0 2) then (some false) else (if ((σ k0 2) + ((σ k0 0) * (σ k0 1))) ≤ x1 then (some false) else (some true))

def f_X3_pressOf_2  : Nat → Me → Nat → Int32 → Int32 → Option Int32
  | 0, _, _, _, _ => none
  | n + 1, σ, k0, x1, x2 => if (σ k0 1) ≤ x2 then (some (-4)) else (gd (inb x2 4) ((f_X4_hasNumber σ ((k0 + 1) + 1 + x2.toNatClampNeg) x1).bind fun r3 => if (bI r3) = 0 then (f_X3_pressOf_2 n σ k0 x1 (x2 + 1)) else (some x2)))
def f_X3_pressOf (σ : Me) (k0 : Nat) (x1 : Int32) : Option Int32 := f_X3_pressOf_2 1000 σ k0 x1 0

def f_X4_sheetOf (σ : Me) (k0 : Nat) (x1 : Int32) : Option Int32 := if 1 ≤ (σ k0 1) then (gd (decide (¬ (σ k0 1) = 0)) (some ((x1 - (σ k0 2)) - (x1 - (σ k0 2)) / (σ k0 1) * (σ k0 1)))) else (some (-4))

def f_X3_isPrinted (σ : Me) (k0 : Nat) (x1 : Int32) : Option Bool := (f_X3_pressOf σ k0 x1).bind fun r1 => (f_X3_shareAt σ k0 r1).bind fun r2 => oc r2 (some false) (fun k902 => gd (decide (kd k902 = 14)) ((f_X4_sheetOf σ k902 x1).bind fun r3 => if (σ k902 3) ≤ r3 then (some false) else (some true)))

def f_X3_isWhole_20  : Nat → Me → Nat → Int32 → Int32 → Option Bool
  | 0, _, _, _, _ => none
  | n + 1, σ, k0, x2, x3 => if x2 ≤ x3 then (some true) else ((f_X3_isPrinted σ k0 x3).bind fun r2 => if (bI r2) = 0 then (some false) else (f_X3_isWhole_20 n σ k0 x2 (x3 + 1)))
def f_X3_isWhole (σ : Me) (k0 : Nat) (x1 : Int32) : Option Bool := (f_J9_min_7cf53 ((10 * x1) + 10) (σ k0 4)).bind fun r4 => f_X3_isWhole_20 1000 σ k0 r4 (10 * x1)

def f_X3_packs (σ : Me) (k0 : Nat) : Option Int32 := some ((((σ k0 4) + 10) - 1) / 10)

def f_X3_wholePacks_4  : Nat → Me → Nat → Int32 → Int32 → Option Int32
  | 0, _, _, _, _ => none
  | n + 1, σ, k0, x1, x2 => (f_X3_packs σ k0).bind fun r1 => if r1 ≤ x2 then (some x1) else ((f_X3_isWhole σ k0 x2).bind fun r3 => if (bI r3) = 0 then (f_X3_wholePacks_4 n σ k0 x1 (x2 + 1)) else (f_X3_wholePacks_4 n σ k0 (x1 + 1) (x2 + 1)))
def f_X3_wholePacks (σ : Me) (k0 : Nat) : Option Int32 := f_X3_wholePacks_4 1000 σ k0 0 0

def f_X2_wholePacks_4  : Nat → Me → Nat → Int32 → Int32 → Option Int32
  | 0, _, _, _, _ => none
  | n + 1, σ, k0, x1, x2 => if (σ k0 3) ≤ x2 then (some x1) else (gd (inb x2 3) ((f_X3_wholePacks σ ((k0 + 2) + 1 + 6 * x2.toNatClampNeg)).bind fun r3 => f_X2_wholePacks_4 n σ k0 (x1 + r3) (x2 + 1)))
def f_X2_wholePacks (σ : Me) (k0 : Nat) : Option Int32 := f_X2_wholePacks_4 1000 σ k0 0 0

def f_X3_begin (σ : Me) (k0 : Nat) (x1 : Int32) (x2 : Int32) : Option Me := some (up (up (up (up σ k0 2 x1) k0 3 x2) k0 1 0) k0 4 0)

def f_X4_begin (σ : Me) (k0 : Nat) (x1 : Int32) (x2 : Int32) (x3 : Int32) : Option Me := some (up (up (up (up σ k0 0 x1) k0 1 x2) k0 2 x3) k0 3 0)

def f_X3_addShare (σ : Me) (k0 : Nat) (x1 : Int32) (x2 : Int32) : Option Me := if (σ k0 1) < 4 then (gd (inb (σ k0 1) 4) ((f_X4_begin σ ((k0 + 1) + 1 + (σ k0 1).toNatClampNeg) x1 x2 (σ k0 4)).bind fun s3 => some (up (up s3 k0 4 ((s3 k0 4) + (x1 * x2))) k0 1 (((up s3 k0 4 ((s3 k0 4) + (x1 * x2))) k0 1) + 1)))) else (some σ)

def f_X3_hasNumber (σ : Me) (k0 : Nat) (x1 : Int32) : Option Bool := (f_X7_isFromTo x1 0 ((σ k0 4) - 1)).bind fun r1 => some r1

def f_X4_sheetsLeft (σ : Me) (k0 : Nat) : Option Int32 := some ((σ k0 1) - (σ k0 3))

def f_X3_sheetsLeft_4  : Nat → Me → Nat → Int32 → Int32 → Option Int32
  | 0, _, _, _, _ => none
  | n + 1, σ, k0, x1, x2 => if (σ k0 1) ≤ x2 then (some x1) else (gd (inb x2 4) ((f_X4_sheetsLeft σ ((k0 + 1) + 1 + x2.toNatClampNeg)).bind fun r3 => f_X3_sheetsLeft_4 n σ k0 (x1 + r3) (x2 + 1)))
def f_X3_sheetsLeft (σ : Me) (k0 : Nat) : Option Int32 := f_X3_sheetsLeft_4 1000 σ k0 0 0

def f_X4_hasSheet (σ : Me) (k0 : Nat) (x1 : Int32) : Option Bool := (f_X7_isFromTo x1 0 ((σ k0 1) - 1)).bind fun r1 => some r1

def f_X4_numberAt (σ : Me) (k0 : Nat) (x1 : Int32) (x2 : Int32) : Option Int32 := some (((σ k0 2) + (x2 * (σ k0 1))) + x1)

def f_X4_placeOf (σ : Me) (k0 : Nat) (x1 : Int32) : Option Int32 := if 1 ≤ (σ k0 1) then (gd (decide (¬ (σ k0 1) = 0)) (some ((x1 - (σ k0 2)) / (σ k0 1)))) else (some (-4))
-- 12.stars
def f_X0_clear (σ : Me) : Option Me := some (up σ 6 2 0)

def f_X0_forgetOldest_2  : Nat → Me → Int32 → Option Me
  | 0, _, _ => none
  | n + 1, σ, x1 => if 6 ≤ x1 then (some (up σ 6 2 5)) else (gd (inb x1 6) (oc (rf (σ 7 x1.toNatClampNeg)) (gd (inb (x1 - 1) 6) (gd (inb x1 6) (gd (inb (x1 - 1) 6) (f_X0_forgetOldest_2 n (up (up σ 7 (x1 - 1).toNatClampNeg (-1)) 8 (x1 - 1).toNatClampNeg ((up σ 7 (x1 - 1).toNatClampNeg (-1)) 8 x1.toNatClampNeg)) (x1 + 1))))) (fun k93 => gd (decide (kd k93 = 14)) (gd (inb (x1 - 1) 6) (gd (inb x1 6) (gd (inb (x1 - 1) 6) (f_X0_forgetOldest_2 n (up (up σ 7 (x1 - 1).toNatClampNeg (nI k93)) 8 (x1 - 1).toNatClampNeg ((up σ 7 (x1 - 1).toNatClampNeg (nI k93)) 8 x1.toNatClampNeg)) (x1 + 1))))))))
def f_X0_forgetOldest (σ : Me) : Option Me := f_X0_forgetOldest_2 1000 σ 1

def f_X0_remember_n_13  (σ : Me) (x2 : Int32) : Option Me := gd (inb (σ 6 2) 6) (gd (inb ((up σ 7 (σ 6 2).toNatClampNeg (-1)) 6 2) 6) (some (up (up (up σ 7 (σ 6 2).toNatClampNeg (-1)) 8 ((up σ 7 (σ 6 2).toNatClampNeg (-1)) 6 2).toNatClampNeg x2) 6 2 (((up (up σ 7 (σ 6 2).toNatClampNeg (-1)) 8 ((up σ 7 (σ 6 2).toNatClampNeg (-1)) 6 2).toNatClampNeg x2) 6 2) + 1))))
def f_X0_remember_n (σ : Me) (x2 : Int32) : Option Me := if (σ 6 2) < 6 then (f_X0_remember_n_13 σ x2) else ((f_X0_forgetOldest σ).bind fun s4 => f_X0_remember_n_13 s4 x2)

def f_X0_remember_s_13  (σ : Me) (k1 : Nat) (x2 : Int32) : Option Me := gd (inb (σ 6 2) 6) (gd (inb ((up σ 7 (σ 6 2).toNatClampNeg (nI k1)) 6 2) 6) (some (up (up (up σ 7 (σ 6 2).toNatClampNeg (nI k1)) 8 ((up σ 7 (σ 6 2).toNatClampNeg (nI k1)) 6 2).toNatClampNeg x2) 6 2 (((up (up σ 7 (σ 6 2).toNatClampNeg (nI k1)) 8 ((up σ 7 (σ 6 2).toNatClampNeg (nI k1)) 6 2).toNatClampNeg x2) 6 2) + 1))))
def f_X0_remember_s (σ : Me) (k1 : Nat) (x2 : Int32) : Option Me := if (σ 6 2) < 6 then (f_X0_remember_s_13 σ k1 x2) else ((f_X0_forgetOldest σ).bind fun s4 => f_X0_remember_s_13 s4 k1 x2)

def f_X0_rememberRun (σ : Me) (k1 : Nat) (x2 : Int32) : Option Me := (f_X0_remember_s σ k1 x2).bind fun s1 => some s1

def f_X0_rememberSpoiled (σ : Me) (x1 : Int32) : Option Me := (f_X0_remember_n σ x1).bind fun s1 => some s1

def f_X0_latestShare (σ : Me) : Option (Option Nat) := if 1 ≤ (σ 6 2) then (gd (inb ((σ 6 2) - 1) 6) (oc (rf (σ 7 ((σ 6 2) - 1).toNatClampNeg)) (some none) (fun k93 => gd (decide (kd k93 = 14)) (some (some k93))))) else (some none)

def f_X0_latestAmount (σ : Me) : Option Int32 := if 1 ≤ (σ 6 2) then (gd (inb ((σ 6 2) - 1) 6) (some (σ 8 ((σ 6 2) - 1).toNatClampNeg))) else (some 0)

def f_X0_forgetLatest (σ : Me) : Option Me := (f_J9_max_7cf53 ((σ 6 2) - 1) 0).bind fun r1 => some (up σ 6 2 r1)

def f_X5_begin (σ : Me) (x1 : Int32) : Option Me := (f_J9_min_7cf53 x1 99).bind fun r1 => some (up (up σ 3 2 r1) 3 3 0)

def f_X5_left (σ : Me) : Option Int32 := some ((σ 3 2) - (σ 3 3))

def f_X5_standFor (σ : Me) (x1 : Int32) (x2 : Int32) : Option Me := if (σ 3 3) < (σ 3 2) then (gd (inb (σ 3 3) 99) (gd (inb ((up σ 4 (σ 3 3).toNatClampNeg x1) 3 3) 99) (some (up (up (up σ 4 (σ 3 3).toNatClampNeg x1) 5 ((up σ 4 (σ 3 3).toNatClampNeg x1) 3 3).toNatClampNeg x2) 3 3 (((up (up σ 4 (σ 3 3).toNatClampNeg x1) 5 ((up σ 4 (σ 3 3).toNatClampNeg x1) 3 3).toNatClampNeg x2) 3 3) + 1))))) else (some σ)

def f_X5_takeBack (σ : Me) (x1 : Int32) : Option Me := (f_J9_max_7cf53 ((σ 3 3) - x1) 0).bind fun r1 => some (up σ 3 3 r1)

def f_X5_seriesOf (σ : Me) (x1 : Int32) : Option Int32 := (f_X7_isFromTo x1 0 ((σ 3 3) - 1)).bind fun r1 => if (bI r1) = 0 then (some (-4)) else (gd (inb x1 99) (some (σ 4 x1.toNatClampNeg)))

def f_X5_numberOf (σ : Me) (x1 : Int32) : Option Int32 := (f_X7_isFromTo x1 0 ((σ 3 3) - 1)).bind fun r1 => if (bI r1) = 0 then (some (-4)) else (gd (inb x1 99) (some (σ 5 x1.toNatClampNeg)))

def f_X5_standingFor_2  : Nat → Me → Int32 → Int32 → Int32 → Option Int32
  | 0, _, _, _, _ => none
  | n + 1, σ, x1, x2, x3 => if (σ 3 3) ≤ x3 then (some (-4)) else (gd (inb x3 99) (if (σ 4 x3.toNatClampNeg) = x1 then (gd (inb x3 99) (if (σ 5 x3.toNatClampNeg) = x2 then (some x3) else (f_X5_standingFor_2 n σ x1 x2 (x3 + 1)))) else (f_X5_standingFor_2 n σ x1 x2 (x3 + 1))))
def f_X5_standingFor (σ : Me) (x1 : Int32) (x2 : Int32) : Option Int32 := f_X5_standingFor_2 1000 σ x1 x2 0

def f_X5_standsFor (σ : Me) (x1 : Int32) (x2 : Int32) : Option Bool := (f_X5_standingFor σ x1 x2).bind fun r1 => if r1 = (-4) then (some false) else (some true)

def f_X5_standingForSeries_4  : Nat → Me → Int32 → Int32 → Int32 → Option Int32
  | 0, _, _, _, _ => none
  | n + 1, σ, x1, x2, x3 => if (σ 3 3) ≤ x3 then (some x2) else (gd (inb x3 99) (if (σ 4 x3.toNatClampNeg) = x1 then (f_X5_standingForSeries_4 n σ x1 (x2 + 1) (x3 + 1)) else (f_X5_standingForSeries_4 n σ x1 x2 (x3 + 1))))
def f_X5_standingForSeries (σ : Me) (x1 : Int32) : Option Int32 := f_X5_standingForSeries_4 1000 σ x1 0 0
-- 13.text
def f_X6_append (σ : Me) (x1 : Int32) : Option (Me × Bool) := if (σ 1 1) < 200 then (gd (inb (σ 1 1) 200) (some (up (up σ 2 (σ 1 1).toNatClampNeg x1) 1 1 (((up σ 2 (σ 1 1).toNatClampNeg x1) 1 1) + 1), true))) else (some (σ, false))

def f_X6_clear (σ : Me) : Option Me := some (up σ 1 1 0)

def f_X6_readFigure (σ : Me) : Option (Me × Int32) := if (σ 1 1) ≤ (σ 1 2) then (some (σ, (-4))) else (gd (inb (σ 1 2) 200) (if (σ 2 (σ 1 2).toNatClampNeg) < 48 then (some (σ, (-4))) else (gd (inb (σ 1 2) 200) (if (σ 2 (σ 1 2).toNatClampNeg) ≤ 57 then (gd (inb (((up σ 1 2 ((σ 1 2) + 1)) 1 2) - 1) 200) (some (up σ 1 2 ((σ 1 2) + 1), ((up σ 1 2 ((σ 1 2) + 1)) 2 (((up σ 1 2 ((σ 1 2) + 1)) 1 2) - 1).toNatClampNeg) - 48))) else (some (σ, (-4)))))))

def f_X6_readNumber (σ : Me) : Option (Me × Int32) := (f_X6_readFigure σ).bind fun p1 => if p1.2 = (-4) then (some (p1.1, (-4))) else ((f_X6_readFigure p1.1).bind fun p3 => if p3.2 = (-4) then (some (p3.1, p1.2)) else (some (p3.1, (10 * p1.2) + p3.2)))

def f_X6_skip (σ : Me) (x1 : Int32) : Option (Me × Bool) := if (σ 1 1) ≤ (σ 1 2) then (some (σ, false)) else (gd (inb (σ 1 2) 200) (if (σ 2 (σ 1 2).toNatClampNeg) = x1 then (some (up σ 1 2 ((σ 1 2) + 1), true)) else (some (σ, false))))

def f_X6_readPress (σ : Me) (k1 : Nat) : Option (Me × Bool) := (f_X6_readNumber σ).bind fun p1 => (f_X7_isFromTo p1.2 1 8).bind fun r2 => if (bI r2) = 0 then (some (p1.1, false)) else ((f_X6_skip p1.1 59).bind fun p4 => if (bI p4.2) = 0 then (some (p4.1, false)) else ((f_X2_addPress p4.1 k1 p1.2).bind fun p6 => if (bI p6.2) = 0 then (some (p6.1, false)) else (some (p6.1, true))))

def f_X6_readLetter (σ : Me) : Option (Me × Int32) := if (σ 1 1) ≤ (σ 1 2) then (some (σ, (-4))) else (gd (inb (σ 1 2) 200) (if (σ 2 (σ 1 2).toNatClampNeg) < 97 then (some (σ, (-4))) else (gd (inb (σ 1 2) 200) (if (σ 2 (σ 1 2).toNatClampNeg) ≤ 122 then (gd (inb (((up σ 1 2 ((σ 1 2) + 1)) 1 2) - 1) 200) (some (up σ 1 2 ((σ 1 2) + 1), (((up σ 1 2 ((σ 1 2) + 1)) 2 (((up σ 1 2 ((σ 1 2) + 1)) 1 2) - 1).toNatClampNeg) - 97) + 1))) else (some (σ, (-4)))))))

def f_X6_readSeries_96 (K69 : Me → Nat → Nat → Int32 → Option (Me × Bool)) (σ : Me) (k1 : Nat) (k2 : Nat) (x5 : Int32) (t0 : Int32) : Option (Me × Bool) := (f_X7_isFromTo t0 0 40).bind fun r1 => if (bI r1) = 0 then (some (σ, false)) else (gd (inb x5 4) ((f_X3_addShare σ k2 (σ (k1 + 1) x5.toNatClampNeg) t0).bind fun s4 => K69 s4 k1 k2 (x5 + 1)))
def f_X6_readSeries_69  : Nat → Me → Nat → Nat → Int32 → Option (Me × Bool)
  | 0, _, _, _, _ => none
  | n + 1, σ, k1, k2, x5 => if (σ k1 2) ≤ x5 then ((f_X6_skip σ 59).bind fun p6 => if (bI p6.2) = 0 then (some (p6.1, false)) else ((f_X7_isFromTo (p6.1 k2 4) 1 999).bind fun r8 => if (bI r8) = 0 then (some (p6.1, false)) else ((f_X2_keepNextSeries p6.1 k1).bind fun s10 => some (s10, true)))) else ((f_X6_skip σ 44).bind fun p11 => if (bI p11.2) = 0 then (f_X6_readSeries_96 (f_X6_readSeries_69 n) p11.1 k1 k2 x5 (-4)) else ((f_X6_readNumber p11.1).bind fun p13 => f_X6_readSeries_96 (f_X6_readSeries_69 n) p13.1 k1 k2 x5 p13.2))
def f_X6_readSeries (σ : Me) (k1 : Nat) : Option (Me × Bool) := (f_X2_nextSeries σ k1).bind fun r14 => oc r14 ((f_X6_readLetter σ).bind fun p15 => some (p15.1, false)) (fun k914 => gd (decide (kd k914 = 12)) ((f_X6_readLetter σ).bind fun p16 => if p16.2 = (-4) then (some (p16.1, false)) else ((f_X2_seriesOfLetter p16.1 k1 p16.2).bind fun r18 => if r18 = (-4) then ((f_X6_skip p16.1 44).bind fun p20 => if (bI p20.2) = 0 then (some (p20.1, false)) else ((f_X6_readNumber p20.1).bind fun p22 => (f_X7_isFromTo p22.2 0 2).bind fun r23 => if (bI r23) = 0 then (some (p22.1, false)) else ((f_X3_begin p22.1 k914 p16.2 p22.2).bind fun s25 => f_X6_readSeries_69 1000 s25 k1 k914 0))) else (some (p16.1, false)))))

def f_X6_readStars (σ : Me) (k1 : Nat) : Option (Me × Bool) := (f_X6_readNumber σ).bind fun p1 => (f_X7_isFromTo p1.2 0 99).bind fun r2 => if (bI r2) = 0 then (some (p1.1, false)) else ((f_X6_skip p1.1 59).bind fun p4 => if (bI p4.2) = 0 then (some (p4.1, false)) else (some (up p4.1 k1 4 p1.2, true)))

def f_X6_readItem (σ : Me) (k1 : Nat) : Option (Me × Bool) := (f_X6_skip σ 112).bind fun p1 => if (bI p1.2) = 0 then ((f_X6_skip p1.1 115).bind fun p3 => if (bI p3.2) = 0 then ((f_X6_skip p3.1 122).bind fun p5 => if (bI p5.2) = 0 then (some (p5.1, false)) else ((f_X6_readStars p5.1 k1).bind fun p7 => if (bI p7.2) = 0 then (some (p7.1, false)) else (some (p7.1, true)))) else ((f_X6_readSeries p3.1 k1).bind fun p9 => some (p9.1, p9.2))) else ((f_X6_readPress p1.1 k1).bind fun p10 => some (p10.1, p10.2))

def f_X6_readInto_11  : Nat → Me → Nat → Int32 → Option (Me × Int32)
  | 0, _, _, _ => none
  | n + 1, σ, k1, x2 => if 200 ≤ x2 then (some (σ, (-4))) else (if (σ 1 1) ≤ (σ 1 2) then (some (σ, (-4))) else ((f_X6_readItem σ k1).bind fun p3 => if (bI p3.2) = 0 then (some (p3.1, σ 1 2)) else (f_X6_readInto_11 n p3.1 k1 (x2 + 1))))
def f_X6_readInto (σ : Me) (k1 : Nat) : Option (Me × Int32) := (f_X2_clear σ k1).bind fun s5 => f_X6_readInto_11 1000 (up s5 1 2 0) k1 0
-- 14.press
def f_X7_write (σ : Me) (x1 : Int32) : Option (Me × Int32) := (f_X7_isFromTo x1 32 126).bind fun r1 => if (bI r1) = 0 then (some (σ, (-1))) else ((f_X6_append σ x1).bind fun p3 => if (bI p3.2) = 0 then (some (p3.1, (-3))) else (some (p3.1, p3.1 1 1)))

def f_X7_wipe (σ : Me) : Option (Me × Int32) := (f_X6_clear σ).bind fun s1 => some (s1, σ 1 1)

def f_X7_fault (σ : Me) : Option (Me × Int32) := gd (decide (kd ((σ 0 4).toNatClampNeg) = 9)) ((f_X6_readInto σ ((σ 0 4).toNatClampNeg)).bind fun p2 => some (p2.1, p2.2))

def f_X7_layText (σ : Me) : Option (Me × Bool) := gd (decide (kd ((σ 0 4).toNatClampNeg) = 9)) ((f_X6_readInto σ ((σ 0 4).toNatClampNeg)).bind fun p2 => if p2.2 = (-4) then (gd (decide (kd ((p2.1 0 4).toNatClampNeg) = 9)) (if 1 ≤ (p2.1 ((p2.1 0 4).toNatClampNeg) 3) then (gd (decide (kd ((p2.1 0 3).toNatClampNeg) = 9)) (gd (decide (kd ((p2.1 0 4).toNatClampNeg) = 9)) (gd (decide (kd (((up (up p2.1 0 3 (nI ((p2.1 0 4).toNatClampNeg))) 0 4 (nI ((p2.1 0 3).toNatClampNeg))) 0 3).toNatClampNeg) = 9)) ((f_X5_begin (up (up p2.1 0 3 (nI ((p2.1 0 4).toNatClampNeg))) 0 4 (nI ((p2.1 0 3).toNatClampNeg))) ((up (up p2.1 0 3 (nI ((p2.1 0 4).toNatClampNeg))) 0 4 (nI ((p2.1 0 3).toNatClampNeg))) (((up (up p2.1 0 3 (nI ((p2.1 0 4).toNatClampNeg))) 0 4 (nI ((p2.1 0 3).toNatClampNeg))) 0 3).toNatClampNeg) 4)).bind fun s9 => (f_X0_clear s9).bind fun s10 => some (s10, true))))) else (some (p2.1, false)))) else (some (p2.1, false)))

def f_X7_lay (σ : Me) : Option (Me × Int32) := (f_X7_layText σ).bind fun p1 => if (bI p1.2) = 0 then (some (p1.1, (-2))) else (gd (decide (kd ((p1.1 0 3).toNatClampNeg) = 9)) (some (p1.1, p1.1 ((p1.1 0 3).toNatClampNeg) 3)))

def f_X7_run (σ : Me) (x1 : Int32) (x2 : Int32) (x3 : Int32) : Option (Me × Int32) := gd (decide (kd ((σ 0 3).toNatClampNeg) = 9)) ((f_X2_shareAt σ ((σ 0 3).toNatClampNeg) x1 x2).bind fun r2 => oc r2 (some (σ, (-1))) (fun k902 => gd (decide (kd k902 = 14)) ((f_X7_isFromTo x3 1 40).bind fun r3 => if (bI r3) = 0 then (some (σ, (-1))) else ((f_X4_sheetsLeft σ k902).bind fun r5 => if x3 ≤ r5 then ((f_X0_rememberRun (up σ k902 3 ((σ k902 3) + x3)) k902 x3).bind fun s7 => some (s7, x3 * (s7 k902 0))) else (some (σ, (-2)))))))

def f_X7_spoil (σ : Me) (x1 : Int32) (x2 : Int32) : Option (Me × Int32) := gd (decide (kd ((σ 0 3).toNatClampNeg) = 9)) ((f_X2_seriesAt σ ((σ 0 3).toNatClampNeg) x1).bind fun r2 => oc r2 (some (σ, (-1))) (fun k902 => gd (decide (kd k902 = 12)) ((f_X3_hasNumber σ k902 x2).bind fun r3 => if (bI r3) = 0 then (some (σ, (-1))) else ((f_X3_isPrinted σ k902 x2).bind fun r5 => if (bI r5) = 0 then (some (σ, (-2))) else ((f_X5_standsFor σ x1 x2).bind fun r7 => if (bI r7) = 0 then ((f_X5_left σ).bind fun r9 => if 1 ≤ r9 then ((f_X5_standFor σ x1 x2).bind fun s11 => (f_X0_rememberSpoiled s11 1).bind fun s12 => some (s12, (s12 3 3) - 1)) else (some (σ, (-3)))) else (some (σ, (-2))))))))

def f_X7_unspoiledOfSheet_6  : Nat → Me → Int32 → Nat → Int32 → Int32 → Int32 → Option Int32
  | 0, _, _, _, _, _, _ => none
  | n + 1, σ, x1, k2, x3, x4, x5 => if (σ k2 0) ≤ x5 then (some x4) else ((f_X4_numberAt σ k2 x3 x5).bind fun r2 => (f_X5_standsFor σ x1 r2).bind fun r3 => if (bI r3) = 0 then (f_X7_unspoiledOfSheet_6 n σ x1 k2 x3 (x4 + 1) (x5 + 1)) else (f_X7_unspoiledOfSheet_6 n σ x1 k2 x3 x4 (x5 + 1)))
def f_X7_unspoiledOfSheet (σ : Me) (x1 : Int32) (k2 : Nat) (x3 : Int32) : Option Int32 := f_X7_unspoiledOfSheet_6 1000 σ x1 k2 x3 0 0

def f_X7_spoilSheet_72  : Nat → Me → Int32 → Int32 → Nat → Int32 → Int32 → Option (Me × Int32)
  | 0, _, _, _, _, _, _ => none
  | n + 1, σ, x1, x3, k4, x5, x6 => if (σ k4 0) ≤ x6 then ((f_X0_rememberSpoiled σ x5).bind fun s2 => some (s2, x5)) else ((f_X4_numberAt σ k4 x3 x6).bind fun r3 => (f_X5_standsFor σ x1 r3).bind fun r4 => if (bI r4) = 0 then ((f_X5_standFor σ x1 r3).bind fun s6 => f_X7_spoilSheet_72 n s6 x1 x3 k4 x5 (x6 + 1)) else (f_X7_spoilSheet_72 n σ x1 x3 k4 x5 (x6 + 1)))
def f_X7_spoilSheet (σ : Me) (x1 : Int32) (x2 : Int32) (x3 : Int32) : Option (Me × Int32) := gd (decide (kd ((σ 0 3).toNatClampNeg) = 9)) ((f_X2_shareAt σ ((σ 0 3).toNatClampNeg) x1 x2).bind fun r8 => oc r8 (some (σ, (-1))) (fun k908 => gd (decide (kd k908 = 14)) ((f_X4_hasSheet σ k908 x3).bind fun r9 => if (bI r9) = 0 then (some (σ, (-1))) else ((f_X7_unspoiledOfSheet σ x1 k908 x3).bind fun r11 => if (σ k908 3) ≤ x3 then (some (σ, (-2))) else (if r11 = 0 then (some (σ, (-2))) else ((f_X5_left σ).bind fun r14 => if r11 ≤ r14 then (f_X7_spoilSheet_72 1000 σ x1 x3 k908 r11 0) else (some (σ, (-3)))))))))

def f_X7_undo_55  (σ : Me) : Option (Me × Int32) := (f_X0_forgetLatest σ).bind fun s1 => some (s1, s1 6 2)
def f_X7_undo (σ : Me) : Option (Me × Int32) := if 1 ≤ (σ 6 2) then ((f_X0_latestShare σ).bind fun r3 => oc r3 ((f_X0_latestAmount σ).bind fun r4 => (f_X5_takeBack σ r4).bind fun s5 => f_X7_undo_55 s5) (fun k903 => gd (decide (kd k903 = 14)) ((f_X0_latestAmount σ).bind fun r6 => f_X7_undo_55 (up σ k903 3 ((σ k903 3) - r6))))) else (some (σ, (-2)))

def f_X7_series (σ : Me) (x1 : Int32) (x2 : Int32) : Option Int32 := gd (decide (kd ((σ 0 3).toNatClampNeg) = 9)) ((f_X2_seriesAt σ ((σ 0 3).toNatClampNeg) x1).bind fun r2 => oc r2 (some (-1)) (fun k902 => gd (decide (kd k902 = 12)) (if x2 = 0 then (some (σ k902 2)) else (if x2 = 1 then (some (σ k902 3)) else (if x2 = 2 then (some (σ k902 4)) else (if x2 = 3 then ((f_X3_notesPrinted σ k902).bind fun r7 => some r7) else (if x2 = 4 then ((f_X5_standingForSeries σ x1).bind fun r9 => some r9) else (if x2 = 5 then ((f_X3_sheetsLeft σ k902).bind fun r11 => some r11) else (if x2 = 6 then ((f_X3_packs σ k902).bind fun r13 => some r13) else (if x2 = 7 then ((f_X3_wholePacks σ k902).bind fun r15 => some r15) else (some (-1))))))))))))

def f_X7_share (σ : Me) (x1 : Int32) (x2 : Int32) (x3 : Int32) : Option Int32 := gd (decide (kd ((σ 0 3).toNatClampNeg) = 9)) ((f_X2_shareAt σ ((σ 0 3).toNatClampNeg) x1 x2).bind fun r2 => oc r2 (some (-1)) (fun k902 => gd (decide (kd k902 = 14)) (if x3 = 0 then (some (σ k902 1)) else (if x3 = 1 then (some (σ k902 3)) else (if x3 = 2 then (some (σ k902 2)) else (if x3 = 3 then (some (σ k902 0)) else (some (-1))))))))

def f_X7_where (σ : Me) (x1 : Int32) (x2 : Int32) (x3 : Int32) : Option Int32 := gd (decide (kd ((σ 0 3).toNatClampNeg) = 9)) ((f_X2_seriesAt σ ((σ 0 3).toNatClampNeg) x1).bind fun r2 => oc r2 (some (-1)) (fun k902 => gd (decide (kd k902 = 12)) ((f_X3_pressOf σ k902 x2).bind fun r3 => (f_X3_shareAt σ k902 r3).bind fun r4 => oc r4 (some (-1)) (fun k904 => gd (decide (kd k904 = 14)) (if x3 = 0 then (some r3) else (if x3 = 1 then ((f_X4_sheetOf σ k904 x2).bind fun r7 => some r7) else (if x3 = 2 then ((f_X4_placeOf σ k904 x2).bind fun r9 => some r9) else (some (-1)))))))))

def f_X7_number (σ : Me) (x1 : Int32) (x2 : Int32) (x3 : Int32) (x4 : Int32) : Option Int32 := gd (decide (kd ((σ 0 3).toNatClampNeg) = 9)) ((f_X2_shareAt σ ((σ 0 3).toNatClampNeg) x1 x2).bind fun r2 => oc r2 (some (-1)) (fun k902 => gd (decide (kd k902 = 14)) ((f_X4_hasSheet σ k902 x3).bind fun r3 => if (bI r3) = 0 then (some (-1)) else ((f_X7_isFromTo x4 0 ((σ k902 0) - 1)).bind fun r5 => if (bI r5) = 0 then (some (-1)) else ((f_X4_numberAt σ k902 x3 x4).bind fun r7 => some r7)))))

def f_X7_check (σ : Me) (x1 : Int32) (x2 : Int32) : Option Int32 := gd (decide (kd ((σ 0 3).toNatClampNeg) = 9)) ((f_X2_seriesAt σ ((σ 0 3).toNatClampNeg) x1).bind fun r2 => oc r2 (some (-1)) (fun k902 => gd (decide (kd k902 = 12)) ((f_X7_isFromTo x2 0 999).bind fun r3 => if (bI r3) = 0 then (some (-1)) else ((f_X1_ofNumber (σ k902 3) (σ k902 2) x2).bind fun r5 => some r5))))

def f_X7_missed (σ : Me) (x1 : Int32) (x2 : Int32) (x3 : Int32) : Option Int32 := gd (decide (kd ((σ 0 3).toNatClampNeg) = 9)) ((f_X2_seriesAt σ ((σ 0 3).toNatClampNeg) x1).bind fun r2 => oc r2 (some (-1)) (fun k902 => gd (decide (kd k902 = 12)) ((f_X7_isFromTo x2 0 999).bind fun r3 => if (bI r3) = 0 then (some (-1)) else (if x3 = 0 then ((f_X1_missedFigures (σ k902 3) (σ k902 2) x2).bind fun r6 => some r6) else (if x3 = 1 then ((f_X1_missedSwaps (σ k902 3) (σ k902 2) x2).bind fun r8 => some r8) else (some (-1)))))))

def f_X7_note (σ : Me) (x1 : Int32) (x2 : Int32) : Option Int32 := gd (decide (kd ((σ 0 3).toNatClampNeg) = 9)) ((f_X2_seriesAt σ ((σ 0 3).toNatClampNeg) x1).bind fun r2 => oc r2 (some (-1)) (fun k902 => gd (decide (kd k902 = 12)) ((f_X3_hasNumber σ k902 x2).bind fun r3 => if (bI r3) = 0 then (some (-1)) else ((f_X3_isPrinted σ k902 x2).bind fun r5 => if (bI r5) = 0 then (some 0) else ((f_X5_standsFor σ x1 x2).bind fun r7 => if (bI r7) = 0 then (some 1) else (some 2))))))

def f_X7_star (σ : Me) (x1 : Int32) (x2 : Int32) : Option Int32 := (f_X7_isFromTo x1 0 ((σ 3 2) - 1)).bind fun r1 => if (bI r1) = 0 then (some (-1)) else (if x2 = 0 then ((f_X5_seriesOf σ x1).bind fun r4 => some r4) else (if x2 = 1 then ((f_X5_numberOf σ x1).bind fun r6 => some r6) else (if x2 = 2 then ((f_X1_ofStar x1).bind fun r8 => some r8) else (some (-1)))))

def f_X7_starOf (σ : Me) (x1 : Int32) (x2 : Int32) : Option Int32 := gd (decide (kd ((σ 0 3).toNatClampNeg) = 9)) ((f_X2_seriesAt σ ((σ 0 3).toNatClampNeg) x1).bind fun r2 => oc r2 (some (-1)) (fun k902 => gd (decide (kd k902 = 12)) ((f_X3_hasNumber σ k902 x2).bind fun r3 => if (bI r3) = 0 then (some (-1)) else ((f_X5_standingFor σ x1 x2).bind fun r5 => some r5))))

def f_X7_judgeNote (σ : Me) (x1 : Int32) (x2 : Int32) (x3 : Int32) : Option Int32 := gd (decide (kd ((σ 0 3).toNatClampNeg) = 9)) ((f_X2_seriesOfLetter σ ((σ 0 3).toNatClampNeg) x1).bind fun r2 => gd (decide (kd ((σ 0 3).toNatClampNeg) = 9)) ((f_X2_seriesAt σ ((σ 0 3).toNatClampNeg) r2).bind fun r4 => oc r4 (some 1) (fun k904 => gd (decide (kd k904 = 12)) ((f_X3_hasNumber σ k904 x2).bind fun r5 => if (bI r5) = 0 then (some 2) else ((f_X1_ofNumber (σ k904 3) (σ k904 2) x2).bind fun r7 => if x3 = r7 then ((f_X3_isPrinted σ k904 x2).bind fun r9 => if (bI r9) = 0 then (some 4) else ((f_X5_standsFor σ r2 x2).bind fun r11 => if (bI r11) = 0 then (some 0) else (some 5))) else (some 3))))))

def f_X7_judgeStar (σ : Me) (x1 : Int32) (x2 : Int32) : Option Int32 := if x1 < (σ 3 2) then ((f_X1_ofStar x1).bind fun r2 => if x2 = r2 then (if x1 < (σ 3 3) then (some 0) else (some 4)) else (some 3)) else (some 2)

def f_X7_judge (σ : Me) (x1 : Int32) (x2 : Int32) (x3 : Int32) : Option Int32 := (f_X7_isFromTo x1 0 26).bind fun r1 => if (bI r1) = 0 then (some (-1)) else ((f_X7_isFromTo x2 0 999).bind fun r3 => if (bI r3) = 0 then (some (-1)) else ((f_X7_isFromTo x3 0 99).bind fun r5 => if (bI r5) = 0 then (some (-1)) else (if x1 = 0 then ((f_X7_judgeStar σ x2 x3).bind fun r9 => some r9) else ((f_X7_judgeNote σ x1 x2 x3).bind fun r8 => some r8))))

def f_X7_pack (σ : Me) (x1 : Int32) (x2 : Int32) (x3 : Int32) : Option Int32 := gd (decide (kd ((σ 0 3).toNatClampNeg) = 9)) ((f_X2_seriesAt σ ((σ 0 3).toNatClampNeg) x1).bind fun r2 => oc r2 (some (-1)) (fun k902 => gd (decide (kd k902 = 12)) ((f_X3_packs σ k902).bind fun r3 => (f_X7_isFromTo x2 0 (r3 - 1)).bind fun r4 => if (bI r4) = 0 then (some (-1)) else ((f_X7_isFromTo x3 0 9).bind fun r6 => if (bI r6) = 0 then (some (-1)) else ((f_X3_isWhole σ k902 x2).bind fun r8 => if (bI r8) = 0 then (some (-2)) else ((f_X3_hasNumber σ k902 ((10 * x2) + x3)).bind fun r10 => if (bI r10) = 0 then (some (-4)) else ((f_X5_standingFor σ x1 ((10 * x2) + x3)).bind fun r12 => if r12 = (-4) then (some ((10 * x2) + x3)) else (some (1000 + r12)))))))))

def f_X7_count (σ : Me) (x1 : Int32) : Option Int32 := if x1 = 0 then (gd (decide (kd ((σ 0 3).toNatClampNeg) = 9)) (some (σ ((σ 0 3).toNatClampNeg) 2))) else (if x1 = 1 then (gd (decide (kd ((σ 0 3).toNatClampNeg) = 9)) (some (σ ((σ 0 3).toNatClampNeg) 3))) else (if x1 = 2 then (some (σ 3 2)) else (if x1 = 3 then (some (σ 3 3)) else (if x1 = 4 then (gd (decide (kd ((σ 0 3).toNatClampNeg) = 9)) ((f_X2_notesPrinted σ ((σ 0 3).toNatClampNeg)).bind fun r9 => some r9)) else (if x1 = 5 then (some (σ 3 3)) else (if x1 = 6 then (gd (decide (kd ((σ 0 3).toNatClampNeg) = 9)) ((f_X2_sheetsRun σ ((σ 0 3).toNatClampNeg)).bind fun r13 => some r13)) else (if x1 = 7 then (gd (decide (kd ((σ 0 3).toNatClampNeg) = 9)) ((f_X2_wholePacks σ ((σ 0 3).toNatClampNeg)).bind fun r16 => some r16)) else (if x1 = 8 then (some (σ 6 2)) else (if x1 = 9 then (some (σ 1 1)) else (some (-1)))))))))))
-- 15.model
def f_X8_adds (σ : Me) (x1 : Int32) (x2 : Int32) (x3 : Int32) (x4 : Int32) : Option Me := gd (inb (4 + (6 * (σ 2 23))) 25) (gd (inb ((4 + (6 * (σ 2 23))) + 1) 25) (gd (inb ((4 + (6 * (σ 2 23))) + 2) 25) (gd (inb ((4 + (6 * (σ 2 23))) + 3) 25) (some (up (up (up (up (up σ 2 (4 + (6 * (σ 2 23))).toNatClampNeg x1) 2 ((4 + (6 * (σ 2 23))) + 1).toNatClampNeg x2) 2 ((4 + (6 * (σ 2 23))) + 2).toNatClampNeg x3) 2 ((4 + (6 * (σ 2 23))) + 3).toNatClampNeg x4) 2 23 (((up (up (up (up σ 2 (4 + (6 * (σ 2 23))).toNatClampNeg x1) 2 ((4 + (6 * (σ 2 23))) + 1).toNatClampNeg x2) 2 ((4 + (6 * (σ 2 23))) + 2).toNatClampNeg x3) 2 ((4 + (6 * (σ 2 23))) + 3).toNatClampNeg x4) 2 23) + 1))))))

def f_X8_in (x0 : Int64) (x2 : Int64) (x4 : Int64) : Option Bool := if (lg_cmp x0 x2) < 0 then (some false) else (if 0 < (lg_cmp x0 x4) then (some false) else (some true))

def f_X8_write (σ : Me) (x1 : Int32) : Option (Me × Int32) := (f_X8_in x1.toInt64 32 126).bind fun r1 => if (bI r1) = 0 then (some (σ, (-1))) else (if (σ 0 0) = 200 then (some (σ, (-3))) else (gd (inb (σ 0 0) 200) (some (up (up σ 1 (σ 0 0).toNatClampNeg x1) 0 0 (((up σ 1 (σ 0 0).toNatClampNeg x1) 0 0) + 1), (up (up σ 1 (σ 0 0).toNatClampNeg x1) 0 0 (((up σ 1 (σ 0 0).toNatClampNeg x1) 0 0) + 1)) 0 0))))

def f_X8_wipe (σ : Me) : Option (Me × Int32) := some (up σ 0 0 0, σ 0 0)

def f_X8_byteAt (σ : Me) (x1 : Int32) : Option Int32 := if (σ 0 0) ≤ x1 then (some 0) else (gd (inb x1 200) (some (σ 1 x1.toNatClampNeg)))

def f_X8_gone (σ : Me) (x1 : Int32) : Option (Me × Bool) := (f_X8_byteAt σ (σ 0 2)).bind fun r1 => if r1 = x1 then (some (up σ 0 2 ((σ 0 2) + 1), true)) else (some (up σ 0 2 ((σ 0 2) + 1), false))

def f_X8_number2_68  (σ : Me) (x1 : Int32) (x2 : Int32) (x3 : Int32) (x4 : Int32) (x5 : Int32) : Option (Me × Bool) := gd (inb x1 25) (if x5 ≤ 0 then (some (up σ 3 x1.toNatClampNeg x4, false)) else ((f_X8_in x4.toInt64 x2.toInt64 x3.toInt64).bind fun r3 => if (bI r3) = 0 then (some (up σ 3 x1.toNatClampNeg x4, false)) else (some (up σ 3 x1.toNatClampNeg x4, true))))
def f_X8_number2_6  : Nat → Me → Int32 → Int32 → Int32 → Int32 → Int32 → Option (Me × Bool)
  | 0, _, _, _, _, _, _ => none
  | n + 1, σ, x1, x2, x3, x4, x5 => if 2 ≤ x5 then (f_X8_number2_68 σ x1 x2 x3 x4 x5) else ((f_X8_byteAt σ (σ 0 2)).bind fun r6 => (f_X8_in r6.toInt64 48 57).bind fun r7 => if (bI r7) = 0 then (f_X8_number2_68 σ x1 x2 x3 x4 x5) else ((f_X8_byteAt σ (σ 0 2)).bind fun r9 => f_X8_number2_6 n (up σ 0 2 ((σ 0 2) + 1)) x1 x2 x3 (((10 * x4) + r9) - 48) (x5 + 1)))
def f_X8_number2 (σ : Me) (x1 : Int32) (x2 : Int32) (x3 : Int32) : Option (Me × Bool) := f_X8_number2_6 1000 σ x1 x2 x3 0 0

def f_X8_whole_2_4  : Nat → Me → Int32 → Int32 → Int32 → Option Int32
  | 0, _, _, _, _ => none
  | n + 1, σ, x1, x2, x3 => if (σ 2 22) ≤ x3 then (some x2) else (gd (inb x3 25) (gd (inb (((4 + (6 * x1)) + 2) + x3) 25) (f_X8_whole_2_4 n σ x1 (x2 + ((σ 2 x3.toNatClampNeg) * (σ 2 (((4 + (6 * x1)) + 2) + x3).toNatClampNeg))) (x3 + 1))))
def f_X8_whole_2 (σ : Me) (x1 : Int32) : Option Int32 := f_X8_whole_2_4 1000 σ x1 0 0

def f_X8_whole_3_4  : Nat → Me → Int32 → Int32 → Int32 → Option Int32
  | 0, _, _, _, _ => none
  | n + 1, σ, x1, x2, x3 => if (σ 3 22) ≤ x3 then (some x2) else (gd (inb x3 25) (gd (inb (((4 + (6 * x1)) + 2) + x3) 25) (f_X8_whole_3_4 n σ x1 (x2 + ((σ 3 x3.toNatClampNeg) * (σ 3 (((4 + (6 * x1)) + 2) + x3).toNatClampNeg))) (x3 + 1))))
def f_X8_whole_3 (σ : Me) (x1 : Int32) : Option Int32 := f_X8_whole_3_4 1000 σ x1 0 0

def f_X8_seriesItem_188  (σ : Me) (x1 : Int32) (x3 : Int32) : Option (Me × Bool) := if x3 = 0 then (some (up σ 3 23 ((σ 3 23) + 1), false)) else ((f_X8_whole_3 (up σ 3 23 ((σ 3 23) + 1)) x1).bind fun r4 => (f_X8_in r4.toInt64 1 999).bind fun r5 => if (bI r5) = 0 then (some (up σ 3 23 ((σ 3 23) + 1), false)) else (some (up σ 3 23 ((σ 3 23) + 1), true)))
def f_X8_seriesItem_135  : Nat → Me → Int32 → Int32 → Int32 → Int32 → Option (Me × Bool)
  | 0, _, _, _, _, _ => none
  | n + 1, σ, x1, x2, x3, x4 => if (σ 3 22) ≤ x4 then (f_X8_seriesItem_188 σ x1 x3) else (if x3 = 0 then (f_X8_seriesItem_188 σ x1 x3) else ((f_X8_gone σ 44).bind fun p10 => if (bI p10.2) = 0 then (f_X8_seriesItem_135 n p10.1 x1 x2 0 (x4 + 1)) else ((f_X8_number2 p10.1 ((x2 + 2) + x4) 0 40).bind fun p12 => if (bI p12.2) = 0 then (f_X8_seriesItem_135 n p12.1 x1 x2 0 (x4 + 1)) else (f_X8_seriesItem_135 n p12.1 x1 x2 1 (x4 + 1)))))
def f_X8_seriesItem_72  : Nat → Me → Int32 → Int32 → Int32 → Option (Me × Bool)
  | 0, _, _, _, _ => none
  | n + 1, σ, x1, x2, x3 => if x1 ≤ x3 then ((f_X8_gone σ 44).bind fun p15 => if (bI p15.2) = 0 then (f_X8_seriesItem_135 1000 p15.1 x1 x2 0 0) else ((f_X8_number2 p15.1 (x2 + 1) 0 2).bind fun p17 => if (bI p17.2) = 0 then (f_X8_seriesItem_135 1000 p17.1 x1 x2 0 0) else (f_X8_seriesItem_135 1000 p17.1 x1 x2 1 0))) else (gd (inb (4 + (6 * x3)) 25) (gd (inb x2 25) (if (σ 3 (4 + (6 * x3)).toNatClampNeg) = (σ 3 x2.toNatClampNeg) then (some (σ, false)) else (f_X8_seriesItem_72 n σ x1 x2 (x3 + 1)))))
def f_X8_seriesItem (σ : Me) : Option (Me × Bool) := if (σ 3 23) = 3 then (some (σ, false)) else ((f_X8_byteAt σ (σ 0 2)).bind fun r24 => (f_X8_in r24.toInt64 97 122).bind fun r25 => if (bI r25) = 0 then (some (σ, false)) else ((f_X8_byteAt σ (σ 0 2)).bind fun r27 => gd (inb (4 + (6 * (σ 3 23))) 25) (f_X8_seriesItem_72 1000 (up (up σ 3 (4 + (6 * (σ 3 23))).toNatClampNeg (r27 - 96)) 0 2 (((up σ 3 (4 + (6 * (σ 3 23))).toNatClampNeg (r27 - 96)) 0 2) + 1)) (σ 3 23) (4 + (6 * (σ 3 23))) 0)))

def f_X8_item (σ : Me) (x1 : Int32) : Option (Me × Bool) := if x1 = 112 then (if (σ 3 22) = 4 then (some (σ, false)) else (if (σ 3 23) ≤ 0 then ((f_X8_number2 (up σ 3 22 ((σ 3 22) + 1)) (((up σ 3 22 ((σ 3 22) + 1)) 3 22) - 1) 1 8).bind fun p9 => some (p9.1, p9.2)) else (some (σ, false)))) else (if x1 = 115 then ((f_X8_seriesItem σ).bind fun p11 => some (p11.1, p11.2)) else (if x1 = 122 then ((f_X8_number2 σ 24 0 99).bind fun p13 => some (p13.1, p13.2)) else (some (σ, false))))

def f_X8_fault_35  : Nat → Me → Option (Me × Int32)
  | 0, _ => none
  | n + 1, σ => if (σ 0 0) ≤ (σ 0 2) then (some (σ, (-4))) else (gd (inb (σ 0 2) 200) ((f_X8_item (up σ 0 2 ((σ 0 2) + 1)) ((up σ 0 2 ((σ 0 2) + 1)) 1 (σ 0 2).toNatClampNeg)).bind fun p3 => if (bI p3.2) = 0 then (some (p3.1, σ 0 2)) else ((f_X8_gone p3.1 59).bind fun p5 => if (bI p5.2) = 0 then (some (p5.1, σ 0 2)) else (f_X8_fault_35 n p5.1))))
def f_X8_fault_2  : Nat → Me → Int32 → Option (Me × Int32)
  | 0, _, _ => none
  | n + 1, σ, x1 => if 25 ≤ x1 then (f_X8_fault_35 1000 (up (up σ 3 24 20) 0 2 0)) else (gd (inb x1 25) (f_X8_fault_2 n (up σ 3 x1.toNatClampNeg 0) (x1 + 1)))
def f_X8_fault (σ : Me) : Option (Me × Int32) := f_X8_fault_2 1000 σ 0

def f_X8_lay_50  : Nat → Me → Int32 → Option (Me × Int32)
  | 0, _, _ => none
  | n + 1, σ, x1 => if 112 ≤ x1 then (some (up σ 0 7 0, (up σ 0 7 0) 2 23)) else (gd (inb x1 112) (f_X8_lay_50 n (up σ 4 x1.toNatClampNeg 0) (x1 + 1)))
def f_X8_lay_24  : Nat → Me → Int32 → Option (Me × Int32)
  | 0, _, _ => none
  | n + 1, σ, x1 => if 25 ≤ x1 then (f_X8_lay_50 1000 σ 0) else (gd (inb x1 25) (gd (inb x1 25) (f_X8_lay_24 n (up σ 2 x1.toNatClampNeg (σ 3 x1.toNatClampNeg)) (x1 + 1))))
def f_X8_lay (σ : Me) : Option (Me × Int32) := (f_X8_fault σ).bind fun p7 => if p7.2 = (-4) then (if (p7.1 3 23) = 0 then (some (p7.1, (-2))) else (f_X8_lay_24 1000 p7.1 0)) else (some (p7.1, (-2)))

def f_X8_isSeries (σ : Me) (x1 : Int32) : Option Bool := (f_X8_in x1.toInt64 0 (((σ 2 23) - 1).toInt64)).bind fun r2 => some r2

def f_X8_isPress (σ : Me) (x1 : Int32) : Option Bool := (f_X8_in x1.toInt64 0 (((σ 2 22) - 1).toInt64)).bind fun r2 => some r2

def f_X8_sheets (σ : Me) (x1 : Int32) (x2 : Int32) : Option Int32 := gd (inb (((4 + (6 * x1)) + 2) + x2) 25) (some (σ 2 (((4 + (6 * x1)) + 2) + x2).toNatClampNeg))

def f_X8_isNumber (σ : Me) (x1 : Int32) (x2 : Int32) : Option Bool := (f_X8_isSeries σ x1).bind fun r1 => if (bI r1) = 0 then (some false) else ((f_X8_whole_2 σ x1).bind fun r3 => (f_X8_in x2.toInt64 0 ((r3 - 1).toInt64)).bind fun r4 => if (bI r4) = 0 then (some false) else (some true))

def f_X8_first_5  : Nat → Me → Int32 → Int32 → Int32 → Int32 → Option Int32
  | 0, _, _, _, _, _ => none
  | n + 1, σ, x1, x2, x3, x4 => if x2 ≤ x4 then (some x3) else (gd (inb x4 25) ((f_X8_sheets σ x1 x4).bind fun r3 => f_X8_first_5 n σ x1 x2 (x3 + ((σ 2 x4.toNatClampNeg) * r3)) (x4 + 1)))
def f_X8_first (σ : Me) (x1 : Int32) (x2 : Int32) : Option Int32 := f_X8_first_5 1000 σ x1 x2 0 0

def f_X8_pressOf_2  : Nat → Me → Int32 → Int32 → Int32 → Option Int32
  | 0, _, _, _, _ => none
  | n + 1, σ, x1, x2, x3 => (f_X8_first σ x1 (x3 + 1)).bind fun r1 => if x2 < r1 then (some x3) else (f_X8_pressOf_2 n σ x1 x2 (x3 + 1))
def f_X8_pressOf (σ : Me) (x1 : Int32) (x2 : Int32) : Option Int32 := f_X8_pressOf_2 1000 σ x1 x2 0

def f_X8_sheetOf (σ : Me) (x1 : Int32) (x2 : Int32) : Option Int32 := (f_X8_pressOf σ x1 x2).bind fun r1 => (f_X8_first σ x1 r1).bind fun r2 => (f_X8_sheets σ x1 r1).bind fun r3 => gd (decide (¬ r3 = 0)) (some ((x2 - r2) - (x2 - r2) / r3 * r3))

def f_X8_isPrinted (σ : Me) (x1 : Int32) (x2 : Int32) : Option Bool := (f_X8_sheetOf σ x1 x2).bind fun r1 => (f_X8_pressOf σ x1 x2).bind fun r2 => gd (inb ((4 * x1) + r2) 112) (if (σ 4 ((4 * x1) + r2).toNatClampNeg) ≤ r1 then (some false) else (some true))

def f_X8_starAt_2  : Nat → Me → Int32 → Int32 → Int32 → Option Int32
  | 0, _, _, _, _ => none
  | n + 1, σ, x1, x2, x3 => if (σ 4 111) ≤ x3 then (some (-4)) else (gd (inb (12 + x3) 112) (if (σ 4 (12 + x3).toNatClampNeg) = ((1000 * x1) + x2) then (some x3) else (f_X8_starAt_2 n σ x1 x2 (x3 + 1))))
def f_X8_starAt (σ : Me) (x1 : Int32) (x2 : Int32) : Option Int32 := f_X8_starAt_2 1000 σ x1 x2 0

def f_X8_turned (x0 : Int32) : Option Int32 := if x0 = 0 then (some 1) else (if x0 = 1 then (some 5) else (if x0 = 2 then (some 7) else (if x0 = 3 then (some 6) else (if x0 = 4 then (some 2) else (if x0 = 5 then (some 8) else (if x0 = 6 then (some 3) else (if x0 = 7 then (some 0) else (if x0 = 8 then (some 9) else (some 4)))))))))

def f_X8_make_20  (x0 : Int32) (x1 : Int32) (t0 : Int32) : Option Int32 := if x0 ≤ 4 then (if x1 ≤ 4 then (if (0 : Int32) = 0 then (some t0) else (some (5 + t0))) else (if (0 : Int32) = 1 then (some t0) else (some (5 + t0)))) else (if x1 ≤ 4 then (if (1 : Int32) = 0 then (some t0) else (some (5 + t0))) else (if (1 : Int32) = 1 then (some t0) else (some (5 + t0))))
def f_X8_make (x0 : Int32) (x1 : Int32) : Option Int32 := if x0 ≤ 4 then (f_X8_make_20 x0 x1 ((x0 + x1) - (x0 + x1) / 5 * 5)) else (f_X8_make_20 x0 x1 (((x0 - x1) + 5) - ((x0 - x1) + 5) / 5 * 5))

def f_X8_checkOf_124  : Nat → Int32 → Int32 → Option Int32
  | 0, _, _ => none
  | n + 1, x6, x7 => (f_X8_make x6 x7).bind fun r1 => if r1 = 0 then (some x7) else (f_X8_checkOf_124 n x6 (x7 + 1))
def f_X8_checkOf (x0 : Int32) (x1 : Int32) (x2 : Int32) : Option Int32 := if x1 = 0 then (some ((9 - ((((x0 + (x2 / 100)) + ((x2 / 10) - (x2 / 10) / 10 * 10)) + (x2 - x2 / 10 * 10)) - (((x0 + (x2 / 100)) + ((x2 / 10) - (x2 / 10) / 10 * 10)) + (x2 - x2 / 10 * 10)) / 9 * 9)) - (9 - ((((x0 + (x2 / 100)) + ((x2 / 10) - (x2 / 10) / 10 * 10)) + (x2 - x2 / 10 * 10)) - (((x0 + (x2 / 100)) + ((x2 / 10) - (x2 / 10) / 10 * 10)) + (x2 - x2 / 10 * 10)) / 9 * 9)) / 9 * 9)) else (if x1 = 1 then (some ((11 - (((((5 * x0) + (4 * (x2 / 100))) + (3 * ((x2 / 10) - (x2 / 10) / 10 * 10))) + (2 * (x2 - x2 / 10 * 10))) - ((((5 * x0) + (4 * (x2 / 100))) + (3 * ((x2 / 10) - (x2 / 10) / 10 * 10))) + (2 * (x2 - x2 / 10 * 10))) / 11 * 11)) - (11 - (((((5 * x0) + (4 * (x2 / 100))) + (3 * ((x2 / 10) - (x2 / 10) / 10 * 10))) + (2 * (x2 - x2 / 10 * 10))) - ((((5 * x0) + (4 * (x2 / 100))) + (3 * ((x2 / 10) - (x2 / 10) / 10 * 10))) + (2 * (x2 - x2 / 10 * 10))) / 11 * 11)) / 11 * 11)) else ((f_X8_turned (x2 / 100)).bind fun r5 => (f_X8_make (x0 - x0 / 10 * 10) r5).bind fun r6 => (f_X8_turned ((x2 / 10) - (x2 / 10) / 10 * 10)).bind fun r7 => (f_X8_turned r7).bind fun r8 => (f_X8_make r6 r8).bind fun r9 => (f_X8_turned (x2 - x2 / 10 * 10)).bind fun r10 => (f_X8_turned r10).bind fun r11 => (f_X8_turned r11).bind fun r12 => (f_X8_make r9 r12).bind fun r13 => f_X8_checkOf_124 1000 r13 0))

def f_X8_checkIn (σ : Me) (x1 : Int32) (x2 : Int32) : Option Int32 := gd (inb (4 + (6 * x1)) 25) (gd (inb ((4 + (6 * x1)) + 1) 25) ((f_X8_checkOf (σ 2 (4 + (6 * x1)).toNatClampNeg) (σ 2 ((4 + (6 * x1)) + 1).toNatClampNeg) x2).bind fun r3 => some r3))

def f_X8_check (σ : Me) (x1 : Int32) (x2 : Int32) : Option Int32 := (f_X8_isSeries σ x1).bind fun r1 => if (bI r1) = 0 then (some (-1)) else ((f_X8_in x2.toInt64 0 999).bind fun r3 => if (bI r3) = 0 then (some (-1)) else ((f_X8_checkIn σ x1 x2).bind fun r5 => some r5))

def f_X8_missed_168 (K157 : Me → Int32 → Int32 → Int32 → Int32 → Int32 → Option Int32) : Nat → Me → Int32 → Int32 → Int32 → Int32 → Int32 → Int32 → Option Int32
  | 0, _, _, _, _, _, _, _ => none
  | n + 1, σ, x1, x2, x4, x5, x6, x7 => if 10 ≤ x7 then (K157 σ x1 x2 x4 x5 (x6 * 10)) else (gd (decide (¬ x6 = 0)) (if (x2 + ((x7 - ((x2 / x6) - (x2 / x6) / 10 * 10)) * x6)) = x2 then (f_X8_missed_168 K157 n σ x1 x2 x4 (x5 + 0) x6 (x7 + 1)) else ((f_X8_checkIn σ x1 (x2 + ((x7 - ((x2 / x6) - (x2 / x6) / 10 * 10)) * x6))).bind fun r4 => if r4 = x4 then (f_X8_missed_168 K157 n σ x1 x2 x4 (x5 + 1) x6 (x7 + 1)) else (f_X8_missed_168 K157 n σ x1 x2 x4 (x5 + 0) x6 (x7 + 1)))))
def f_X8_missed_157  : Nat → Me → Int32 → Int32 → Int32 → Int32 → Int32 → Option Int32
  | 0, _, _, _, _, _, _ => none
  | n + 1, σ, x1, x2, x4, x5, x6 => if 1000 ≤ x6 then (some x5) else (f_X8_missed_168 (f_X8_missed_157 n) 1000 σ x1 x2 x4 x5 x6 0)
def f_X8_missed_107  (σ : Me) (x1 : Int32) (x4 : Int32) (x6 : Int32) (x7 : Int32) (x8 : Int32) (t0 : Int32) (t1 : Int32) : Option Int32 := if x7 = x8 then (some ((t1 + t0) + 0)) else ((f_X8_checkIn σ x1 (((100 * x6) + (10 * x8)) + x7)).bind fun r8 => if r8 = x4 then (some ((t1 + t0) + 1)) else (some ((t1 + t0) + 0)))
def f_X8_missed_106  (σ : Me) (x1 : Int32) (x4 : Int32) (x6 : Int32) (x7 : Int32) (x8 : Int32) (t0 : Int32) : Option Int32 := f_X8_missed_107 σ x1 x4 x6 x7 x8 0 t0
def f_X8_missed (σ : Me) (x1 : Int32) (x2 : Int32) (x3 : Int32) : Option Int32 := (f_X8_isSeries σ x1).bind fun r10 => if (bI r10) = 0 then (some (-1)) else ((f_X8_in x2.toInt64 0 999).bind fun r12 => if (bI r12) = 0 then (some (-1)) else ((f_X8_in x3.toInt64 0 1).bind fun r14 => if (bI r14) = 0 then (some (-1)) else ((f_X8_checkIn σ x1 x2).bind fun r16 => if x3 = 1 then (if (x2 / 100) = ((x2 / 10) - (x2 / 10) / 10 * 10) then (f_X8_missed_106 σ x1 r16 (x2 / 100) ((x2 / 10) - (x2 / 10) / 10 * 10) (x2 - x2 / 10 * 10) 0) else ((f_X8_checkIn σ x1 (((100 * ((x2 / 10) - (x2 / 10) / 10 * 10)) + (10 * (x2 / 100))) + (x2 - x2 / 10 * 10))).bind fun r19 => if r19 = r16 then (f_X8_missed_107 σ x1 r16 (x2 / 100) ((x2 / 10) - (x2 / 10) / 10 * 10) (x2 - x2 / 10 * 10) 1 0) else (f_X8_missed_106 σ x1 r16 (x2 / 100) ((x2 / 10) - (x2 / 10) / 10 * 10) (x2 - x2 / 10 * 10) 0))) else (f_X8_missed_157 1000 σ x1 x2 r16 0 1))))

def f_X8_note1_51  : Nat → Me → Int32 → Option Me
  | 0, _, _ => none
  | n + 1, σ, x1 => if 112 ≤ x1 then (some (up σ 0 7 ((σ 0 7) + 1))) else (gd (inb x1 112) (gd (inb ((112 * (σ 0 7)) + x1) 672) (f_X8_note1_51 n (up σ 5 ((112 * (σ 0 7)) + x1).toNatClampNeg (σ 4 x1.toNatClampNeg)) (x1 + 1))))
def f_X8_note1_11  : Nat → Me → Int32 → Option Me
  | 0, _, _ => none
  | n + 1, σ, x1 => if 560 ≤ x1 then (f_X8_note1_51 1000 (up σ 0 7 ((σ 0 7) - 1)) 0) else (gd (inb (112 + x1) 672) (gd (inb x1 672) (f_X8_note1_11 n (up σ 5 x1.toNatClampNeg (σ 5 (112 + x1).toNatClampNeg)) (x1 + 1))))
def f_X8_note1 (σ : Me) : Option Me := if (σ 0 7) = 6 then (f_X8_note1_11 1000 σ 0) else (f_X8_note1_51 1000 σ 0)

def f_X8_undo_22  : Nat → Me → Int32 → Option (Me × Int32)
  | 0, _, _ => none
  | n + 1, σ, x1 => if 112 ≤ x1 then (some (σ, σ 0 7)) else (gd (inb ((112 * (σ 0 7)) + x1) 672) (gd (inb x1 112) (f_X8_undo_22 n (up σ 4 x1.toNatClampNeg (σ 5 ((112 * (σ 0 7)) + x1).toNatClampNeg)) (x1 + 1))))
def f_X8_undo (σ : Me) : Option (Me × Int32) := if (σ 0 7) = 0 then (some (σ, (-2))) else (f_X8_undo_22 1000 (up σ 0 7 ((σ 0 7) - 1)) 0)

def f_X8_run (σ : Me) (x1 : Int32) (x2 : Int32) (x3 : Int32) : Option (Me × Int32) := (f_X8_isSeries σ x1).bind fun r1 => if (bI r1) = 0 then (some (σ, (-1))) else ((f_X8_isPress σ x2).bind fun r3 => if (bI r3) = 0 then (some (σ, (-1))) else ((f_X8_in x3.toInt64 1 40).bind fun r5 => if (bI r5) = 0 then (some (σ, (-1))) else (gd (inb ((4 * x1) + x2) 112) ((f_X8_sheets σ x1 x2).bind fun r8 => if ((σ 4 ((4 * x1) + x2).toNatClampNeg) + x3) ≤ r8 then ((f_X8_note1 σ).bind fun s10 => gd (inb ((4 * x1) + x2) 112) (gd (inb ((4 * x1) + x2) 112) (gd (inb x2 25) (some (up s10 4 ((4 * x1) + x2).toNatClampNeg ((s10 4 ((4 * x1) + x2).toNatClampNeg) + x3), x3 * ((up s10 4 ((4 * x1) + x2).toNatClampNeg ((s10 4 ((4 * x1) + x2).toNatClampNeg) + x3)) 2 x2.toNatClampNeg)))))) else (some (σ, (-2)))))))

def f_X8_stands (σ : Me) (x1 : Int32) (x2 : Int32) : Option (Me × Int32) := gd (inb (12 + (σ 4 111)) 112) (some (up (up σ 4 (12 + (σ 4 111)).toNatClampNeg ((1000 * x1) + x2)) 4 111 (((up σ 4 (12 + (σ 4 111)).toNatClampNeg ((1000 * x1) + x2)) 4 111) + 1), σ 4 111))

def f_X8_spoil (σ : Me) (x1 : Int32) (x2 : Int32) : Option (Me × Int32) := (f_X8_isNumber σ x1 x2).bind fun r1 => if (bI r1) = 0 then (some (σ, (-1))) else ((f_X8_isPrinted σ x1 x2).bind fun r3 => if (bI r3) = 0 then (some (σ, (-2))) else ((f_X8_starAt σ x1 x2).bind fun r5 => if r5 = (-4) then (if (σ 4 111) = (σ 2 24) then (some (σ, (-3))) else ((f_X8_note1 σ).bind fun s10 => (f_X8_stands s10 x1 x2).bind fun p11 => some (p11.1, p11.2))) else (some (σ, (-2)))))

def f_X8_numberAt (σ : Me) (x1 : Int32) (x2 : Int32) (x3 : Int32) (x4 : Int32) : Option Int32 := (f_X8_first σ x1 x2).bind fun r1 => (f_X8_sheets σ x1 x2).bind fun r2 => some ((r1 + (x4 * r2)) + x3)

def f_X8_spoilSheet_140  : Nat → Me → Int32 → Int32 → Int32 → Int32 → Int32 → Option (Me × Int32)
  | 0, _, _, _, _, _, _ => none
  | n + 1, σ, x1, x2, x3, x4, x5 => gd (inb x2 25) (if (σ 2 x2.toNatClampNeg) ≤ x5 then (some (σ, x4)) else ((f_X8_numberAt σ x1 x2 x3 x5).bind fun r3 => (f_X8_starAt σ x1 r3).bind fun r4 => if r4 = (-4) then ((f_X8_stands σ x1 r3).bind fun p6 => if 0 ≤ p6.2 then (f_X8_spoilSheet_140 n p6.1 x1 x2 x3 (x4 + 0) (x5 + 1)) else (f_X8_spoilSheet_140 n p6.1 x1 x2 x3 (x4 + 1) (x5 + 1))) else (f_X8_spoilSheet_140 n σ x1 x2 x3 x4 (x5 + 1))))
def f_X8_spoilSheet_42  : Nat → Me → Int32 → Int32 → Int32 → Int32 → Int32 → Option (Me × Int32)
  | 0, _, _, _, _, _, _ => none
  | n + 1, σ, x1, x2, x3, x4, x5 => gd (inb x2 25) (if (σ 2 x2.toNatClampNeg) ≤ x5 then (gd (inb ((4 * x1) + x2) 112) (if (σ 4 ((4 * x1) + x2).toNatClampNeg) ≤ x3 then (some (σ, (-2))) else (if x4 = 0 then (some (σ, (-2))) else (if ((σ 4 111) + x4) ≤ (σ 2 24) then ((f_X8_note1 σ).bind fun s16 => f_X8_spoilSheet_140 1000 s16 x1 x2 x3 x4 0) else (some (σ, (-3))))))) else ((f_X8_numberAt σ x1 x2 x3 x5).bind fun r17 => (f_X8_starAt σ x1 r17).bind fun r18 => if r18 = (-4) then (f_X8_spoilSheet_42 n σ x1 x2 x3 (x4 + 1) (x5 + 1)) else (f_X8_spoilSheet_42 n σ x1 x2 x3 (x4 + 0) (x5 + 1))))
def f_X8_spoilSheet (σ : Me) (x1 : Int32) (x2 : Int32) (x3 : Int32) : Option (Me × Int32) := (f_X8_isSeries σ x1).bind fun r20 => if (bI r20) = 0 then (some (σ, (-1))) else ((f_X8_isPress σ x2).bind fun r22 => if (bI r22) = 0 then (some (σ, (-1))) else ((f_X8_sheets σ x1 x2).bind fun r24 => (f_X8_in x3.toInt64 0 ((r24 - 1).toInt64)).bind fun r25 => if (bI r25) = 0 then (some (σ, (-1))) else (f_X8_spoilSheet_42 1000 σ x1 x2 x3 0 0)))

def f_X8_printed_4  : Nat → Me → Int32 → Int32 → Int32 → Option Int32
  | 0, _, _, _, _ => none
  | n + 1, σ, x1, x2, x3 => if (σ 2 22) ≤ x3 then (some x2) else (gd (inb ((4 * x1) + x3) 112) (gd (inb x3 25) (f_X8_printed_4 n σ x1 (x2 + ((σ 4 ((4 * x1) + x3).toNatClampNeg) * (σ 2 x3.toNatClampNeg))) (x3 + 1))))
def f_X8_printed (σ : Me) (x1 : Int32) : Option Int32 := f_X8_printed_4 1000 σ x1 0 0

def f_X8_spoiled_4  : Nat → Me → Int32 → Int32 → Int32 → Option Int32
  | 0, _, _, _, _ => none
  | n + 1, σ, x1, x2, x3 => if (σ 4 111) ≤ x3 then (some x2) else (gd (inb (12 + x3) 112) (if ((σ 4 (12 + x3).toNatClampNeg) / 1000) = x1 then (f_X8_spoiled_4 n σ x1 (x2 + 1) (x3 + 1)) else (f_X8_spoiled_4 n σ x1 (x2 + 0) (x3 + 1))))
def f_X8_spoiled (σ : Me) (x1 : Int32) : Option Int32 := f_X8_spoiled_4 1000 σ x1 0 0

def f_X8_leftOf_4  : Nat → Me → Int32 → Int32 → Int32 → Option Int32
  | 0, _, _, _, _ => none
  | n + 1, σ, x1, x2, x3 => if (σ 2 22) ≤ x3 then (some x2) else ((f_X8_sheets σ x1 x3).bind fun r3 => gd (inb ((4 * x1) + x3) 112) (f_X8_leftOf_4 n σ x1 (x2 + (r3 - (σ 4 ((4 * x1) + x3).toNatClampNeg))) (x3 + 1)))
def f_X8_leftOf (σ : Me) (x1 : Int32) : Option Int32 := f_X8_leftOf_4 1000 σ x1 0 0

def f_X8_packs (σ : Me) (x1 : Int32) : Option Int32 := (f_X8_whole_2 σ x1).bind fun r1 => some ((r1 + 9) / 10)

def f_X8_isWhole_5  : Nat → Me → Int32 → Int32 → Int32 → Option Bool
  | 0, _, _, _, _ => none
  | n + 1, σ, x1, x2, x3 => if ((10 * x2) + 10) ≤ x3 then (some true) else ((f_X8_whole_2 σ x1).bind fun r2 => if r2 ≤ x3 then (some true) else ((f_X8_isPrinted σ x1 x3).bind fun r4 => if (bI r4) = 0 then (some false) else (f_X8_isWhole_5 n σ x1 x2 (x3 + 1))))
def f_X8_isWhole (σ : Me) (x1 : Int32) (x2 : Int32) : Option Bool := f_X8_isWhole_5 1000 σ x1 x2 (10 * x2)

def f_X8_wholes_4  : Nat → Me → Int32 → Int32 → Int32 → Option Int32
  | 0, _, _, _, _ => none
  | n + 1, σ, x1, x2, x3 => (f_X8_packs σ x1).bind fun r1 => if r1 ≤ x3 then (some x2) else ((f_X8_isWhole σ x1 x3).bind fun r3 => if (bI r3) = 0 then (f_X8_wholes_4 n σ x1 (x2 + 0) (x3 + 1)) else (f_X8_wholes_4 n σ x1 (x2 + 1) (x3 + 1)))
def f_X8_wholes (σ : Me) (x1 : Int32) : Option Int32 := f_X8_wholes_4 1000 σ x1 0 0

def f_X8_series (σ : Me) (x1 : Int32) (x2 : Int32) : Option Int32 := (f_X8_isSeries σ x1).bind fun r1 => if (bI r1) = 0 then (some (-1)) else ((f_X8_in x2.toInt64 0 7).bind fun r3 => if (bI r3) = 0 then (some (-1)) else (if x2 = 0 then (gd (inb ((4 + (6 * x1)) + x2) 25) (some (σ 2 ((4 + (6 * x1)) + x2).toNatClampNeg))) else (if x2 = 1 then (gd (inb ((4 + (6 * x1)) + x2) 25) (some (σ 2 ((4 + (6 * x1)) + x2).toNatClampNeg))) else (if x2 = 2 then ((f_X8_whole_2 σ x1).bind fun r10 => some r10) else (if x2 = 3 then ((f_X8_printed σ x1).bind fun r12 => some r12) else (if x2 = 4 then ((f_X8_spoiled σ x1).bind fun r14 => some r14) else (if x2 = 5 then ((f_X8_leftOf σ x1).bind fun r16 => some r16) else (if x2 = 6 then ((f_X8_packs σ x1).bind fun r18 => some r18) else ((f_X8_wholes σ x1).bind fun r19 => some r19)))))))))

def f_X8_share (σ : Me) (x1 : Int32) (x2 : Int32) (x3 : Int32) : Option Int32 := (f_X8_isSeries σ x1).bind fun r1 => if (bI r1) = 0 then (some (-1)) else ((f_X8_isPress σ x2).bind fun r3 => if (bI r3) = 0 then (some (-1)) else ((f_X8_in x3.toInt64 0 3).bind fun r5 => if (bI r5) = 0 then (some (-1)) else (if x3 = 0 then ((f_X8_sheets σ x1 x2).bind fun r13 => some r13) else (if x3 = 1 then (gd (inb ((4 * x1) + x2) 112) (some (σ 4 ((4 * x1) + x2).toNatClampNeg))) else (if x3 = 2 then ((f_X8_first σ x1 x2).bind fun r11 => some r11) else (gd (inb x2 25) (some (σ 2 x2.toNatClampNeg))))))))

def f_X8_where (σ : Me) (x1 : Int32) (x2 : Int32) (x3 : Int32) : Option Int32 := (f_X8_isNumber σ x1 x2).bind fun r1 => if (bI r1) = 0 then (some (-1)) else ((f_X8_in x3.toInt64 0 2).bind fun r3 => if (bI r3) = 0 then (some (-1)) else ((f_X8_pressOf σ x1 x2).bind fun r5 => if x3 = 0 then (some r5) else (if x3 = 1 then ((f_X8_sheetOf σ x1 x2).bind fun r11 => some r11) else ((f_X8_first σ x1 r5).bind fun r8 => (f_X8_sheets σ x1 r5).bind fun r9 => gd (decide (¬ r9 = 0)) (some ((x2 - r8) / r9))))))

def f_X8_number_58  (σ : Me) (x1 : Int32) (x2 : Int32) (x3 : Int32) (x4 : Int32) (t0 : Int32) : Option Int32 := if t0 = 0 then (some (-1)) else ((f_X8_numberAt σ x1 x2 x3 x4).bind fun r2 => some r2)
def f_X8_number_57  (σ : Me) (x1 : Int32) (x2 : Int32) (x3 : Int32) (x4 : Int32) : Option Int32 := f_X8_number_58 σ x1 x2 x3 x4 0
def f_X8_number (σ : Me) (x1 : Int32) (x2 : Int32) (x3 : Int32) (x4 : Int32) : Option Int32 := (f_X8_isSeries σ x1).bind fun r3 => if (bI r3) = 0 then (f_X8_number_57 σ x1 x2 x3 x4) else ((f_X8_isPress σ x2).bind fun r5 => if (bI r5) = 0 then (f_X8_number_57 σ x1 x2 x3 x4) else ((f_X8_sheets σ x1 x2).bind fun r7 => (f_X8_in x3.toInt64 0 ((r7 - 1).toInt64)).bind fun r8 => if (bI r8) = 0 then (f_X8_number_57 σ x1 x2 x3 x4) else (gd (inb x2 25) ((f_X8_in x4.toInt64 0 (((σ 2 x2.toNatClampNeg) - 1).toInt64)).bind fun r11 => if (bI r11) = 0 then (f_X8_number_57 σ x1 x2 x3 x4) else (f_X8_number_58 σ x1 x2 x3 x4 1)))))

def f_X8_note (σ : Me) (x1 : Int32) (x2 : Int32) : Option Int32 := (f_X8_isNumber σ x1 x2).bind fun r1 => if (bI r1) = 0 then (some (-1)) else ((f_X8_isPrinted σ x1 x2).bind fun r3 => if (bI r3) = 0 then (some 0) else ((f_X8_starAt σ x1 x2).bind fun r5 => if r5 = (-4) then (some 1) else (some 2)))

def f_X8_star (σ : Me) (x1 : Int32) (x2 : Int32) : Option Int32 := (f_X8_in x1.toInt64 0 (((σ 2 24) - 1).toInt64)).bind fun r2 => if (bI r2) = 0 then (some (-1)) else ((f_X8_in x2.toInt64 0 2).bind fun r4 => if (bI r4) = 0 then (some (-1)) else (if x2 = 2 then ((f_X8_checkOf 0 1 x1).bind fun r12 => some r12) else (if x1 < (σ 4 111) then (if x2 = 0 then (gd (inb (12 + x1) 112) (some ((σ 4 (12 + x1).toNatClampNeg) / 1000))) else (gd (inb (12 + x1) 112) (some ((σ 4 (12 + x1).toNatClampNeg) - (σ 4 (12 + x1).toNatClampNeg) / 1000 * 1000)))) else (some (-4)))))

def f_X8_starOf (σ : Me) (x1 : Int32) (x2 : Int32) : Option Int32 := (f_X8_isNumber σ x1 x2).bind fun r1 => if (bI r1) = 0 then (some (-1)) else ((f_X8_starAt σ x1 x2).bind fun r3 => some r3)

def f_X8_judgeStar (σ : Me) (x1 : Int32) (x2 : Int32) : Option Int32 := if x1 < (σ 2 24) then ((f_X8_checkOf 0 1 x1).bind fun r3 => if x2 = r3 then (if x1 < (σ 4 111) then (some 0) else (some 4)) else (some 3)) else (some 2)

def f_X8_judge_86  (σ : Me) (x2 : Int32) (x3 : Int32) (x4 : Int32) : Option Int32 := if x4 = (σ 2 23) then (some 1) else ((f_X8_isNumber σ x4 x2).bind fun r3 => if (bI r3) = 0 then (some 2) else ((f_X8_checkIn σ x4 x2).bind fun r5 => if x3 = r5 then ((f_X8_isPrinted σ x4 x2).bind fun r7 => if (bI r7) = 0 then (some 4) else ((f_X8_starAt σ x4 x2).bind fun r9 => if r9 = (-4) then (some 0) else (some 5))) else (some 3)))
def f_X8_judge_52  : Nat → Me → Int32 → Int32 → Int32 → Int32 → Option Int32
  | 0, _, _, _, _, _ => none
  | n + 1, σ, x1, x2, x3, x4 => if (σ 2 23) ≤ x4 then (f_X8_judge_86 σ x2 x3 x4) else (gd (inb (4 + (6 * x4)) 25) (if (σ 2 (4 + (6 * x4)).toNatClampNeg) = x1 then (f_X8_judge_86 σ x2 x3 x4) else (f_X8_judge_52 n σ x1 x2 x3 (x4 + 1))))
def f_X8_judge (σ : Me) (x1 : Int32) (x2 : Int32) (x3 : Int32) : Option Int32 := (f_X8_in x1.toInt64 0 26).bind fun r15 => if (bI r15) = 0 then (some (-1)) else ((f_X8_in x2.toInt64 0 999).bind fun r17 => if (bI r17) = 0 then (some (-1)) else ((f_X8_in x3.toInt64 0 99).bind fun r19 => if (bI r19) = 0 then (some (-1)) else (if x1 = 0 then ((f_X8_judgeStar σ x2 x3).bind fun r22 => some r22) else (f_X8_judge_52 1000 σ x1 x2 x3 0))))

def f_X8_pack (σ : Me) (x1 : Int32) (x2 : Int32) (x3 : Int32) : Option Int32 := (f_X8_isSeries σ x1).bind fun r1 => if (bI r1) = 0 then (some (-1)) else ((f_X8_packs σ x1).bind fun r3 => (f_X8_in x2.toInt64 0 ((r3 - 1).toInt64)).bind fun r4 => if (bI r4) = 0 then (some (-1)) else ((f_X8_in x3.toInt64 0 9).bind fun r6 => if (bI r6) = 0 then (some (-1)) else ((f_X8_isWhole σ x1 x2).bind fun r8 => if (bI r8) = 0 then (some (-2)) else ((f_X8_whole_2 σ x1).bind fun r10 => if ((10 * x2) + x3) < r10 then ((f_X8_starAt σ x1 ((10 * x2) + x3)).bind fun r12 => if r12 = (-4) then (some ((10 * x2) + x3)) else (some (1000 + r12))) else (some (-4))))))

def f_X8_count_61  : Nat → Me → Int32 → Int32 → Int32 → Int32 → Int32 → Option Int32
  | 0, _, _, _, _, _, _ => none
  | n + 1, σ, x1, x2, x3, x4, x5 => if 12 ≤ x5 then (if x1 = 0 then (some (σ 2 22)) else (if x1 = 1 then (some (σ 2 23)) else (if x1 = 2 then (some (σ 2 24)) else (if x1 = 3 then (some (σ 4 111)) else (if x1 = 4 then (some x2) else (if x1 = 5 then (some (σ 4 111)) else (if x1 = 6 then (some x3) else (if x1 = 7 then (some x4) else (if x1 = 8 then (some (σ 0 7)) else (if x1 = 9 then (some (σ 0 0)) else (some (-1)))))))))))) else (gd (inb x5 112) (f_X8_count_61 n σ x1 x2 (x3 + (σ 4 x5.toNatClampNeg)) x4 (x5 + 1)))
def f_X8_count_10  : Nat → Me → Int32 → Int32 → Int32 → Int32 → Int32 → Option Int32
  | 0, _, _, _, _, _, _ => none
  | n + 1, σ, x1, x2, x3, x4, x5 => if (σ 2 23) ≤ x5 then (f_X8_count_61 1000 σ x1 x2 x3 x4 0) else ((f_X8_printed σ x5).bind fun r20 => if x1 = 7 then ((f_X8_wholes σ x5).bind fun r22 => f_X8_count_10 n σ x1 (x2 + r20) x3 (x4 + r22) (x5 + 1)) else (f_X8_count_10 n σ x1 (x2 + r20) x3 (x4 + 0) (x5 + 1)))
def f_X8_count (σ : Me) (x1 : Int32) : Option Int32 := f_X8_count_10 1000 σ x1 0 0 0 0
end
section
set_option maxHeartbeats 4000000 in
set_option maxRecDepth 100000 in
theorem c_J9_max_7cf53 (l : Launch) (D : va_G) {cI cH cE cJ : ClassId} {a : Nat → Nat} (hw : ∀ σ, va_D (Pc a) (wc cI cH cE a σ)) {σ : Me} {x0 : Int32} {x1 : Int32} {r : Int32} (hf : f_J9_max_7cf53 x0 x1 = some r) : Mq l D (tyc cI cH cE cJ) (wc cI cH cE a) (Pc a) yJ9_max_7cf53 cJ9_max_7cf53 2 (Option.some Jvm.ClassFile.FieldType.int) 0 [.int x0, .int x1] σ (qI D (wc cI cH cE a) (Pc a) σ r) := by
  refine mOf (by decide +kernel) hw (Nat.le_of_ble_eq_true rfl) [(0, .int x0), (1, .int x1)] rfl ?_
  intro p e s m args below meth c C hr
  unfold f_J9_max_7cf53 at hf
  refine g_iload_n (pc := 0) C dJ9_max_7cf53_0 0 rfl rfl ?_
  refine g_iload_n (pc := 1) C dJ9_max_7cf53_1 1 rfl rfl ?_
  refine g_icmp_lt (pc := 2) C 9 dJ9_max_7cf53_2 (by decide) (fun q1 => ?_) (fun q1 => ?_)
  · replace hf := (if_pos q1).symm.trans hf
    refine g_iload_n (pc := 9) C dJ9_max_7cf53_9 1 rfl rfl ?_
    cases hf
    exact g_iret (pc := 10) C hr dJ9_max_7cf53_10
  · replace hf := (if_neg q1).symm.trans hf
    refine g_iload_n (pc := 5) C dJ9_max_7cf53_5 0 rfl rfl ?_
    refine g_goto (pc := 6) C 10 dJ9_max_7cf53_6 (by decide) ?_
    cases hf
    exact g_iret (pc := 10) C hr dJ9_max_7cf53_10

set_option maxHeartbeats 4000000 in
set_option maxRecDepth 100000 in
theorem c_J9_floorMod_7cf53 (l : Launch) (D : va_G) {cI cH cE cJ : ClassId} {a : Nat → Nat} (hw : ∀ σ, va_D (Pc a) (wc cI cH cE a σ)) {σ : Me} {x0 : Int32} {x1 : Int32} {r : Int32} (hf : f_J9_floorMod_7cf53 x0 x1 = some r) : Mq l D (tyc cI cH cE cJ) (wc cI cH cE a) (Pc a) yJ9_floorMod_7cf53 cJ9_floorMod_7cf53 3 (Option.some Jvm.ClassFile.FieldType.int) 0 [.int x0, .int x1] σ (qI D (wc cI cH cE a) (Pc a) σ r) := by
  refine mOf (by decide +kernel) hw (Nat.le_of_ble_eq_true rfl) [(0, .int x0), (1, .int x1)] rfl ?_
  intro p e s m args below meth c C hr
  unfold f_J9_floorMod_7cf53 at hf
  refine g_iload_n (pc := 0) C dJ9_floorMod_7cf53_0 0 rfl rfl ?_
  refine g_iload_n (pc := 1) C dJ9_floorMod_7cf53_1 1 rfl rfl ?_
  obtain ⟨q1, hf⟩ := gd_some hf
  refine g_irem (pc := 2) C dJ9_floorMod_7cf53_2 (of_decide_eq_true q1) ?_
  refine g_istore_n (pc := 3) C [(2, .int (x0 - x0 / x1 * x1)), (0, .int x0), (1, .int x1)] dJ9_floorMod_7cf53_3 rfl (by decide) rfl ?_
  refine g_iload_n (pc := 4) C dJ9_floorMod_7cf53_4 1 rfl rfl ?_
  refine g_iload_n (pc := 5) C dJ9_floorMod_7cf53_5 2 rfl rfl ?_
  refine g_ixor (pc := 6) C dJ9_floorMod_7cf53_6 ?_
  refine g_if_ge (pc := 7) C 18 dJ9_floorMod_7cf53_7 (by decide) (fun q2 => ?_) (fun q2 => ?_)
  · replace hf := (if_pos q2).symm.trans hf
    refine g_iload_n (pc := 18) C dJ9_floorMod_7cf53_18 0 rfl rfl ?_
    cases hf
    exact g_iret (pc := 19) C hr dJ9_floorMod_7cf53_19
  · replace hf := (if_neg q2).symm.trans hf
    refine g_iload_n (pc := 10) C dJ9_floorMod_7cf53_10 0 rfl rfl ?_
    refine g_if_eq (pc := 11) C 18 dJ9_floorMod_7cf53_11 (by decide) (fun q3 => ?_) (fun q3 => ?_)
    · replace hf := (if_pos q3).symm.trans hf
      refine g_iload_n (pc := 18) C dJ9_floorMod_7cf53_18 0 rfl rfl ?_
      cases hf
      exact g_iret (pc := 19) C hr dJ9_floorMod_7cf53_19
    · replace hf := (if_neg q3).symm.trans hf
      refine g_iload_n (pc := 14) C dJ9_floorMod_7cf53_14 0 rfl rfl ?_
      refine g_iload_n (pc := 15) C dJ9_floorMod_7cf53_15 2 rfl rfl ?_
      refine g_iadd (pc := 16) C dJ9_floorMod_7cf53_16 ?_
      cases hf
      exact g_iret (pc := 17) C hr dJ9_floorMod_7cf53_17

set_option maxHeartbeats 4000000 in
set_option maxRecDepth 100000 in
theorem c_X1_make (l : Launch) (D : va_G) {cI cH cE cJ : ClassId} {a : Nat → Nat} (hw : ∀ σ, va_D (Pc a) (wc cI cH cE a σ)) {σ : Me} {x0 : Int32} {x1 : Int32} {r : Int32} (hf : f_X1_make x0 x1 = some r) : Mq l D (tyc cI cH cE cJ) (wc cI cH cE a) (Pc a) yX1_make cX1_make 3 (Option.some Jvm.ClassFile.FieldType.int) 0 [.int x0, .int x1] σ (qI D (wc cI cH cE a) (Pc a) σ r) := by
  refine mOf (plainFor_of_name (by decide)) hw (Nat.le_of_ble_eq_true rfl) [(0, .int x0), (1, .int x1)] rfl ?_
  intro p e s m args below meth c C hr
  have b20 : ∀ (t0 : Int32) (hf : f_X1_make_20 x0 x1 t0 = some r), Gg p l e (rmd 0) s m args below meth c D (Pc a) (wc cI cH cE a) 3 0 0 (MQ below ((qI D (wc cI cH cE a) (Pc a) σ r) s.heap.size) args s 0 0 (fR (Pc a) s.heap.size)) σ [(0, .int x0), (1, .int x1)] 20 [.int t0] := by
    intro  t0 hf
    unfold f_X1_make_20 at hf
    refine g_istore_n (pc := 20) C [(2, .int t0), (0, .int x0), (1, .int x1)] dX1_make_20 rfl (by decide) rfl ?_
    refine g_iload_n (pc := 21) C dX1_make_21 1 rfl rfl ?_
    refine g_iconst (pc := 22) C dX1_make_22 ic_5 ?_
    refine g_icmp_ge (pc := 23) C 30 dX1_make_23 (by decide) (fun q1 => ?_) (fun q1 => ?_)
    · replace hf := (if_pos q1).symm.trans hf
      refine g_iconst (pc := 30) C dX1_make_30 ic_0 ?_
      refine g_iload_n (pc := 31) C dX1_make_31 2 rfl rfl ?_
      refine g_iconst (pc := 32) C dX1_make_32 ic_5 ?_
      refine g_icmp_ge (pc := 33) C 40 dX1_make_33 (by decide) (fun q2 => ?_) (fun q2 => ?_)
      · replace hf := (if_pos q2).symm.trans hf
        refine g_iconst (pc := 40) C dX1_make_40 ic_0 ?_
        refine g_icmp_ne (pc := 41) C 48 dX1_make_41 (by decide) (fun q3 => ?_) (fun q3 => ?_)
        · replace hf := (if_neg q3).symm.trans hf
          refine g_iconst (pc := 48) C dX1_make_48 ic_5 ?_
          refine g_iload_n (pc := 49) C dX1_make_49 0 rfl rfl ?_
          refine g_iadd (pc := 50) C dX1_make_50 ?_
          cases hf
          exact g_iret (pc := 51) C hr dX1_make_51
        · replace hf := (if_pos q3).symm.trans hf
          refine g_iload_n (pc := 44) C dX1_make_44 0 rfl rfl ?_
          refine g_goto (pc := 45) C 51 dX1_make_45 (by decide) ?_
          cases hf
          exact g_iret (pc := 51) C hr dX1_make_51
      · replace hf := (if_neg q2).symm.trans hf
        refine g_iconst (pc := 36) C dX1_make_36 ic_1 ?_
        refine g_goto (pc := 37) C 41 dX1_make_37 (by decide) ?_
        refine g_icmp_ne (pc := 41) C 48 dX1_make_41 (by decide) (fun q4 => ?_) (fun q4 => ?_)
        · replace hf := (if_neg q4).symm.trans hf
          refine g_iconst (pc := 48) C dX1_make_48 ic_5 ?_
          refine g_iload_n (pc := 49) C dX1_make_49 0 rfl rfl ?_
          refine g_iadd (pc := 50) C dX1_make_50 ?_
          cases hf
          exact g_iret (pc := 51) C hr dX1_make_51
        · replace hf := (if_pos q4).symm.trans hf
          refine g_iload_n (pc := 44) C dX1_make_44 0 rfl rfl ?_
          refine g_goto (pc := 45) C 51 dX1_make_45 (by decide) ?_
          cases hf
          exact g_iret (pc := 51) C hr dX1_make_51
    · replace hf := (if_neg q1).symm.trans hf
      refine g_iconst (pc := 26) C dX1_make_26 ic_1 ?_
      refine g_goto (pc := 27) C 31 dX1_make_27 (by decide) ?_
      refine g_iload_n (pc := 31) C dX1_make_31 2 rfl rfl ?_
      refine g_iconst (pc := 32) C dX1_make_32 ic_5 ?_
      refine g_icmp_ge (pc := 33) C 40 dX1_make_33 (by decide) (fun q5 => ?_) (fun q5 => ?_)
      · replace hf := (if_pos q5).symm.trans hf
        refine g_iconst (pc := 40) C dX1_make_40 ic_0 ?_
        refine g_icmp_ne (pc := 41) C 48 dX1_make_41 (by decide) (fun q6 => ?_) (fun q6 => ?_)
        · replace hf := (if_neg q6).symm.trans hf
          refine g_iconst (pc := 48) C dX1_make_48 ic_5 ?_
          refine g_iload_n (pc := 49) C dX1_make_49 0 rfl rfl ?_
          refine g_iadd (pc := 50) C dX1_make_50 ?_
          cases hf
          exact g_iret (pc := 51) C hr dX1_make_51
        · replace hf := (if_pos q6).symm.trans hf
          refine g_iload_n (pc := 44) C dX1_make_44 0 rfl rfl ?_
          refine g_goto (pc := 45) C 51 dX1_make_45 (by decide) ?_
          cases hf
          exact g_iret (pc := 51) C hr dX1_make_51
      · replace hf := (if_neg q5).symm.trans hf
        refine g_iconst (pc := 36) C dX1_make_36 ic_1 ?_
        refine g_goto (pc := 37) C 41 dX1_make_37 (by decide) ?_
        refine g_icmp_ne (pc := 41) C 48 dX1_make_41 (by decide) (fun q7 => ?_) (fun q7 => ?_)
        · replace hf := (if_neg q7).symm.trans hf
          refine g_iconst (pc := 48) C dX1_make_48 ic_5 ?_
          refine g_iload_n (pc := 49) C dX1_make_49 0 rfl rfl ?_
          refine g_iadd (pc := 50) C dX1_make_50 ?_
          cases hf
          exact g_iret (pc := 51) C hr dX1_make_51
        · replace hf := (if_pos q7).symm.trans hf
          refine g_iload_n (pc := 44) C dX1_make_44 0 rfl rfl ?_
          refine g_goto (pc := 45) C 51 dX1_make_45 (by decide) ?_
          cases hf
          exact g_iret (pc := 51) C hr dX1_make_51
  unfold f_X1_make at hf
  refine g_iload_n (pc := 0) C dX1_make_0 0 rfl rfl ?_
  refine g_iconst (pc := 1) C dX1_make_1 ic_5 ?_
  refine g_icmp_ge (pc := 2) C 13 dX1_make_2 (by decide) (fun q8 => ?_) (fun q8 => ?_)
  · replace hf := (if_pos q8).symm.trans hf
    refine g_iload_n (pc := 13) C dX1_make_13 0 rfl rfl ?_
    refine g_iload_n (pc := 14) C dX1_make_14 1 rfl rfl ?_
    refine g_isub (pc := 15) C dX1_make_15 ?_
    refine g_iconst (pc := 16) C dX1_make_16 ic_5 ?_
    refine g_iadd (pc := 17) C dX1_make_17 ?_
    refine g_iconst (pc := 18) C dX1_make_18 ic_5 ?_
    refine g_irem (pc := 19) C dX1_make_19 (by decide) ?_
    exact g_sub [0, 1] rfl (b20 (((x0 - x1) + 5) - ((x0 - x1) + 5) / 5 * 5) hf)
  · replace hf := (if_neg q8).symm.trans hf
    refine g_iload_n (pc := 5) C dX1_make_5 0 rfl rfl ?_
    refine g_iload_n (pc := 6) C dX1_make_6 1 rfl rfl ?_
    refine g_iadd (pc := 7) C dX1_make_7 ?_
    refine g_iconst (pc := 8) C dX1_make_8 ic_5 ?_
    refine g_irem (pc := 9) C dX1_make_9 (by decide) ?_
    refine g_goto (pc := 10) C 20 dX1_make_10 (by decide) ?_
    exact g_sub [0, 1] rfl (b20 ((x0 + x1) - (x0 + x1) / 5 * 5) hf)

set_option maxHeartbeats 4000000 in
set_option maxRecDepth 100000 in
theorem c_X7_isFromTo (l : Launch) (D : va_G) {cI cH cE cJ : ClassId} {a : Nat → Nat} (hw : ∀ σ, va_D (Pc a) (wc cI cH cE a σ)) {σ : Me} {x0 : Int32} {x1 : Int32} {x2 : Int32} {r : Bool} (hf : f_X7_isFromTo x0 x1 x2 = some r) : Mq l D (tyc cI cH cE cJ) (wc cI cH cE a) (Pc a) yX7_isFromTo cX7_isFromTo 3 (Option.some Jvm.ClassFile.FieldType.boolean) 0 [.int x0, .int x1, .int x2] σ (qI D (wc cI cH cE a) (Pc a) σ (bI r)) := by
  refine mOf (plainFor_of_name (by decide)) hw (Nat.le_of_ble_eq_true rfl) [(0, .int x0), (1, .int x1), (2, .int x2)] rfl ?_
  intro p e s m args below meth c C hr
  unfold f_X7_isFromTo at hf
  refine g_iload_n (pc := 0) C dX7_isFromTo_0 0 rfl rfl ?_
  refine g_iload_n (pc := 1) C dX7_isFromTo_1 1 rfl rfl ?_
  refine g_icmp_lt (pc := 2) C 14 dX7_isFromTo_2 (by decide) (fun q1 => ?_) (fun q1 => ?_)
  · replace hf := (if_pos q1).symm.trans hf
    refine g_iconst (pc := 14) C dX7_isFromTo_14 ic_0 ?_
    cases hf
    exact g_zret (pc := 15) (b := false) C hr dX7_isFromTo_15
  · replace hf := (if_neg q1).symm.trans hf
    refine g_iload_n (pc := 5) C dX7_isFromTo_5 0 rfl rfl ?_
    refine g_iload_n (pc := 6) C dX7_isFromTo_6 2 rfl rfl ?_
    refine g_icmp_gt (pc := 7) C 14 dX7_isFromTo_7 (by decide) (fun q2 => ?_) (fun q2 => ?_)
    · replace hf := (if_pos q2).symm.trans hf
      refine g_iconst (pc := 14) C dX7_isFromTo_14 ic_0 ?_
      cases hf
      exact g_zret (pc := 15) (b := false) C hr dX7_isFromTo_15
    · replace hf := (if_neg q2).symm.trans hf
      refine g_iconst (pc := 10) C dX7_isFromTo_10 ic_1 ?_
      refine g_goto (pc := 11) C 15 dX7_isFromTo_11 (by decide) ?_
      cases hf
      exact g_zret (pc := 15) (b := true) C hr dX7_isFromTo_15

set_option maxHeartbeats 4000000 in
set_option maxRecDepth 100000 in
theorem c_X1_turned (l : Launch) (D : va_G) {cI cH cE cJ : ClassId} {a : Nat → Nat} (hw : ∀ σ, va_D (Pc a) (wc cI cH cE a σ)) {σ : Me} {x0 : Int32} {x1 : Int32} {r : Int32} (hf : f_X1_turned x0 x1 = some r) : Mq l D (tyc cI cH cE cJ) (wc cI cH cE a) (Pc a) yX1_turned cX1_turned 4 (Option.some Jvm.ClassFile.FieldType.int) 1 [.int x0, .int x1] σ (qI D (wc cI cH cE a) (Pc a) σ r) := by
  refine mOf (plainFor_of_name (by decide)) hw (Nat.le_of_ble_eq_true rfl) [(0, .int x0), (1, .int x1)] rfl ?_
  intro p e s m args below meth c C hr
  have b4 : ∀ (n : Nat) (x2 : Int32) (x3 : Int32) (hf : f_X1_turned_4 n x1 x2 x3 = some r), Gg p l e (rmd 1) s m args below meth c D (Pc a) (wc cI cH cE a) 4 0 0 (MQ below ((qI D (wc cI cH cE a) (Pc a) σ r) s.heap.size) args s 0 0 (fR (Pc a) s.heap.size)) σ [(1, .int x1), (2, .int x2), (3, .int x3)] 4 [] := by
    intro n
    induction n with
    | zero => intro x2 x3 hf; exact absurd hf (by simp [f_X1_turned_4])
    | succ n ih =>
      intro x2 x3 hf
      rw [f_X1_turned_4] at hf
      refine g_iload_n (pc := 4) C dX1_turned_4 2 rfl rfl ?_
      refine g_iload_n (pc := 5) C dX1_turned_5 0 rfl rfl ?_
      refine g_icmp_ge (pc := 6) C 35 dX1_turned_6 (by decide) (fun q1 => ?_) (fun q1 => ?_)
      · replace hf := (if_pos q1).symm.trans hf
        refine g_iload_n (pc := 35) C dX1_turned_35 1 rfl rfl ?_
        cases hf
        exact g_iret (pc := 36) C hr dX1_turned_36
      · replace hf := (if_neg q1).symm.trans hf
        refine g_iload_n (pc := 9) C dX1_turned_9 1 rfl rfl ?_
        refine g_iconst (pc := 10) C dX1_turned_10 ic_0 ?_
        refine g_bipush (pc := 11) C dX1_turned_11 bp_9 ?_
        obtain ⟨r2, h2, hf⟩ := bd_some hf
        refine g_cNi (pc := 13) C (st := []) jW.rf (c_X7_isFromTo l D hw h2) y_X7_isFromTo tn_29 rfl ⟨by decide, by decide⟩ ⟨Nat.zero_le _, Nat.zero_le _⟩ (Nat.le_of_ble_eq_true rfl) dX1_turned_13 rfl ?_
        refine g_if_eq (pc := 16) C 27 dX1_turned_16 (by decide) (fun q3 => ?_) (fun q3 => ?_)
        · replace hf := (if_pos q3).symm.trans hf
          refine g_iconst (pc := 27) C dX1_turned_27 ic_0 ?_
          refine g_istore_n (pc := 28) C [(2, .int 0), (1, .int x1), (3, .int x3)] dX1_turned_28 rfl (by decide) rfl ?_
          refine g_iinc (pc := 29) C [(3, .int (x3 + 1)), (2, .int 0), (1, .int x1)] 2 dX1_turned_29 rfl ic_1 (by decide) rfl ?_
          refine g_goto (pc := 32) C 4 dX1_turned_32 (by decide) ?_
          exact g_sub [2, 1, 0] rfl (ih 0 (x3 + 1) hf)
        · replace hf := (if_neg q3).symm.trans hf
          refine g_turned (pc := 19) C tw_531 dX1_turned_19 (fun tt4 htt4 => ?_)
          refine g_iload_n (pc := 22) C dX1_turned_22 1 rfl rfl ?_
          obtain ⟨q5, hf⟩ := gd_some hf
          refine g_tald (pc := 23) C htt4 q5 dX1_turned_23 ?_
          refine g_goto (pc := 24) C 28 dX1_turned_24 (by decide) ?_
          refine g_istore_n (pc := 28) C [(2, .int (turnT x2.toNatClampNeg)), (1, .int x1), (3, .int x3)] dX1_turned_28 rfl (by decide) rfl ?_
          refine g_iinc (pc := 29) C [(3, .int (x3 + 1)), (2, .int (turnT x2.toNatClampNeg)), (1, .int x1)] 2 dX1_turned_29 rfl ic_1 (by decide) rfl ?_
          refine g_goto (pc := 32) C 4 dX1_turned_32 (by decide) ?_
          exact g_sub [2, 1, 0] rfl (ih (turnT x2.toNatClampNeg) (x3 + 1) hf)
  unfold f_X1_turned at hf
  refine g_iload_n (pc := 0) C dX1_turned_0 0 rfl rfl ?_
  refine g_istore_n (pc := 1) C [(2, .int x0), (0, .int x0), (1, .int x1)] dX1_turned_1 rfl (by decide) rfl ?_
  refine g_iconst (pc := 2) C dX1_turned_2 ic_0 ?_
  refine g_istore_n (pc := 3) C [(3, .int 0), (2, .int x0), (0, .int x0), (1, .int x1)] dX1_turned_3 rfl (by decide) rfl ?_
  exact g_sub [3, 1, 0] rfl (b4 1000 x0 0 hf)

set_option maxHeartbeats 4000000 in
set_option maxRecDepth 100000 in
theorem c_X1_byTurns (l : Launch) (D : va_G) {cI cH cE cJ : ClassId} {a : Nat → Nat} (hw : ∀ σ, va_D (Pc a) (wc cI cH cE a σ)) {σ : Me} {x0 : Int32} {x1 : Int32} {x2 : Int32} {x3 : Int32} {r : Int32} (hf : f_X1_byTurns x0 x1 x2 x3 = some r) : Mq l D (tyc cI cH cE cJ) (wc cI cH cE a) (Pc a) yX1_byTurns cX1_byTurns 5 (Option.some Jvm.ClassFile.FieldType.int) 2 [.int x0, .int x1, .int x2, .int x3] σ (qI D (wc cI cH cE a) (Pc a) σ r) := by
  refine mOf (plainFor_of_name (by decide)) hw (Nat.le_of_ble_eq_true rfl) [(0, .int x0), (1, .int x1), (2, .int x2), (3, .int x3)] rfl ?_
  intro p e s m args below meth c C hr
  unfold f_X1_byTurns at hf
  refine g_iload_n (pc := 0) C dX1_byTurns_0 0 rfl rfl ?_
  refine g_bipush (pc := 1) C dX1_byTurns_1 bp_10 ?_
  refine g_irem (pc := 3) C dX1_byTurns_3 (by decide) ?_
  refine g_istore (pc := 4) C [(4, .int (x0 - x0 / 10 * 10)), (0, .int x0), (1, .int x1), (2, .int x2), (3, .int x3)] dX1_byTurns_4 (by decide) rfl ?_
  refine g_iload (pc := 6) C dX1_byTurns_6 0 rfl ?_
  refine g_iload_n (pc := 8) C dX1_byTurns_8 2 rfl rfl ?_
  refine g_iconst (pc := 9) C dX1_byTurns_9 ic_1 ?_
  obtain ⟨r1, h1, hf⟩ := bd_some hf
  refine g_cSi (pc := 10) C (st := [.int (x0 - x0 / 10 * 10)]) jW.rf (c_X1_turned l D hw h1) y_X1_turned tw_527 rfl ⟨by decide, by decide⟩ ⟨Nat.zero_le _, Nat.zero_le _⟩ (Nat.le_of_ble_eq_true rfl) dX1_byTurns_10 rfl ?_
  obtain ⟨r2, h2, hf⟩ := bd_some hf
  refine g_cSi (pc := 13) C (st := []) jW.rf (c_X1_make l D hw h2) y_X1_make tw_533 rfl ⟨by decide, by decide⟩ ⟨Nat.zero_le _, Nat.zero_le _⟩ (Nat.le_of_ble_eq_true rfl) dX1_byTurns_13 rfl ?_
  refine g_istore (pc := 16) C [(4, .int r2), (0, .int x0), (1, .int x1), (2, .int x2), (3, .int x3)] dX1_byTurns_16 (by decide) rfl ?_
  refine g_iload (pc := 18) C dX1_byTurns_18 0 rfl ?_
  refine g_iload_n (pc := 20) C dX1_byTurns_20 3 rfl rfl ?_
  refine g_iconst (pc := 21) C dX1_byTurns_21 ic_2 ?_
  obtain ⟨r3, h3, hf⟩ := bd_some hf
  refine g_cSi (pc := 22) C (st := [.int r2]) jW.rf (c_X1_turned l D hw h3) y_X1_turned tw_527 rfl ⟨by decide, by decide⟩ ⟨Nat.zero_le _, Nat.zero_le _⟩ (Nat.le_of_ble_eq_true rfl) dX1_byTurns_22 rfl ?_
  obtain ⟨r4, h4, hf⟩ := bd_some hf
  refine g_cSi (pc := 25) C (st := []) jW.rf (c_X1_make l D hw h4) y_X1_make tw_533 rfl ⟨by decide, by decide⟩ ⟨Nat.zero_le _, Nat.zero_le _⟩ (Nat.le_of_ble_eq_true rfl) dX1_byTurns_25 rfl ?_
  refine g_istore (pc := 28) C [(4, .int r4), (0, .int x0), (1, .int x1), (2, .int x2), (3, .int x3)] dX1_byTurns_28 (by decide) rfl ?_
  refine g_iload (pc := 30) C dX1_byTurns_30 0 rfl ?_
  refine g_iload_n (pc := 32) C dX1_byTurns_32 4 rfl rfl ?_
  refine g_iconst (pc := 33) C dX1_byTurns_33 ic_3 ?_
  obtain ⟨r5, h5, hf⟩ := bd_some hf
  refine g_cSi (pc := 34) C (st := [.int r4]) jW.rf (c_X1_turned l D hw h5) y_X1_turned tw_527 rfl ⟨by decide, by decide⟩ ⟨Nat.zero_le _, Nat.zero_le _⟩ (Nat.le_of_ble_eq_true rfl) dX1_byTurns_34 rfl ?_
  obtain ⟨r6, h6, hf⟩ := bd_some hf
  refine g_cSi (pc := 37) C (st := []) jW.rf (c_X1_make l D hw h6) y_X1_make tw_533 rfl ⟨by decide, by decide⟩ ⟨Nat.zero_le _, Nat.zero_le _⟩ (Nat.le_of_ble_eq_true rfl) dX1_byTurns_37 rfl ?_
  refine g_istore (pc := 40) C [(4, .int r6), (0, .int x0), (1, .int x1), (2, .int x2), (3, .int x3)] dX1_byTurns_40 (by decide) rfl ?_
  refine g_iload (pc := 42) C dX1_byTurns_42 0 rfl ?_
  refine g_iconst (pc := 44) C dX1_byTurns_44 ic_5 ?_
  refine g_icmp_ge (pc := 45) C 57 dX1_byTurns_45 (by decide) (fun q7 => ?_) (fun q7 => ?_)
  · replace hf := (if_pos q7).symm.trans hf
    refine g_iload (pc := 57) C dX1_byTurns_57 0 rfl ?_
    cases hf
    exact g_iret (pc := 59) C hr dX1_byTurns_59
  · replace hf := (if_neg q7).symm.trans hf
    refine g_iconst (pc := 48) C dX1_byTurns_48 ic_5 ?_
    refine g_iload (pc := 49) C dX1_byTurns_49 0 rfl ?_
    refine g_isub (pc := 51) C dX1_byTurns_51 ?_
    refine g_iconst (pc := 52) C dX1_byTurns_52 ic_5 ?_
    refine g_irem (pc := 53) C dX1_byTurns_53 (by decide) ?_
    refine g_goto (pc := 54) C 59 dX1_byTurns_54 (by decide) ?_
    cases hf
    exact g_iret (pc := 59) C hr dX1_byTurns_59

set_option maxHeartbeats 4000000 in
set_option maxRecDepth 100000 in
theorem c_X1_ofFigures (l : Launch) (D : va_G) {cI cH cE cJ : ClassId} {a : Nat → Nat} (hw : ∀ σ, va_D (Pc a) (wc cI cH cE a σ)) {σ : Me} {x0 : Int32} {x1 : Int32} {x2 : Int32} {x3 : Int32} {x4 : Int32} {r : Int32} (hf : f_X1_ofFigures x0 x1 x2 x3 x4 = some r) : Mq l D (tyc cI cH cE cJ) (wc cI cH cE a) (Pc a) yX1_ofFigures cX1_ofFigures 5 (Option.some Jvm.ClassFile.FieldType.int) 3 [.int x0, .int x1, .int x2, .int x3, .int x4] σ (qI D (wc cI cH cE a) (Pc a) σ r) := by
  refine mOf (plainFor_of_name (by decide)) hw (Nat.le_of_ble_eq_true rfl) [(0, .int x0), (1, .int x1), (2, .int x2), (3, .int x3), (4, .int x4)] rfl ?_
  intro p e s m args below meth c C hr
  unfold f_X1_ofFigures at hf
  refine g_iload_n (pc := 0) C dX1_ofFigures_0 0 rfl rfl ?_
  refine g_if_ne (pc := 1) C 19 dX1_ofFigures_1 (by decide) (fun q1 => ?_) (fun q1 => ?_)
  · replace hf := (if_neg q1).symm.trans hf
    refine g_iload_n (pc := 19) C dX1_ofFigures_19 0 rfl rfl ?_
    refine g_iconst (pc := 20) C dX1_ofFigures_20 ic_1 ?_
    refine g_icmp_ne (pc := 21) C 47 dX1_ofFigures_21 (by decide) (fun q2 => ?_) (fun q2 => ?_)
    · replace hf := (if_neg q2).symm.trans hf
      refine g_iload_n (pc := 47) C dX1_ofFigures_47 1 rfl rfl ?_
      refine g_iload_n (pc := 48) C dX1_ofFigures_48 2 rfl rfl ?_
      refine g_iload_n (pc := 49) C dX1_ofFigures_49 3 rfl rfl ?_
      refine g_iload (pc := 50) C dX1_ofFigures_50 4 rfl ?_
      obtain ⟨r3, h3, hf⟩ := bd_some hf
      refine g_cSi (pc := 52) C (st := []) jW.rf (c_X1_byTurns l D hw h3) y_X1_byTurns tw_524 rfl ⟨by decide, by decide⟩ ⟨Nat.zero_le _, Nat.zero_le _⟩ (Nat.le_of_ble_eq_true rfl) dX1_ofFigures_52 rfl ?_
      cases hf
      exact g_iret (pc := 55) C hr dX1_ofFigures_55
    · replace hf := (if_pos q2).symm.trans hf
      refine g_iconst (pc := 24) C dX1_ofFigures_24 ic_5 ?_
      refine g_iload_n (pc := 25) C dX1_ofFigures_25 1 rfl rfl ?_
      refine g_imul (pc := 26) C dX1_ofFigures_26 ?_
      refine g_iconst (pc := 27) C dX1_ofFigures_27 ic_4 ?_
      refine g_iload_n (pc := 28) C dX1_ofFigures_28 2 rfl rfl ?_
      refine g_imul (pc := 29) C dX1_ofFigures_29 ?_
      refine g_iadd (pc := 30) C dX1_ofFigures_30 ?_
      refine g_iconst (pc := 31) C dX1_ofFigures_31 ic_3 ?_
      refine g_iload_n (pc := 32) C dX1_ofFigures_32 3 rfl rfl ?_
      refine g_imul (pc := 33) C dX1_ofFigures_33 ?_
      refine g_iadd (pc := 34) C dX1_ofFigures_34 ?_
      refine g_iconst (pc := 35) C dX1_ofFigures_35 ic_2 ?_
      refine g_iload (pc := 36) C dX1_ofFigures_36 4 rfl ?_
      refine g_imul (pc := 38) C dX1_ofFigures_38 ?_
      refine g_iadd (pc := 39) C dX1_ofFigures_39 ?_
      refine g_ineg (pc := 40) C dX1_ofFigures_40 ?_
      refine g_bipush (pc := 41) C dX1_ofFigures_41 bp_11 ?_
      obtain ⟨r4, h4, hf⟩ := bd_some hf
      refine g_cSi (pc := 43) C (st := []) jW.rf (c_J9_floorMod_7cf53 l D hw h4) y_J9_floorMod_7cf53 tw_521 rfl ⟨by decide, by decide⟩ ⟨Nat.zero_le _, Nat.zero_le _⟩ (Nat.le_of_ble_eq_true rfl) dX1_ofFigures_43 rfl ?_
      cases hf
      exact g_iret (pc := 46) C hr dX1_ofFigures_46
  · replace hf := (if_pos q1).symm.trans hf
    refine g_iload_n (pc := 4) C dX1_ofFigures_4 1 rfl rfl ?_
    refine g_iload_n (pc := 5) C dX1_ofFigures_5 2 rfl rfl ?_
    refine g_iadd (pc := 6) C dX1_ofFigures_6 ?_
    refine g_iload_n (pc := 7) C dX1_ofFigures_7 3 rfl rfl ?_
    refine g_iadd (pc := 8) C dX1_ofFigures_8 ?_
    refine g_iload (pc := 9) C dX1_ofFigures_9 4 rfl ?_
    refine g_iadd (pc := 11) C dX1_ofFigures_11 ?_
    refine g_ineg (pc := 12) C dX1_ofFigures_12 ?_
    refine g_bipush (pc := 13) C dX1_ofFigures_13 bp_9 ?_
    obtain ⟨r5, h5, hf⟩ := bd_some hf
    refine g_cSi (pc := 15) C (st := []) jW.rf (c_J9_floorMod_7cf53 l D hw h5) y_J9_floorMod_7cf53 tw_521 rfl ⟨by decide, by decide⟩ ⟨Nat.zero_le _, Nat.zero_le _⟩ (Nat.le_of_ble_eq_true rfl) dX1_ofFigures_15 rfl ?_
    cases hf
    exact g_iret (pc := 18) C hr dX1_ofFigures_18

set_option maxHeartbeats 4000000 in
set_option maxRecDepth 100000 in
theorem c_X1_ofNumber (l : Launch) (D : va_G) {cI cH cE cJ : ClassId} {a : Nat → Nat} (hw : ∀ σ, va_D (Pc a) (wc cI cH cE a σ)) {σ : Me} {x0 : Int32} {x1 : Int32} {x2 : Int32} {r : Int32} (hf : f_X1_ofNumber x0 x1 x2 = some r) : Mq l D (tyc cI cH cE cJ) (wc cI cH cE a) (Pc a) yX1_ofNumber cX1_ofNumber 3 (Option.some Jvm.ClassFile.FieldType.int) 4 [.int x0, .int x1, .int x2] σ (qI D (wc cI cH cE a) (Pc a) σ r) := by
  refine mOf (plainFor_of_name (by decide)) hw (Nat.le_of_ble_eq_true rfl) [(0, .int x0), (1, .int x1), (2, .int x2)] rfl ?_
  intro p e s m args below meth c C hr
  unfold f_X1_ofNumber at hf
  refine g_iload_n (pc := 0) C dX1_ofNumber_0 0 rfl rfl ?_
  refine g_iload_n (pc := 1) C dX1_ofNumber_1 1 rfl rfl ?_
  refine g_iload_n (pc := 2) C dX1_ofNumber_2 2 rfl rfl ?_
  refine g_bipush (pc := 3) C dX1_ofNumber_3 bp_100 ?_
  refine g_idiv (pc := 5) C dX1_ofNumber_5 (by decide) ?_
  refine g_iload_n (pc := 6) C dX1_ofNumber_6 2 rfl rfl ?_
  refine g_bipush (pc := 7) C dX1_ofNumber_7 bp_10 ?_
  refine g_idiv (pc := 9) C dX1_ofNumber_9 (by decide) ?_
  refine g_bipush (pc := 10) C dX1_ofNumber_10 bp_10 ?_
  refine g_irem (pc := 12) C dX1_ofNumber_12 (by decide) ?_
  refine g_iload_n (pc := 13) C dX1_ofNumber_13 2 rfl rfl ?_
  refine g_bipush (pc := 14) C dX1_ofNumber_14 bp_10 ?_
  refine g_irem (pc := 16) C dX1_ofNumber_16 (by decide) ?_
  obtain ⟨r1, h1, hf⟩ := bd_some hf
  refine g_cSi (pc := 17) C (st := []) jW.rf (c_X1_ofFigures l D hw h1) y_X1_ofFigures tw_518 rfl ⟨by decide, by decide⟩ ⟨Nat.zero_le _, Nat.zero_le _⟩ (Nat.le_of_ble_eq_true rfl) dX1_ofNumber_17 rfl ?_
  cases hf
  exact g_iret (pc := 20) C hr dX1_ofNumber_20

set_option maxHeartbeats 4000000 in
set_option maxRecDepth 100000 in
theorem c_X1_ofStar (l : Launch) (D : va_G) {cI cH cE cJ : ClassId} {a : Nat → Nat} (hw : ∀ σ, va_D (Pc a) (wc cI cH cE a σ)) {σ : Me} {x0 : Int32} {r : Int32} (hf : f_X1_ofStar x0 = some r) : Mq l D (tyc cI cH cE cJ) (wc cI cH cE a) (Pc a) yX1_ofStar cX1_ofStar 1 (Option.some Jvm.ClassFile.FieldType.int) 5 [.int x0] σ (qI D (wc cI cH cE a) (Pc a) σ r) := by
  refine mOf (plainFor_of_name (by decide)) hw (Nat.le_of_ble_eq_true rfl) [(0, .int x0)] rfl ?_
  intro p e s m args below meth c C hr
  unfold f_X1_ofStar at hf
  refine g_iconst (pc := 0) C dX1_ofStar_0 ic_1 ?_
  refine g_iconst (pc := 1) C dX1_ofStar_1 ic_0 ?_
  refine g_iload_n (pc := 2) C dX1_ofStar_2 0 rfl rfl ?_
  obtain ⟨r1, h1, hf⟩ := bd_some hf
  refine g_cSi (pc := 3) C (st := []) jW.rf (c_X1_ofNumber l D hw h1) y_X1_ofNumber tw_566 rfl ⟨by decide, by decide⟩ ⟨Nat.zero_le _, Nat.zero_le _⟩ (Nat.le_of_ble_eq_true rfl) dX1_ofStar_3 rfl ?_
  cases hf
  exact g_iret (pc := 6) C hr dX1_ofStar_6

set_option maxHeartbeats 4000000 in
set_option maxRecDepth 100000 in
theorem c_X1_missedFigures (l : Launch) (D : va_G) {cI cH cE cJ : ClassId} {a : Nat → Nat} (hw : ∀ σ, va_D (Pc a) (wc cI cH cE a σ)) {σ : Me} {x0 : Int32} {x1 : Int32} {x2 : Int32} {r : Int32} (hf : f_X1_missedFigures x0 x1 x2 = some r) : Mq l D (tyc cI cH cE cJ) (wc cI cH cE a) (Pc a) yX1_missedFigures cX1_missedFigures 9 (Option.some Jvm.ClassFile.FieldType.int) 4 [.int x0, .int x1, .int x2] σ (qI D (wc cI cH cE a) (Pc a) σ r) := by
  refine mOf (plainFor_of_name (by decide)) hw (Nat.le_of_ble_eq_true rfl) [(0, .int x0), (1, .int x1), (2, .int x2)] rfl ?_
  intro p e s m args below meth c C hr
  have b95 : ∀ (K38 : Int32 → Int32 → Int32 → Int32 → Int32 → Int32 → Int32 → Int32 → Option Int32) (hK38 : ∀ (x3 : Int32) (x4 : Int32) (x5 : Int32) (x6 : Int32) (x7 : Int32) (x8 : Int32), K38 x0 x1 x3 x4 x5 x6 x7 x8 = some r → Gg p l e (rmd 4) s m args below meth c D (Pc a) (wc cI cH cE a) 9 0 0 (MQ below ((qI D (wc cI cH cE a) (Pc a) σ r) s.heap.size) args s 0 0 (fR (Pc a) s.heap.size)) σ [(0, .int x0), (1, .int x1), (3, .int x3), (4, .int x4), (5, .int x5), (6, .int x6), (7, .int x7), (8, .int x8)] 38 []) (x3 : Int32) (x4 : Int32) (x5 : Int32) (x6 : Int32) (x7 : Int32) (x8 : Int32) (hf : f_X1_missedFigures_95 K38 x0 x1 x3 x4 x5 x6 x7 x8 = some r), Gg p l e (rmd 4) s m args below meth c D (Pc a) (wc cI cH cE a) 9 0 0 (MQ below ((qI D (wc cI cH cE a) (Pc a) σ r) s.heap.size) args s 0 0 (fR (Pc a) s.heap.size)) σ [(0, .int x0), (1, .int x1), (3, .int x3), (4, .int x4), (5, .int x5), (6, .int x6), (7, .int x7), (8, .int x8)] 95 [] := by
    intro K38 hK38 x3 x4 x5 x6 x7 x8 hf
    unfold f_X1_missedFigures_95 at hf
    refine g_iload (pc := 95) C dX1_missedFigures_95 7 rfl ?_
    refine g_iload (pc := 97) C dX1_missedFigures_97 4 rfl ?_
    refine g_icmp_eq (pc := 99) C 120 dX1_missedFigures_99 (by decide) (fun q1 => ?_) (fun q1 => ?_)
    · replace hf := (if_pos q1).symm.trans hf
      refine g_iinc (pc := 120) C [(8, .int (x8 + 1)), (0, .int x0), (1, .int x1), (3, .int x3), (4, .int x4), (5, .int x5), (6, .int x6), (7, .int x7)] 7 dX1_missedFigures_120 rfl ic_1 (by decide) rfl ?_
      refine g_goto (pc := 123) C 38 dX1_missedFigures_123 (by decide) ?_
      exact g_sub [1, 2, 3, 4, 5, 6, 7, 0] rfl (hK38 x3 x4 x5 x6 x7 (x8 + 1) hf)
    · replace hf := (if_neg q1).symm.trans hf
      refine g_iload_n (pc := 102) C dX1_missedFigures_102 0 rfl rfl ?_
      refine g_iload_n (pc := 103) C dX1_missedFigures_103 1 rfl rfl ?_
      refine g_iload_n (pc := 104) C dX1_missedFigures_104 2 rfl rfl ?_
      refine g_iload (pc := 105) C dX1_missedFigures_105 3 rfl ?_
      refine g_iload (pc := 107) C dX1_missedFigures_107 7 rfl ?_
      obtain ⟨r2, h2, hf⟩ := bd_some hf
      refine g_cSi (pc := 109) C (st := []) jW.rf (c_X1_ofFigures l D hw h2) y_X1_ofFigures tw_518 rfl ⟨by decide, by decide⟩ ⟨Nat.zero_le _, Nat.zero_le _⟩ (Nat.le_of_ble_eq_true rfl) dX1_missedFigures_109 rfl ?_
      refine g_iload (pc := 112) C dX1_missedFigures_112 5 rfl ?_
      refine g_icmp_ne (pc := 114) C 120 dX1_missedFigures_114 (by decide) (fun q3 => ?_) (fun q3 => ?_)
      · replace hf := (if_neg q3).symm.trans hf
        refine g_iinc (pc := 120) C [(8, .int (x8 + 1)), (0, .int x0), (1, .int x1), (3, .int x3), (4, .int x4), (5, .int x5), (6, .int x6), (7, .int x7)] 7 dX1_missedFigures_120 rfl ic_1 (by decide) rfl ?_
        refine g_goto (pc := 123) C 38 dX1_missedFigures_123 (by decide) ?_
        exact g_sub [1, 2, 3, 4, 5, 6, 7, 0] rfl (hK38 x3 x4 x5 x6 x7 (x8 + 1) hf)
      · replace hf := (if_pos q3).symm.trans hf
        refine g_iinc (pc := 117) C [(7, .int (x7 + 1)), (0, .int x0), (1, .int x1), (3, .int x3), (4, .int x4), (5, .int x5), (6, .int x6), (8, .int x8)] 6 dX1_missedFigures_117 rfl ic_1 (by decide) rfl ?_
        refine g_iinc (pc := 120) C [(8, .int (x8 + 1)), (7, .int (x7 + 1)), (0, .int x0), (1, .int x1), (3, .int x3), (4, .int x4), (5, .int x5), (6, .int x6)] 7 dX1_missedFigures_120 rfl ic_1 (by decide) rfl ?_
        refine g_goto (pc := 123) C 38 dX1_missedFigures_123 (by decide) ?_
        exact g_sub [2, 3, 4, 5, 6, 7, 1, 0] rfl (hK38 x3 x4 x5 x6 (x7 + 1) (x8 + 1) hf)
  have b70 : ∀ (K38 : Int32 → Int32 → Int32 → Int32 → Int32 → Int32 → Int32 → Int32 → Option Int32) (hK38 : ∀ (x3 : Int32) (x4 : Int32) (x5 : Int32) (x6 : Int32) (x7 : Int32) (x8 : Int32), K38 x0 x1 x3 x4 x5 x6 x7 x8 = some r → Gg p l e (rmd 4) s m args below meth c D (Pc a) (wc cI cH cE a) 9 0 0 (MQ below ((qI D (wc cI cH cE a) (Pc a) σ r) s.heap.size) args s 0 0 (fR (Pc a) s.heap.size)) σ [(0, .int x0), (1, .int x1), (3, .int x3), (4, .int x4), (5, .int x5), (6, .int x6), (7, .int x7), (8, .int x8)] 38 []) (x3 : Int32) (x4 : Int32) (x5 : Int32) (x6 : Int32) (x7 : Int32) (x8 : Int32) (hf : f_X1_missedFigures_70 K38 x0 x1 x3 x4 x5 x6 x7 x8 = some r), Gg p l e (rmd 4) s m args below meth c D (Pc a) (wc cI cH cE a) 9 0 0 (MQ below ((qI D (wc cI cH cE a) (Pc a) σ r) s.heap.size) args s 0 0 (fR (Pc a) s.heap.size)) σ [(0, .int x0), (1, .int x1), (3, .int x3), (4, .int x4), (5, .int x5), (6, .int x6), (7, .int x7), (8, .int x8)] 70 [] := by
    intro K38 hK38 x3 x4 x5 x6 x7 x8 hf
    unfold f_X1_missedFigures_70 at hf
    refine g_iload (pc := 70) C dX1_missedFigures_70 7 rfl ?_
    refine g_iload (pc := 72) C dX1_missedFigures_72 3 rfl ?_
    refine g_icmp_eq (pc := 74) C 95 dX1_missedFigures_74 (by decide) (fun q4 => ?_) (fun q4 => ?_)
    · replace hf := (if_pos q4).symm.trans hf
      exact g_sub [0, 1, 2, 3, 4, 5, 6, 7] rfl (b95 K38 hK38 x3 x4 x5 x6 x7 x8 hf)
    · replace hf := (if_neg q4).symm.trans hf
      refine g_iload_n (pc := 77) C dX1_missedFigures_77 0 rfl rfl ?_
      refine g_iload_n (pc := 78) C dX1_missedFigures_78 1 rfl rfl ?_
      refine g_iload_n (pc := 79) C dX1_missedFigures_79 2 rfl rfl ?_
      refine g_iload (pc := 80) C dX1_missedFigures_80 7 rfl ?_
      refine g_iload (pc := 82) C dX1_missedFigures_82 4 rfl ?_
      obtain ⟨r5, h5, hf⟩ := bd_some hf
      refine g_cSi (pc := 84) C (st := []) jW.rf (c_X1_ofFigures l D hw h5) y_X1_ofFigures tw_518 rfl ⟨by decide, by decide⟩ ⟨Nat.zero_le _, Nat.zero_le _⟩ (Nat.le_of_ble_eq_true rfl) dX1_missedFigures_84 rfl ?_
      refine g_iload (pc := 87) C dX1_missedFigures_87 5 rfl ?_
      refine g_icmp_ne (pc := 89) C 95 dX1_missedFigures_89 (by decide) (fun q6 => ?_) (fun q6 => ?_)
      · replace hf := (if_neg q6).symm.trans hf
        exact g_sub [0, 1, 2, 3, 4, 5, 6, 7] rfl (b95 K38 hK38 x3 x4 x5 x6 x7 x8 hf)
      · replace hf := (if_pos q6).symm.trans hf
        refine g_iinc (pc := 92) C [(7, .int (x7 + 1)), (0, .int x0), (1, .int x1), (3, .int x3), (4, .int x4), (5, .int x5), (6, .int x6), (8, .int x8)] 6 dX1_missedFigures_92 rfl ic_1 (by decide) rfl ?_
        exact g_sub [1, 2, 3, 4, 5, 6, 0, 7] rfl (b95 K38 hK38 x3 x4 x5 x6 (x7 + 1) x8 hf)
  have b38 : ∀ (n : Nat) (x3 : Int32) (x4 : Int32) (x5 : Int32) (x6 : Int32) (x7 : Int32) (x8 : Int32) (hf : f_X1_missedFigures_38 n x0 x1 x3 x4 x5 x6 x7 x8 = some r), Gg p l e (rmd 4) s m args below meth c D (Pc a) (wc cI cH cE a) 9 0 0 (MQ below ((qI D (wc cI cH cE a) (Pc a) σ r) s.heap.size) args s 0 0 (fR (Pc a) s.heap.size)) σ [(0, .int x0), (1, .int x1), (3, .int x3), (4, .int x4), (5, .int x5), (6, .int x6), (7, .int x7), (8, .int x8)] 38 [] := by
    intro n
    induction n with
    | zero => intro x3 x4 x5 x6 x7 x8 hf; exact absurd hf (by simp [f_X1_missedFigures_38])
    | succ n ih =>
      intro x3 x4 x5 x6 x7 x8 hf
      rw [f_X1_missedFigures_38] at hf
      refine g_iload (pc := 38) C dX1_missedFigures_38 7 rfl ?_
      refine g_bipush (pc := 40) C dX1_missedFigures_40 bp_9 ?_
      refine g_icmp_gt (pc := 42) C 126 dX1_missedFigures_42 (by decide) (fun q7 => ?_) (fun q7 => ?_)
      · replace hf := (if_pos q7).symm.trans hf
        refine g_iload (pc := 126) C dX1_missedFigures_126 6 rfl ?_
        cases hf
        exact g_iret (pc := 128) C hr dX1_missedFigures_128
      · replace hf := (if_neg q7).symm.trans hf
        refine g_iload (pc := 45) C dX1_missedFigures_45 7 rfl ?_
        refine g_iload_n (pc := 47) C dX1_missedFigures_47 2 rfl rfl ?_
        refine g_icmp_eq (pc := 48) C 70 dX1_missedFigures_48 (by decide) (fun q8 => ?_) (fun q8 => ?_)
        · replace hf := (if_pos q8).symm.trans hf
          exact g_sub [0, 1, 2, 3, 4, 5, 6, 7] rfl (b70 (f_X1_missedFigures_38 n) ih x3 x4 x5 x6 x7 x8 hf)
        · replace hf := (if_neg q8).symm.trans hf
          refine g_iload_n (pc := 51) C dX1_missedFigures_51 0 rfl rfl ?_
          refine g_iload_n (pc := 52) C dX1_missedFigures_52 1 rfl rfl ?_
          refine g_iload (pc := 53) C dX1_missedFigures_53 7 rfl ?_
          refine g_iload (pc := 55) C dX1_missedFigures_55 3 rfl ?_
          refine g_iload (pc := 57) C dX1_missedFigures_57 4 rfl ?_
          obtain ⟨r9, h9, hf⟩ := bd_some hf
          refine g_cSi (pc := 59) C (st := []) jW.rf (c_X1_ofFigures l D hw h9) y_X1_ofFigures tw_518 rfl ⟨by decide, by decide⟩ ⟨Nat.zero_le _, Nat.zero_le _⟩ (Nat.le_of_ble_eq_true rfl) dX1_missedFigures_59 rfl ?_
          refine g_iload (pc := 62) C dX1_missedFigures_62 5 rfl ?_
          refine g_icmp_ne (pc := 64) C 70 dX1_missedFigures_64 (by decide) (fun q10 => ?_) (fun q10 => ?_)
          · replace hf := (if_neg q10).symm.trans hf
            exact g_sub [0, 1, 2, 3, 4, 5, 6, 7] rfl (b70 (f_X1_missedFigures_38 n) ih x3 x4 x5 x6 x7 x8 hf)
          · replace hf := (if_pos q10).symm.trans hf
            refine g_iinc (pc := 67) C [(7, .int (x7 + 1)), (0, .int x0), (1, .int x1), (3, .int x3), (4, .int x4), (5, .int x5), (6, .int x6), (8, .int x8)] 6 dX1_missedFigures_67 rfl ic_1 (by decide) rfl ?_
            exact g_sub [1, 2, 3, 4, 5, 6, 0, 7] rfl (b70 (f_X1_missedFigures_38 n) ih x3 x4 x5 x6 (x7 + 1) x8 hf)
  unfold f_X1_missedFigures at hf
  refine g_iload_n (pc := 0) C dX1_missedFigures_0 2 rfl rfl ?_
  refine g_bipush (pc := 1) C dX1_missedFigures_1 bp_100 ?_
  refine g_idiv (pc := 3) C dX1_missedFigures_3 (by decide) ?_
  refine g_istore_n (pc := 4) C [(3, .int (x2 / 100)), (0, .int x0), (1, .int x1), (2, .int x2)] dX1_missedFigures_4 rfl (by decide) rfl ?_
  refine g_iload_n (pc := 5) C dX1_missedFigures_5 3 rfl rfl ?_
  refine g_bipush (pc := 6) C dX1_missedFigures_6 bp_10 ?_
  refine g_idiv (pc := 8) C dX1_missedFigures_8 (by decide) ?_
  refine g_bipush (pc := 9) C dX1_missedFigures_9 bp_10 ?_
  refine g_irem (pc := 11) C dX1_missedFigures_11 (by decide) ?_
  refine g_istore (pc := 12) C [(4, .int ((x2 / 10) - (x2 / 10) / 10 * 10)), (3, .int (x2 / 100)), (0, .int x0), (1, .int x1), (2, .int x2)] dX1_missedFigures_12 (by decide) rfl ?_
  refine g_iload_n (pc := 14) C dX1_missedFigures_14 4 rfl rfl ?_
  refine g_bipush (pc := 15) C dX1_missedFigures_15 bp_10 ?_
  refine g_irem (pc := 17) C dX1_missedFigures_17 (by decide) ?_
  refine g_istore (pc := 18) C [(5, .int (x2 - x2 / 10 * 10)), (4, .int ((x2 / 10) - (x2 / 10) / 10 * 10)), (3, .int (x2 / 100)), (0, .int x0), (1, .int x1), (2, .int x2)] dX1_missedFigures_18 (by decide) rfl ?_
  refine g_iload_n (pc := 20) C dX1_missedFigures_20 3 rfl rfl ?_
  refine g_iload_n (pc := 21) C dX1_missedFigures_21 4 rfl rfl ?_
  refine g_iload_n (pc := 22) C dX1_missedFigures_22 2 rfl rfl ?_
  refine g_iload (pc := 23) C dX1_missedFigures_23 1 rfl ?_
  refine g_iload (pc := 25) C dX1_missedFigures_25 0 rfl ?_
  obtain ⟨r11, h11, hf⟩ := bd_some hf
  refine g_cSi (pc := 27) C (st := []) jW.rf (c_X1_ofFigures l D hw h11) y_X1_ofFigures tw_518 rfl ⟨by decide, by decide⟩ ⟨Nat.zero_le _, Nat.zero_le _⟩ (Nat.le_of_ble_eq_true rfl) dX1_missedFigures_27 rfl ?_
  refine g_istore (pc := 30) C [(6, .int r11), (5, .int (x2 - x2 / 10 * 10)), (4, .int ((x2 / 10) - (x2 / 10) / 10 * 10)), (3, .int (x2 / 100)), (0, .int x0), (1, .int x1), (2, .int x2)] dX1_missedFigures_30 (by decide) rfl ?_
  refine g_iconst (pc := 32) C dX1_missedFigures_32 ic_0 ?_
  refine g_istore (pc := 33) C [(7, .int 0), (6, .int r11), (5, .int (x2 - x2 / 10 * 10)), (4, .int ((x2 / 10) - (x2 / 10) / 10 * 10)), (3, .int (x2 / 100)), (0, .int x0), (1, .int x1), (2, .int x2)] dX1_missedFigures_33 (by decide) rfl ?_
  refine g_iconst (pc := 35) C dX1_missedFigures_35 ic_0 ?_
  refine g_istore (pc := 36) C [(8, .int 0), (7, .int 0), (6, .int r11), (5, .int (x2 - x2 / 10 * 10)), (4, .int ((x2 / 10) - (x2 / 10) / 10 * 10)), (3, .int (x2 / 100)), (0, .int x0), (1, .int x1), (2, .int x2)] dX1_missedFigures_36 (by decide) rfl ?_
  exact g_sub [6, 7, 5, 4, 3, 2, 1, 0] rfl (b38 1000 (x2 / 100) ((x2 / 10) - (x2 / 10) / 10 * 10) (x2 - x2 / 10 * 10) r11 0 0 hf)

set_option maxHeartbeats 4000000 in
set_option maxRecDepth 100000 in
theorem c_X1_missedSwaps (l : Launch) (D : va_G) {cI cH cE cJ : ClassId} {a : Nat → Nat} (hw : ∀ σ, va_D (Pc a) (wc cI cH cE a σ)) {σ : Me} {x0 : Int32} {x1 : Int32} {x2 : Int32} {r : Int32} (hf : f_X1_missedSwaps x0 x1 x2 = some r) : Mq l D (tyc cI cH cE cJ) (wc cI cH cE a) (Pc a) yX1_missedSwaps cX1_missedSwaps 8 (Option.some Jvm.ClassFile.FieldType.int) 4 [.int x0, .int x1, .int x2] σ (qI D (wc cI cH cE a) (Pc a) σ r) := by
  refine mOf (plainFor_of_name (by decide)) hw (Nat.le_of_ble_eq_true rfl) [(0, .int x0), (1, .int x1), (2, .int x2)] rfl ?_
  intro p e s m args below meth c C hr
  have b59 : ∀ (x3 : Int32) (x4 : Int32) (x5 : Int32) (x6 : Int32) (x7 : Int32) (hf : f_X1_missedSwaps_59 x0 x1 x3 x4 x5 x6 x7 = some r), Gg p l e (rmd 4) s m args below meth c D (Pc a) (wc cI cH cE a) 8 0 0 (MQ below ((qI D (wc cI cH cE a) (Pc a) σ r) s.heap.size) args s 0 0 (fR (Pc a) s.heap.size)) σ [(0, .int x0), (1, .int x1), (3, .int x3), (4, .int x4), (5, .int x5), (6, .int x6), (7, .int x7)] 59 [] := by
    intro  x3 x4 x5 x6 x7 hf
    unfold f_X1_missedSwaps_59 at hf
    refine g_iload (pc := 59) C dX1_missedSwaps_59 3 rfl ?_
    refine g_iload (pc := 61) C dX1_missedSwaps_61 4 rfl ?_
    refine g_icmp_eq (pc := 63) C 84 dX1_missedSwaps_63 (by decide) (fun q1 => ?_) (fun q1 => ?_)
    · replace hf := (if_pos q1).symm.trans hf
      refine g_iload (pc := 84) C dX1_missedSwaps_84 6 rfl ?_
      cases hf
      exact g_iret (pc := 86) C hr dX1_missedSwaps_86
    · replace hf := (if_neg q1).symm.trans hf
      refine g_iload_n (pc := 66) C dX1_missedSwaps_66 0 rfl rfl ?_
      refine g_iload_n (pc := 67) C dX1_missedSwaps_67 1 rfl rfl ?_
      refine g_iload_n (pc := 68) C dX1_missedSwaps_68 2 rfl rfl ?_
      refine g_iload (pc := 69) C dX1_missedSwaps_69 4 rfl ?_
      refine g_iload (pc := 71) C dX1_missedSwaps_71 3 rfl ?_
      obtain ⟨r2, h2, hf⟩ := bd_some hf
      refine g_cSi (pc := 73) C (st := []) jW.rf (c_X1_ofFigures l D hw h2) y_X1_ofFigures tw_518 rfl ⟨by decide, by decide⟩ ⟨Nat.zero_le _, Nat.zero_le _⟩ (Nat.le_of_ble_eq_true rfl) dX1_missedSwaps_73 rfl ?_
      refine g_iload (pc := 76) C dX1_missedSwaps_76 5 rfl ?_
      refine g_icmp_ne (pc := 78) C 84 dX1_missedSwaps_78 (by decide) (fun q3 => ?_) (fun q3 => ?_)
      · replace hf := (if_neg q3).symm.trans hf
        refine g_iload (pc := 84) C dX1_missedSwaps_84 6 rfl ?_
        cases hf
        exact g_iret (pc := 86) C hr dX1_missedSwaps_86
      · replace hf := (if_pos q3).symm.trans hf
        refine g_iinc (pc := 81) C [(7, .int (x7 + 1)), (0, .int x0), (1, .int x1), (3, .int x3), (4, .int x4), (5, .int x5), (6, .int x6)] 6 dX1_missedSwaps_81 rfl ic_1 (by decide) rfl ?_
        refine g_iload (pc := 84) C dX1_missedSwaps_84 0 rfl ?_
        cases hf
        exact g_iret (pc := 86) C hr dX1_missedSwaps_86
  unfold f_X1_missedSwaps at hf
  refine g_iload_n (pc := 0) C dX1_missedSwaps_0 2 rfl rfl ?_
  refine g_bipush (pc := 1) C dX1_missedSwaps_1 bp_100 ?_
  refine g_idiv (pc := 3) C dX1_missedSwaps_3 (by decide) ?_
  refine g_istore_n (pc := 4) C [(3, .int (x2 / 100)), (0, .int x0), (1, .int x1), (2, .int x2)] dX1_missedSwaps_4 rfl (by decide) rfl ?_
  refine g_iload_n (pc := 5) C dX1_missedSwaps_5 3 rfl rfl ?_
  refine g_bipush (pc := 6) C dX1_missedSwaps_6 bp_10 ?_
  refine g_idiv (pc := 8) C dX1_missedSwaps_8 (by decide) ?_
  refine g_bipush (pc := 9) C dX1_missedSwaps_9 bp_10 ?_
  refine g_irem (pc := 11) C dX1_missedSwaps_11 (by decide) ?_
  refine g_istore (pc := 12) C [(4, .int ((x2 / 10) - (x2 / 10) / 10 * 10)), (3, .int (x2 / 100)), (0, .int x0), (1, .int x1), (2, .int x2)] dX1_missedSwaps_12 (by decide) rfl ?_
  refine g_iload_n (pc := 14) C dX1_missedSwaps_14 4 rfl rfl ?_
  refine g_bipush (pc := 15) C dX1_missedSwaps_15 bp_10 ?_
  refine g_irem (pc := 17) C dX1_missedSwaps_17 (by decide) ?_
  refine g_istore (pc := 18) C [(5, .int (x2 - x2 / 10 * 10)), (4, .int ((x2 / 10) - (x2 / 10) / 10 * 10)), (3, .int (x2 / 100)), (0, .int x0), (1, .int x1), (2, .int x2)] dX1_missedSwaps_18 (by decide) rfl ?_
  refine g_iload_n (pc := 20) C dX1_missedSwaps_20 3 rfl rfl ?_
  refine g_iload_n (pc := 21) C dX1_missedSwaps_21 4 rfl rfl ?_
  refine g_iload_n (pc := 22) C dX1_missedSwaps_22 2 rfl rfl ?_
  refine g_iload (pc := 23) C dX1_missedSwaps_23 1 rfl ?_
  refine g_iload (pc := 25) C dX1_missedSwaps_25 0 rfl ?_
  obtain ⟨r4, h4, hf⟩ := bd_some hf
  refine g_cSi (pc := 27) C (st := []) jW.rf (c_X1_ofFigures l D hw h4) y_X1_ofFigures tw_518 rfl ⟨by decide, by decide⟩ ⟨Nat.zero_le _, Nat.zero_le _⟩ (Nat.le_of_ble_eq_true rfl) dX1_missedSwaps_27 rfl ?_
  refine g_istore (pc := 30) C [(6, .int r4), (5, .int (x2 - x2 / 10 * 10)), (4, .int ((x2 / 10) - (x2 / 10) / 10 * 10)), (3, .int (x2 / 100)), (0, .int x0), (1, .int x1), (2, .int x2)] dX1_missedSwaps_30 (by decide) rfl ?_
  refine g_iconst (pc := 32) C dX1_missedSwaps_32 ic_0 ?_
  refine g_istore (pc := 33) C [(7, .int 0), (6, .int r4), (5, .int (x2 - x2 / 10 * 10)), (4, .int ((x2 / 10) - (x2 / 10) / 10 * 10)), (3, .int (x2 / 100)), (0, .int x0), (1, .int x1), (2, .int x2)] dX1_missedSwaps_33 (by decide) rfl ?_
  refine g_iload_n (pc := 35) C dX1_missedSwaps_35 4 rfl rfl ?_
  refine g_iload (pc := 36) C dX1_missedSwaps_36 3 rfl ?_
  refine g_icmp_eq (pc := 38) C 59 dX1_missedSwaps_38 (by decide) (fun q5 => ?_) (fun q5 => ?_)
  · replace hf := (if_pos q5).symm.trans hf
    exact g_sub [5, 6, 4, 3, 2, 1, 0] rfl (b59 (x2 / 100) ((x2 / 10) - (x2 / 10) / 10 * 10) (x2 - x2 / 10 * 10) r4 0 hf)
  · replace hf := (if_neg q5).symm.trans hf
    refine g_iload_n (pc := 41) C dX1_missedSwaps_41 5 rfl rfl ?_
    refine g_iload_n (pc := 42) C dX1_missedSwaps_42 6 rfl rfl ?_
    refine g_iload (pc := 43) C dX1_missedSwaps_43 3 rfl ?_
    refine g_iload_n (pc := 45) C dX1_missedSwaps_45 4 rfl rfl ?_
    refine g_iload (pc := 46) C dX1_missedSwaps_46 2 rfl ?_
    obtain ⟨r6, h6, hf⟩ := bd_some hf
    refine g_cSi (pc := 48) C (st := []) jW.rf (c_X1_ofFigures l D hw h6) y_X1_ofFigures tw_518 rfl ⟨by decide, by decide⟩ ⟨Nat.zero_le _, Nat.zero_le _⟩ (Nat.le_of_ble_eq_true rfl) dX1_missedSwaps_48 rfl ?_
    refine g_iload (pc := 51) C dX1_missedSwaps_51 1 rfl ?_
    refine g_icmp_ne (pc := 53) C 59 dX1_missedSwaps_53 (by decide) (fun q7 => ?_) (fun q7 => ?_)
    · replace hf := (if_neg q7).symm.trans hf
      exact g_sub [5, 6, 4, 3, 2, 1, 0] rfl (b59 (x2 / 100) ((x2 / 10) - (x2 / 10) / 10 * 10) (x2 - x2 / 10 * 10) r4 0 hf)
    · replace hf := (if_pos q7).symm.trans hf
      refine g_iinc (pc := 56) C [(7, .int (0 + 1)), (6, .int r4), (5, .int (x2 - x2 / 10 * 10)), (4, .int ((x2 / 10) - (x2 / 10) / 10 * 10)), (3, .int (x2 / 100)), (0, .int x0), (1, .int x1), (2, .int x2)] 0 dX1_missedSwaps_56 rfl ic_1 (by decide) rfl ?_
      exact g_sub [5, 6, 4, 3, 2, 1, 0] rfl (b59 (x2 / 100) ((x2 / 10) - (x2 / 10) / 10 * 10) (x2 - x2 / 10 * 10) r4 (0 + 1) hf)

set_option maxHeartbeats 4000000 in
set_option maxRecDepth 100000 in
theorem c_J9_min_7cf53 (l : Launch) (D : va_G) {cI cH cE cJ : ClassId} {a : Nat → Nat} (hw : ∀ σ, va_D (Pc a) (wc cI cH cE a σ)) {σ : Me} {x0 : Int32} {x1 : Int32} {r : Int32} (hf : f_J9_min_7cf53 x0 x1 = some r) : Mq l D (tyc cI cH cE cJ) (wc cI cH cE a) (Pc a) yJ9_min_7cf53 cJ9_min_7cf53 2 (Option.some Jvm.ClassFile.FieldType.int) 0 [.int x0, .int x1] σ (qI D (wc cI cH cE a) (Pc a) σ r) := by
  refine mOf (by decide +kernel) hw (Nat.le_of_ble_eq_true rfl) [(0, .int x0), (1, .int x1)] rfl ?_
  intro p e s m args below meth c C hr
  unfold f_J9_min_7cf53 at hf
  refine g_iload_n (pc := 0) C dJ9_min_7cf53_0 0 rfl rfl ?_
  refine g_iload_n (pc := 1) C dJ9_min_7cf53_1 1 rfl rfl ?_
  refine g_icmp_gt (pc := 2) C 9 dJ9_min_7cf53_2 (by decide) (fun q1 => ?_) (fun q1 => ?_)
  · replace hf := (if_pos q1).symm.trans hf
    refine g_iload_n (pc := 9) C dJ9_min_7cf53_9 1 rfl rfl ?_
    cases hf
    exact g_iret (pc := 10) C hr dJ9_min_7cf53_10
  · replace hf := (if_neg q1).symm.trans hf
    refine g_iload_n (pc := 5) C dJ9_min_7cf53_5 0 rfl rfl ?_
    refine g_goto (pc := 6) C 10 dJ9_min_7cf53_6 (by decide) ?_
    cases hf
    exact g_iret (pc := 10) C hr dJ9_min_7cf53_10
end
