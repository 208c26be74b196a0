-- ===== PART A: goes FIRST, ahead of the names: the tables' words, and 'selects' of the private methods out of them =====
/-- a private method of a class that the tables say can be made, by its rows of tables_1 -/
def lw_okq (q : MethodName × Nat) : Prop := (q.1.cls ≠ "java/lang/invoke/MethodHandle" ∧ q.1.cls ≠ "java/lang/invoke/VarHandle") ∧ Cond.instantiable q.1.cls q.2 ∈ tables_1 ∧ Cond.privateMethod q.1 ∈ tables_1 ∧ Cond.instanceMethod q.1 ∈ tables_1
theorem lw_p0 : lw_okq (⟨"NotePress", "layText", "()Z"⟩, 5) := ⟨⟨by decide +kernel, by decide +kernel⟩, List.mem_of_getElem? (i := 16) (by decide +kernel), List.mem_of_getElem? (i := 216) (by decide +kernel), List.mem_of_getElem? (i := 217) (by decide +kernel)⟩
theorem lw_p1 : lw_okq (⟨"NotePress$Text", "readItem", "(LNotePress$Plan;)Z"⟩, 3) := ⟨⟨by decide +kernel, by decide +kernel⟩, List.mem_of_getElem? (i := 24) (by decide +kernel), List.mem_of_getElem? (i := 228) (by decide +kernel), List.mem_of_getElem? (i := 229) (by decide +kernel)⟩
theorem lw_p2 : lw_okq (⟨"NotePress$Text", "skip", "(I)Z"⟩, 3) := ⟨⟨by decide +kernel, by decide +kernel⟩, List.mem_of_getElem? (i := 24) (by decide +kernel), List.mem_of_getElem? (i := 232) (by decide +kernel), List.mem_of_getElem? (i := 233) (by decide +kernel)⟩
theorem lw_p3 : lw_okq (⟨"NotePress$Text", "readPress", "(LNotePress$Plan;)Z"⟩, 3) := ⟨⟨by decide +kernel, by decide +kernel⟩, List.mem_of_getElem? (i := 24) (by decide +kernel), List.mem_of_getElem? (i := 236) (by decide +kernel), List.mem_of_getElem? (i := 237) (by decide +kernel)⟩
theorem lw_p4 : lw_okq (⟨"NotePress$Text", "readNumber", "()I"⟩, 3) := ⟨⟨by decide +kernel, by decide +kernel⟩, List.mem_of_getElem? (i := 24) (by decide +kernel), List.mem_of_getElem? (i := 240) (by decide +kernel), List.mem_of_getElem? (i := 241) (by decide +kernel)⟩
theorem lw_p5 : lw_okq (⟨"NotePress$Text", "readFigure", "()I"⟩, 3) := ⟨⟨by decide +kernel, by decide +kernel⟩, List.mem_of_getElem? (i := 24) (by decide +kernel), List.mem_of_getElem? (i := 244) (by decide +kernel), List.mem_of_getElem? (i := 245) (by decide +kernel)⟩
theorem lw_p6 : lw_okq (⟨"NotePress$Text", "readSeries", "(LNotePress$Plan;)Z"⟩, 3) := ⟨⟨by decide +kernel, by decide +kernel⟩, List.mem_of_getElem? (i := 24) (by decide +kernel), List.mem_of_getElem? (i := 255) (by decide +kernel), List.mem_of_getElem? (i := 256) (by decide +kernel)⟩
theorem lw_p7 : lw_okq (⟨"NotePress$Text", "readLetter", "()I"⟩, 3) := ⟨⟨by decide +kernel, by decide +kernel⟩, List.mem_of_getElem? (i := 24) (by decide +kernel), List.mem_of_getElem? (i := 263) (by decide +kernel), List.mem_of_getElem? (i := 264) (by decide +kernel)⟩
theorem lw_p8 : lw_okq (⟨"NotePress$Text", "readStars", "(LNotePress$Plan;)Z"⟩, 3) := ⟨⟨by decide +kernel, by decide +kernel⟩, List.mem_of_getElem? (i := 24) (by decide +kernel), List.mem_of_getElem? (i := 287) (by decide +kernel), List.mem_of_getElem? (i := 288) (by decide +kernel)⟩
theorem lw_p9 : lw_okq (⟨"NotePress$Changes", "remember", "(LNotePress$Share;I)V"⟩, 3) := ⟨⟨by decide +kernel, by decide +kernel⟩, List.mem_of_getElem? (i := 63) (by decide +kernel), List.mem_of_getElem? (i := 366) (by decide +kernel), List.mem_of_getElem? (i := 367) (by decide +kernel)⟩
theorem lw_p10 : lw_okq (⟨"NotePress$Changes", "forgetOldest", "()V"⟩, 3) := ⟨⟨by decide +kernel, by decide +kernel⟩, List.mem_of_getElem? (i := 63) (by decide +kernel), List.mem_of_getElem? (i := 370) (by decide +kernel), List.mem_of_getElem? (i := 371) (by decide +kernel)⟩
theorem lw_p11 : lw_okq (⟨"NotePress", "unspoiledOfSheet", "(ILNotePress$Share;I)I"⟩, 5) := ⟨⟨by decide +kernel, by decide +kernel⟩, List.mem_of_getElem? (i := 16) (by decide +kernel), List.mem_of_getElem? (i := 429) (by decide +kernel), List.mem_of_getElem? (i := 430) (by decide +kernel)⟩
theorem lw_p12 : lw_okq (⟨"NotePress", "judgeStar", "(II)I"⟩, 5) := ⟨⟨by decide +kernel, by decide +kernel⟩, List.mem_of_getElem? (i := 16) (by decide +kernel), List.mem_of_getElem? (i := 577) (by decide +kernel), List.mem_of_getElem? (i := 578) (by decide +kernel)⟩
theorem lw_p13 : lw_okq (⟨"NotePress", "judgeNote", "(III)I"⟩, 5) := ⟨⟨by decide +kernel, by decide +kernel⟩, List.mem_of_getElem? (i := 16) (by decide +kernel), List.mem_of_getElem? (i := 581) (by decide +kernel), List.mem_of_getElem? (i := 582) (by decide +kernel)⟩
theorem lw_p14 : lw_okq (⟨"NotePressModel", "adds", "(IIII)V"⟩, 8) := ⟨⟨by decide +kernel, by decide +kernel⟩, List.mem_of_getElem? (i := 613) (by decide +kernel), List.mem_of_getElem? (i := 619) (by decide +kernel), List.mem_of_getElem? (i := 620) (by decide +kernel)⟩
theorem lw_p15 : lw_okq (⟨"NotePressModel", "item", "(I)Z"⟩, 8) := ⟨⟨by decide +kernel, by decide +kernel⟩, List.mem_of_getElem? (i := 613) (by decide +kernel), List.mem_of_getElem? (i := 665) (by decide +kernel), List.mem_of_getElem? (i := 666) (by decide +kernel)⟩
def lw_privs_1 : List (MethodName × Nat) := [(⟨"NotePress", "layText", "()Z"⟩, 5), (⟨"NotePress$Text", "readItem", "(LNotePress$Plan;)Z"⟩, 3), (⟨"NotePress$Text", "skip", "(I)Z"⟩, 3), (⟨"NotePress$Text", "readPress", "(LNotePress$Plan;)Z"⟩, 3), (⟨"NotePress$Text", "readNumber", "()I"⟩, 3), (⟨"NotePress$Text", "readFigure", "()I"⟩, 3), (⟨"NotePress$Text", "readSeries", "(LNotePress$Plan;)Z"⟩, 3), (⟨"NotePress$Text", "readLetter", "()I"⟩, 3), (⟨"NotePress$Text", "readStars", "(LNotePress$Plan;)Z"⟩, 3), (⟨"NotePress$Changes", "remember", "(LNotePress$Share;I)V"⟩, 3), (⟨"NotePress$Changes", "forgetOldest", "()V"⟩, 3), (⟨"NotePress", "unspoiledOfSheet", "(ILNotePress$Share;I)I"⟩, 5), (⟨"NotePress", "judgeStar", "(II)I"⟩, 5), (⟨"NotePress", "judgeNote", "(III)I"⟩, 5), (⟨"NotePressModel", "adds", "(IIII)V"⟩, 8), (⟨"NotePressModel", "item", "(I)Z"⟩, 8)]
theorem lw_r1 : ∀ q ∈ lw_privs_1, lw_okq q := List.forall_mem_cons.mpr ⟨lw_p0, List.forall_mem_cons.mpr ⟨lw_p1, List.forall_mem_cons.mpr ⟨lw_p2, List.forall_mem_cons.mpr ⟨lw_p3, List.forall_mem_cons.mpr ⟨lw_p4, List.forall_mem_cons.mpr ⟨lw_p5, List.forall_mem_cons.mpr ⟨lw_p6, List.forall_mem_cons.mpr ⟨lw_p7, List.forall_mem_cons.mpr ⟨lw_p8, List.forall_mem_cons.mpr ⟨lw_p9, List.forall_mem_cons.mpr ⟨lw_p10, List.forall_mem_cons.mpr ⟨lw_p11, List.forall_mem_cons.mpr ⟨lw_p12, List.forall_mem_cons.mpr ⟨lw_p13, List.forall_mem_cons.mpr ⟨lw_p14, List.forall_mem_cons.mpr ⟨lw_p15, fun _ h => absurd h List.not_mem_nil⟩⟩⟩⟩⟩⟩⟩⟩⟩⟩⟩⟩⟩⟩⟩⟩
theorem lw_p16 : lw_okq (⟨"NotePressModel", "number2", "(III)Z"⟩, 8) := ⟨⟨by decide +kernel, by decide +kernel⟩, List.mem_of_getElem? (i := 613) (by decide +kernel), List.mem_of_getElem? (i := 669) (by decide +kernel), List.mem_of_getElem? (i := 670) (by decide +kernel)⟩
theorem lw_p17 : lw_okq (⟨"NotePressModel", "byteAt", "(I)I"⟩, 8) := ⟨⟨by decide +kernel, by decide +kernel⟩, List.mem_of_getElem? (i := 613) (by decide +kernel), List.mem_of_getElem? (i := 673) (by decide +kernel), List.mem_of_getElem? (i := 674) (by decide +kernel)⟩
theorem lw_p18 : lw_okq (⟨"NotePressModel", "seriesItem", "()Z"⟩, 8) := ⟨⟨by decide +kernel, by decide +kernel⟩, List.mem_of_getElem? (i := 613) (by decide +kernel), List.mem_of_getElem? (i := 679) (by decide +kernel), List.mem_of_getElem? (i := 680) (by decide +kernel)⟩
theorem lw_p19 : lw_okq (⟨"NotePressModel", "gone", "(I)Z"⟩, 8) := ⟨⟨by decide +kernel, by decide +kernel⟩, List.mem_of_getElem? (i := 613) (by decide +kernel), List.mem_of_getElem? (i := 685) (by decide +kernel), List.mem_of_getElem? (i := 686) (by decide +kernel)⟩
theorem lw_p20 : lw_okq (⟨"NotePressModel", "isSeries", "(I)Z"⟩, 8) := ⟨⟨by decide +kernel, by decide +kernel⟩, List.mem_of_getElem? (i := 613) (by decide +kernel), List.mem_of_getElem? (i := 702) (by decide +kernel), List.mem_of_getElem? (i := 703) (by decide +kernel)⟩
theorem lw_p21 : lw_okq (⟨"NotePressModel", "checkIn", "(II)I"⟩, 8) := ⟨⟨by decide +kernel, by decide +kernel⟩, List.mem_of_getElem? (i := 613) (by decide +kernel), List.mem_of_getElem? (i := 706) (by decide +kernel), List.mem_of_getElem? (i := 707) (by decide +kernel)⟩
theorem lw_p22 : lw_okq (⟨"NotePressModel", "isPress", "(I)Z"⟩, 8) := ⟨⟨by decide +kernel, by decide +kernel⟩, List.mem_of_getElem? (i := 613) (by decide +kernel), List.mem_of_getElem? (i := 731) (by decide +kernel), List.mem_of_getElem? (i := 732) (by decide +kernel)⟩
theorem lw_p23 : lw_okq (⟨"NotePressModel", "sheets", "(II)I"⟩, 8) := ⟨⟨by decide +kernel, by decide +kernel⟩, List.mem_of_getElem? (i := 613) (by decide +kernel), List.mem_of_getElem? (i := 736) (by decide +kernel), List.mem_of_getElem? (i := 737) (by decide +kernel)⟩
theorem lw_p24 : lw_okq (⟨"NotePressModel", "note1", "()V"⟩, 8) := ⟨⟨by decide +kernel, by decide +kernel⟩, List.mem_of_getElem? (i := 613) (by decide +kernel), List.mem_of_getElem? (i := 740) (by decide +kernel), List.mem_of_getElem? (i := 741) (by decide +kernel)⟩
theorem lw_p25 : lw_okq (⟨"NotePressModel", "isNumber", "(II)Z"⟩, 8) := ⟨⟨by decide +kernel, by decide +kernel⟩, List.mem_of_getElem? (i := 613) (by decide +kernel), List.mem_of_getElem? (i := 748) (by decide +kernel), List.mem_of_getElem? (i := 749) (by decide +kernel)⟩
theorem lw_p26 : lw_okq (⟨"NotePressModel", "isPrinted", "(II)Z"⟩, 8) := ⟨⟨by decide +kernel, by decide +kernel⟩, List.mem_of_getElem? (i := 613) (by decide +kernel), List.mem_of_getElem? (i := 752) (by decide +kernel), List.mem_of_getElem? (i := 753) (by decide +kernel)⟩
theorem lw_p27 : lw_okq (⟨"NotePressModel", "sheetOf", "(II)I"⟩, 8) := ⟨⟨by decide +kernel, by decide +kernel⟩, List.mem_of_getElem? (i := 613) (by decide +kernel), List.mem_of_getElem? (i := 756) (by decide +kernel), List.mem_of_getElem? (i := 757) (by decide +kernel)⟩
theorem lw_p28 : lw_okq (⟨"NotePressModel", "pressOf", "(II)I"⟩, 8) := ⟨⟨by decide +kernel, by decide +kernel⟩, List.mem_of_getElem? (i := 613) (by decide +kernel), List.mem_of_getElem? (i := 760) (by decide +kernel), List.mem_of_getElem? (i := 761) (by decide +kernel)⟩
theorem lw_p29 : lw_okq (⟨"NotePressModel", "first", "(II)I"⟩, 8) := ⟨⟨by decide +kernel, by decide +kernel⟩, List.mem_of_getElem? (i := 613) (by decide +kernel), List.mem_of_getElem? (i := 764) (by decide +kernel), List.mem_of_getElem? (i := 765) (by decide +kernel)⟩
theorem lw_p30 : lw_okq (⟨"NotePressModel", "starAt", "(II)I"⟩, 8) := ⟨⟨by decide +kernel, by decide +kernel⟩, List.mem_of_getElem? (i := 613) (by decide +kernel), List.mem_of_getElem? (i := 768) (by decide +kernel), List.mem_of_getElem? (i := 769) (by decide +kernel)⟩
theorem lw_p31 : lw_okq (⟨"NotePressModel", "stands", "(II)I"⟩, 8) := ⟨⟨by decide +kernel, by decide +kernel⟩, List.mem_of_getElem? (i := 613) (by decide +kernel), List.mem_of_getElem? (i := 772) (by decide +kernel), List.mem_of_getElem? (i := 773) (by decide +kernel)⟩
def lw_privs_2 : List (MethodName × Nat) := [(⟨"NotePressModel", "number2", "(III)Z"⟩, 8), (⟨"NotePressModel", "byteAt", "(I)I"⟩, 8), (⟨"NotePressModel", "seriesItem", "()Z"⟩, 8), (⟨"NotePressModel", "gone", "(I)Z"⟩, 8), (⟨"NotePressModel", "isSeries", "(I)Z"⟩, 8), (⟨"NotePressModel", "checkIn", "(II)I"⟩, 8), (⟨"NotePressModel", "isPress", "(I)Z"⟩, 8), (⟨"NotePressModel", "sheets", "(II)I"⟩, 8), (⟨"NotePressModel", "note1", "()V"⟩, 8), (⟨"NotePressModel", "isNumber", "(II)Z"⟩, 8), (⟨"NotePressModel", "isPrinted", "(II)Z"⟩, 8), (⟨"NotePressModel", "sheetOf", "(II)I"⟩, 8), (⟨"NotePressModel", "pressOf", "(II)I"⟩, 8), (⟨"NotePressModel", "first", "(II)I"⟩, 8), (⟨"NotePressModel", "starAt", "(II)I"⟩, 8), (⟨"NotePressModel", "stands", "(II)I"⟩, 8)]
theorem lw_r2 : ∀ q ∈ lw_privs_2, lw_okq q := List.forall_mem_cons.mpr ⟨lw_p16, List.forall_mem_cons.mpr ⟨lw_p17, List.forall_mem_cons.mpr ⟨lw_p18, List.forall_mem_cons.mpr ⟨lw_p19, List.forall_mem_cons.mpr ⟨lw_p20, List.forall_mem_cons.mpr ⟨lw_p21, List.forall_mem_cons.mpr ⟨lw_p22, List.forall_mem_cons.mpr ⟨lw_p23, List.forall_mem_cons.mpr ⟨lw_p24, List.forall_mem_cons.mpr ⟨lw_p25, List.forall_mem_cons.mpr ⟨lw_p26, List.forall_mem_cons.mpr ⟨lw_p27, List.forall_mem_cons.mpr ⟨lw_p28, List.forall_mem_cons.mpr ⟨lw_p29, List.forall_mem_cons.mpr ⟨lw_p30, List.forall_mem_cons.mpr ⟨lw_p31, fun _ h => absurd h List.not_mem_nil⟩⟩⟩⟩⟩⟩⟩⟩⟩⟩⟩⟩⟩⟩⟩⟩
theorem lw_p32 : lw_okq (⟨"NotePressModel", "numberAt", "(IIII)I"⟩, 8) := ⟨⟨by decide +kernel, by decide +kernel⟩, List.mem_of_getElem? (i := 613) (by decide +kernel), List.mem_of_getElem? (i := 780) (by decide +kernel), List.mem_of_getElem? (i := 781) (by decide +kernel)⟩
theorem lw_p33 : lw_okq (⟨"NotePressModel", "printed", "(I)I"⟩, 8) := ⟨⟨by decide +kernel, by decide +kernel⟩, List.mem_of_getElem? (i := 613) (by decide +kernel), List.mem_of_getElem? (i := 789) (by decide +kernel), List.mem_of_getElem? (i := 790) (by decide +kernel)⟩
theorem lw_p34 : lw_okq (⟨"NotePressModel", "spoiled", "(I)I"⟩, 8) := ⟨⟨by decide +kernel, by decide +kernel⟩, List.mem_of_getElem? (i := 613) (by decide +kernel), List.mem_of_getElem? (i := 793) (by decide +kernel), List.mem_of_getElem? (i := 794) (by decide +kernel)⟩
theorem lw_p35 : lw_okq (⟨"NotePressModel", "leftOf", "(I)I"⟩, 8) := ⟨⟨by decide +kernel, by decide +kernel⟩, List.mem_of_getElem? (i := 613) (by decide +kernel), List.mem_of_getElem? (i := 797) (by decide +kernel), List.mem_of_getElem? (i := 798) (by decide +kernel)⟩
theorem lw_p36 : lw_okq (⟨"NotePressModel", "packs", "(I)I"⟩, 8) := ⟨⟨by decide +kernel, by decide +kernel⟩, List.mem_of_getElem? (i := 613) (by decide +kernel), List.mem_of_getElem? (i := 801) (by decide +kernel), List.mem_of_getElem? (i := 802) (by decide +kernel)⟩
theorem lw_p37 : lw_okq (⟨"NotePressModel", "wholes", "(I)I"⟩, 8) := ⟨⟨by decide +kernel, by decide +kernel⟩, List.mem_of_getElem? (i := 613) (by decide +kernel), List.mem_of_getElem? (i := 805) (by decide +kernel), List.mem_of_getElem? (i := 806) (by decide +kernel)⟩
theorem lw_p38 : lw_okq (⟨"NotePressModel", "isWhole", "(II)Z"⟩, 8) := ⟨⟨by decide +kernel, by decide +kernel⟩, List.mem_of_getElem? (i := 613) (by decide +kernel), List.mem_of_getElem? (i := 809) (by decide +kernel), List.mem_of_getElem? (i := 810) (by decide +kernel)⟩
theorem lw_p39 : lw_okq (⟨"NotePressModel", "judgeStar", "(II)I"⟩, 8) := ⟨⟨by decide +kernel, by decide +kernel⟩, List.mem_of_getElem? (i := 613) (by decide +kernel), List.mem_of_getElem? (i := 845) (by decide +kernel), List.mem_of_getElem? (i := 846) (by decide +kernel)⟩
def lw_privs_3 : List (MethodName × Nat) := [(⟨"NotePressModel", "numberAt", "(IIII)I"⟩, 8), (⟨"NotePressModel", "printed", "(I)I"⟩, 8), (⟨"NotePressModel", "spoiled", "(I)I"⟩, 8), (⟨"NotePressModel", "leftOf", "(I)I"⟩, 8), (⟨"NotePressModel", "packs", "(I)I"⟩, 8), (⟨"NotePressModel", "wholes", "(I)I"⟩, 8), (⟨"NotePressModel", "isWhole", "(II)Z"⟩, 8), (⟨"NotePressModel", "judgeStar", "(II)I"⟩, 8)]
theorem lw_r3 : ∀ q ∈ lw_privs_3, lw_okq q := List.forall_mem_cons.mpr ⟨lw_p32, List.forall_mem_cons.mpr ⟨lw_p33, List.forall_mem_cons.mpr ⟨lw_p34, List.forall_mem_cons.mpr ⟨lw_p35, List.forall_mem_cons.mpr ⟨lw_p36, List.forall_mem_cons.mpr ⟨lw_p37, List.forall_mem_cons.mpr ⟨lw_p38, List.forall_mem_cons.mpr ⟨lw_p39, fun _ h => absurd h List.not_mem_nil⟩⟩⟩⟩⟩⟩⟩⟩
def lw_privs : List (MethodName × Nat) := lw_privs_1 ++ (lw_privs_2 ++ (lw_privs_3))
def lw_tbl : List Cond := k2_sels lw_privs ++ tables_1
theorem lw_privs_ok : ∀ q ∈ lw_privs, lw_okq q := by
  show ∀ q ∈ lw_privs_1 ++ (lw_privs_2 ++ (lw_privs_3)), lw_okq q
  exact List.forall_mem_append.mpr ⟨lw_r1, List.forall_mem_append.mpr ⟨lw_r2, lw_r3⟩⟩
def RX0 : String := "NotePress$Changes"
def TX0 : u_T := fun k => match k with
  | 0 => ("NotePress$Changes", "shares", "[LNotePress$Share;", true)
  | 1 => ("NotePress$Changes", "amounts", "[I", true)
  | _ => ("NotePress$Changes", "kept", "I", false)
def tyX0 : Nat → FieldType := fun k => match k with
  | 0 => .array (.object "NotePress$Share")
  | 1 => .array .int
  | _ => .int
abbrev wsX00 : List Cond := u_ws RX0 TX0 3
theorem nmX0 : ∀ a, a < 3 → ∀ b, b < 3 → a ≠ b → (TX0 a).2.1 ≠ (TX0 b).2.1 := by decide +kernel
theorem tyX0_ok : ∀ k, k < 3 → parseFieldDescriptor (TX0 k).2.2.1 = some (tyX0 k) := by decide +kernel
abbrev cX0_init : ByteArray := prog_2_method_1_code
def yX0_init : MethodName := ⟨RX0, "<init>", "()V"⟩
abbrev cX0_clear : ByteArray := prog_2_method_2_code
def yX0_clear : MethodName := ⟨RX0, "clear", "()V"⟩
abbrev cX0_rememberRun : ByteArray := prog_2_method_3_code
def yX0_rememberRun : MethodName := ⟨RX0, "rememberRun", "(LNotePress$Share;I)V"⟩
abbrev cX0_rememberSpoiled : ByteArray := prog_2_method_4_code
def yX0_rememberSpoiled : MethodName := ⟨RX0, "rememberSpoiled", "(I)V"⟩
abbrev cX0_remember : ByteArray := prog_2_method_5_code
def yX0_remember : MethodName := ⟨RX0, "remember", "(LNotePress$Share;I)V"⟩
abbrev cX0_forgetOldest : ByteArray := prog_2_method_6_code
def yX0_forgetOldest : MethodName := ⟨RX0, "forgetOldest", "()V"⟩
abbrev cX0_latestShare : ByteArray := prog_2_method_7_code
def yX0_latestShare : MethodName := ⟨RX0, "latestShare", "()LNotePress$Share;"⟩
abbrev cX0_latestAmount : ByteArray := prog_2_method_8_code
def yX0_latestAmount : MethodName := ⟨RX0, "latestAmount", "()I"⟩
abbrev cX0_forgetLatest : ByteArray := prog_2_method_9_code
def yX0_forgetLatest : MethodName := ⟨RX0, "forgetLatest", "()V"⟩
def RX1 : String := "NotePress$Checks"
def TX1 : u_T := fun k => match k with
  | _ => ("", "", "", false)
def tyX1 : Nat → FieldType := fun k => match k with
  | _ => .int
abbrev wsX10 : List Cond := u_ws RX1 TX1 0
theorem nmX1 : ∀ a, a < 0 → ∀ b, b < 0 → a ≠ b → (TX1 a).2.1 ≠ (TX1 b).2.1 := by decide +kernel
theorem tyX1_ok : ∀ k, k < 0 → parseFieldDescriptor (TX1 k).2.2.1 = some (tyX1 k) := by decide +kernel
abbrev cX1_ofNumber : ByteArray := prog_3_method_2_code
def yX1_ofNumber : MethodName := ⟨RX1, "ofNumber", "(III)I"⟩
abbrev cX1_ofStar : ByteArray := prog_3_method_3_code
def yX1_ofStar : MethodName := ⟨RX1, "ofStar", "(I)I"⟩
abbrev cX1_missedFigures : ByteArray := prog_3_method_4_code
def yX1_missedFigures : MethodName := ⟨RX1, "missedFigures", "(III)I"⟩
abbrev cX1_missedSwaps : ByteArray := prog_3_method_5_code
def yX1_missedSwaps : MethodName := ⟨RX1, "missedSwaps", "(III)I"⟩
abbrev cX1_ofFigures : ByteArray := prog_3_method_6_code
def yX1_ofFigures : MethodName := ⟨RX1, "ofFigures", "(IIIII)I"⟩
abbrev cX1_byTurns : ByteArray := prog_3_method_7_code
def yX1_byTurns : MethodName := ⟨RX1, "byTurns", "(IIII)I"⟩
abbrev cX1_make : ByteArray := prog_3_method_8_code
def yX1_make : MethodName := ⟨RX1, "make", "(II)I"⟩
abbrev cX1_turned : ByteArray := prog_3_method_9_code
def yX1_turned : MethodName := ⟨RX1, "turned", "(II)I"⟩
def RX2 : String := "NotePress$Plan"
def TX2 : u_T := fun k => match k with
  | 0 => ("NotePress$Plan", "places", "[I", true)
  | 1 => ("NotePress$Plan", "rows", "[LNotePress$Series;", true)
  | 2 => ("NotePress$Plan", "pressesTold", "I", false)
  | 3 => ("NotePress$Plan", "seriesTold", "I", false)
  | _ => ("NotePress$Plan", "starsTold", "I", false)
def tyX2 : Nat → FieldType := fun k => match k with
  | 0 => .array .int
  | 1 => .array (.object "NotePress$Series")
  | 2 => .int
  | 3 => .int
  | _ => .int
abbrev wsX20 : List Cond := u_ws RX2 TX2 5
theorem nmX2 : ∀ a, a < 5 → ∀ b, b < 5 → a ≠ b → (TX2 a).2.1 ≠ (TX2 b).2.1 := by decide +kernel
theorem tyX2_ok : ∀ k, k < 5 → parseFieldDescriptor (TX2 k).2.2.1 = some (tyX2 k) := by decide +kernel
abbrev cX2_init : ByteArray := prog_4_method_1_code
def yX2_init : MethodName := ⟨RX2, "<init>", "()V"⟩
abbrev cX2_clear : ByteArray := prog_4_method_2_code
def yX2_clear : MethodName := ⟨RX2, "clear", "()V"⟩
abbrev cX2_addPress : ByteArray := prog_4_method_3_code
def yX2_addPress : MethodName := ⟨RX2, "addPress", "(I)Z"⟩
abbrev cX2_nextSeries : ByteArray := prog_4_method_4_code
def yX2_nextSeries : MethodName := ⟨RX2, "nextSeries", "()LNotePress$Series;"⟩
abbrev cX2_keepNextSeries : ByteArray := prog_4_method_5_code
def yX2_keepNextSeries : MethodName := ⟨RX2, "keepNextSeries", "()V"⟩
abbrev cX2_seriesAt : ByteArray := prog_4_method_6_code
def yX2_seriesAt : MethodName := ⟨RX2, "seriesAt", "(I)LNotePress$Series;"⟩
abbrev cX2_shareAt : ByteArray := prog_4_method_7_code
def yX2_shareAt : MethodName := ⟨RX2, "shareAt", "(II)LNotePress$Share;"⟩
abbrev cX2_seriesOfLetter : ByteArray := prog_4_method_8_code
def yX2_seriesOfLetter : MethodName := ⟨RX2, "seriesOfLetter", "(I)I"⟩
abbrev cX2_notesPrinted : ByteArray := prog_4_method_9_code
def yX2_notesPrinted : MethodName := ⟨RX2, "notesPrinted", "()I"⟩
abbrev cX2_sheetsRun : ByteArray := prog_4_method_10_code
def yX2_sheetsRun : MethodName := ⟨RX2, "sheetsRun", "()I"⟩
abbrev cX2_wholePacks : ByteArray := prog_4_method_11_code
def yX2_wholePacks : MethodName := ⟨RX2, "wholePacks", "()I"⟩
def RX3 : String := "NotePress$Series"
def TX3 : u_T := fun k => match k with
  | 0 => ("NotePress$Series", "shares", "[LNotePress$Share;", true)
  | 1 => ("NotePress$Series", "presses", "I", false)
  | 2 => ("NotePress$Series", "letter", "I", false)
  | 3 => ("NotePress$Series", "kind", "I", false)
  | _ => ("NotePress$Series", "notes", "I", false)
def tyX3 : Nat → FieldType := fun k => match k with
  | 0 => .array (.object "NotePress$Share")
  | 1 => .int
  | 2 => .int
  | 3 => .int
  | _ => .int
abbrev wsX30 : List Cond := u_ws RX3 TX3 5
theorem nmX3 : ∀ a, a < 5 → ∀ b, b < 5 → a ≠ b → (TX3 a).2.1 ≠ (TX3 b).2.1 := by decide +kernel
theorem tyX3_ok : ∀ k, k < 5 → parseFieldDescriptor (TX3 k).2.2.1 = some (tyX3 k) := by decide +kernel
abbrev cX3_init : ByteArray := prog_5_method_1_code
def yX3_init : MethodName := ⟨RX3, "<init>", "()V"⟩
abbrev cX3_begin : ByteArray := prog_5_method_2_code
def yX3_begin : MethodName := ⟨RX3, "begin", "(II)V"⟩
abbrev cX3_addShare : ByteArray := prog_5_method_3_code
def yX3_addShare : MethodName := ⟨RX3, "addShare", "(II)V"⟩
abbrev cX3_shareAt : ByteArray := prog_5_method_4_code
def yX3_shareAt : MethodName := ⟨RX3, "shareAt", "(I)LNotePress$Share;"⟩
abbrev cX3_hasNumber : ByteArray := prog_5_method_5_code
def yX3_hasNumber : MethodName := ⟨RX3, "hasNumber", "(I)Z"⟩
abbrev cX3_pressOf : ByteArray := prog_5_method_6_code
def yX3_pressOf : MethodName := ⟨RX3, "pressOf", "(I)I"⟩
abbrev cX3_isPrinted : ByteArray := prog_5_method_7_code
def yX3_isPrinted : MethodName := ⟨RX3, "isPrinted", "(I)Z"⟩
abbrev cX3_notesPrinted : ByteArray := prog_5_method_8_code
def yX3_notesPrinted : MethodName := ⟨RX3, "notesPrinted", "()I"⟩
abbrev cX3_sheetsRun : ByteArray := prog_5_method_9_code
def yX3_sheetsRun : MethodName := ⟨RX3, "sheetsRun", "()I"⟩
abbrev cX3_sheetsLeft : ByteArray := prog_5_method_10_code
def yX3_sheetsLeft : MethodName := ⟨RX3, "sheetsLeft", "()I"⟩
abbrev cX3_packs : ByteArray := prog_5_method_11_code
def yX3_packs : MethodName := ⟨RX3, "packs", "()I"⟩
abbrev cX3_isWhole : ByteArray := prog_5_method_12_code
def yX3_isWhole : MethodName := ⟨RX3, "isWhole", "(I)Z"⟩
abbrev cX3_wholePacks : ByteArray := prog_5_method_13_code
def yX3_wholePacks : MethodName := ⟨RX3, "wholePacks", "()I"⟩
def RX4 : String := "NotePress$Share"
def TX4 : u_T := fun k => match k with
  | 0 => ("NotePress$Share", "places", "I", false)
  | 1 => ("NotePress$Share", "sheets", "I", false)
  | 2 => ("NotePress$Share", "first", "I", false)
  | _ => ("NotePress$Share", "sheetsRun", "I", false)
def tyX4 : Nat → FieldType := fun k => match k with
  | 0 => .int
  | 1 => .int
  | 2 => .int
  | _ => .int
abbrev wsX40 : List Cond := u_ws RX4 TX4 4
theorem nmX4 : ∀ a, a < 4 → ∀ b, b < 4 → a ≠ b → (TX4 a).2.1 ≠ (TX4 b).2.1 := by decide +kernel
theorem tyX4_ok : ∀ k, k < 4 → parseFieldDescriptor (TX4 k).2.2.1 = some (tyX4 k) := by decide +kernel
abbrev cX4_init : ByteArray := prog_6_method_1_code
def yX4_init : MethodName := ⟨RX4, "<init>", "()V"⟩
abbrev cX4_begin : ByteArray := prog_6_method_2_code
def yX4_begin : MethodName := ⟨RX4, "begin", "(III)V"⟩
abbrev cX4_sheetsLeft : ByteArray := prog_6_method_3_code
def yX4_sheetsLeft : MethodName := ⟨RX4, "sheetsLeft", "()I"⟩
abbrev cX4_hasSheet : ByteArray := prog_6_method_4_code
def yX4_hasSheet : MethodName := ⟨RX4, "hasSheet", "(I)Z"⟩
abbrev cX4_hasNumber : ByteArray := prog_6_method_5_code
def yX4_hasNumber : MethodName := ⟨RX4, "hasNumber", "(I)Z"⟩
abbrev cX4_numberAt : ByteArray := prog_6_method_6_code
def yX4_numberAt : MethodName := ⟨RX4, "numberAt", "(II)I"⟩
abbrev cX4_sheetOf : ByteArray := prog_6_method_7_code
def yX4_sheetOf : MethodName := ⟨RX4, "sheetOf", "(I)I"⟩
abbrev cX4_placeOf : ByteArray := prog_6_method_8_code
def yX4_placeOf : MethodName := ⟨RX4, "placeOf", "(I)I"⟩
def RX5 : String := "NotePress$Stars"
def TX5 : u_T := fun k => match k with
  | 0 => ("NotePress$Stars", "series", "[I", true)
  | 1 => ("NotePress$Stars", "numbers", "[I", true)
  | 2 => ("NotePress$Stars", "told", "I", false)
  | _ => ("NotePress$Stars", "standing", "I", false)
def tyX5 : Nat → FieldType := fun k => match k with
  | 0 => .array .int
  | 1 => .array .int
  | 2 => .int
  | _ => .int
abbrev wsX50 : List Cond := u_ws RX5 TX5 4
theorem nmX5 : ∀ a, a < 4 → ∀ b, b < 4 → a ≠ b → (TX5 a).2.1 ≠ (TX5 b).2.1 := by decide +kernel
theorem tyX5_ok : ∀ k, k < 4 → parseFieldDescriptor (TX5 k).2.2.1 = some (tyX5 k) := by decide +kernel
abbrev cX5_init : ByteArray := prog_7_method_1_code
def yX5_init : MethodName := ⟨RX5, "<init>", "()V"⟩
abbrev cX5_begin : ByteArray := prog_7_method_2_code
def yX5_begin : MethodName := ⟨RX5, "begin", "(I)V"⟩
abbrev cX5_left : ByteArray := prog_7_method_3_code
def yX5_left : MethodName := ⟨RX5, "left", "()I"⟩
abbrev cX5_standFor : ByteArray := prog_7_method_4_code
def yX5_standFor : MethodName := ⟨RX5, "standFor", "(II)V"⟩
abbrev cX5_takeBack : ByteArray := prog_7_method_5_code
def yX5_takeBack : MethodName := ⟨RX5, "takeBack", "(I)V"⟩
abbrev cX5_seriesOf : ByteArray := prog_7_method_6_code
def yX5_seriesOf : MethodName := ⟨RX5, "seriesOf", "(I)I"⟩
abbrev cX5_numberOf : ByteArray := prog_7_method_7_code
def yX5_numberOf : MethodName := ⟨RX5, "numberOf", "(I)I"⟩
abbrev cX5_standingFor : ByteArray := prog_7_method_8_code
def yX5_standingFor : MethodName := ⟨RX5, "standingFor", "(II)I"⟩
abbrev cX5_standsFor : ByteArray := prog_7_method_9_code
def yX5_standsFor : MethodName := ⟨RX5, "standsFor", "(II)Z"⟩
abbrev cX5_standingForSeries : ByteArray := prog_7_method_10_code
def yX5_standingForSeries : MethodName := ⟨RX5, "standingForSeries", "(I)I"⟩
def RX6 : String := "NotePress$Text"
def TX6 : u_T := fun k => match k with
  | 0 => ("NotePress$Text", "letters", "[I", true)
  | 1 => ("NotePress$Text", "length", "I", false)
  | _ => ("NotePress$Text", "at", "I", false)
def tyX6 : Nat → FieldType := fun k => match k with
  | 0 => .array .int
  | 1 => .int
  | _ => .int
abbrev wsX60 : List Cond := u_ws RX6 TX6 3
theorem nmX6 : ∀ a, a < 3 → ∀ b, b < 3 → a ≠ b → (TX6 a).2.1 ≠ (TX6 b).2.1 := by decide +kernel
theorem tyX6_ok : ∀ k, k < 3 → parseFieldDescriptor (TX6 k).2.2.1 = some (tyX6 k) := by decide +kernel
abbrev cX6_init : ByteArray := prog_8_method_1_code
def yX6_init : MethodName := ⟨RX6, "<init>", "()V"⟩
abbrev cX6_append : ByteArray := prog_8_method_2_code
def yX6_append : MethodName := ⟨RX6, "append", "(I)Z"⟩
abbrev cX6_clear : ByteArray := prog_8_method_3_code
def yX6_clear : MethodName := ⟨RX6, "clear", "()V"⟩
abbrev cX6_readInto : ByteArray := prog_8_method_4_code
def yX6_readInto : MethodName := ⟨RX6, "readInto", "(LNotePress$Plan;)I"⟩
abbrev cX6_readItem : ByteArray := prog_8_method_5_code
def yX6_readItem : MethodName := ⟨RX6, "readItem", "(LNotePress$Plan;)Z"⟩
abbrev cX6_readPress : ByteArray := prog_8_method_6_code
def yX6_readPress : MethodName := ⟨RX6, "readPress", "(LNotePress$Plan;)Z"⟩
abbrev cX6_readStars : ByteArray := prog_8_method_7_code
def yX6_readStars : MethodName := ⟨RX6, "readStars", "(LNotePress$Plan;)Z"⟩
abbrev cX6_readSeries : ByteArray := prog_8_method_8_code
def yX6_readSeries : MethodName := ⟨RX6, "readSeries", "(LNotePress$Plan;)Z"⟩
abbrev cX6_skip : ByteArray := prog_8_method_9_code
def yX6_skip : MethodName := ⟨RX6, "skip", "(I)Z"⟩
abbrev cX6_readLetter : ByteArray := prog_8_method_10_code
def yX6_readLetter : MethodName := ⟨RX6, "readLetter", "()I"⟩
abbrev cX6_readNumber : ByteArray := prog_8_method_11_code
def yX6_readNumber : MethodName := ⟨RX6, "readNumber", "()I"⟩
abbrev cX6_readFigure : ByteArray := prog_8_method_12_code
def yX6_readFigure : MethodName := ⟨RX6, "readFigure", "()I"⟩
def RX7 : String := "NotePress"
def TX7 : u_T := fun k => match k with
  | 0 => ("NotePress", "text", "LNotePress$Text;", true)
  | 1 => ("NotePress", "stars", "LNotePress$Stars;", true)
  | 2 => ("NotePress", "changes", "LNotePress$Changes;", true)
  | 3 => ("NotePress", "laid", "LNotePress$Plan;", false)
  | _ => ("NotePress", "draft", "LNotePress$Plan;", false)
def tyX7 : Nat → FieldType := fun k => match k with
  | 0 => .object "NotePress$Text"
  | 1 => .object "NotePress$Stars"
  | 2 => .object "NotePress$Changes"
  | 3 => .object "NotePress$Plan"
  | _ => .object "NotePress$Plan"
abbrev wsX70 : List Cond := u_ws RX7 TX7 5
theorem nmX7 : ∀ a, a < 5 → ∀ b, b < 5 → a ≠ b → (TX7 a).2.1 ≠ (TX7 b).2.1 := by decide +kernel
theorem tyX7_ok : ∀ k, k < 5 → parseFieldDescriptor (TX7 k).2.2.1 = some (tyX7 k) := by decide +kernel
abbrev cX7_init : ByteArray := prog_1_method_1_code
def yX7_init : MethodName := ⟨RX7, "<init>", "()V"⟩
abbrev cX7_write : ByteArray := prog_1_method_2_code
def yX7_write : MethodName := ⟨RX7, "write", "(I)I"⟩
abbrev cX7_wipe : ByteArray := prog_1_method_3_code
def yX7_wipe : MethodName := ⟨RX7, "wipe", "()I"⟩
abbrev cX7_fault : ByteArray := prog_1_method_4_code
def yX7_fault : MethodName := ⟨RX7, "fault", "()I"⟩
abbrev cX7_lay : ByteArray := prog_1_method_5_code
def yX7_lay : MethodName := ⟨RX7, "lay", "()I"⟩
abbrev cX7_run : ByteArray := prog_1_method_6_code
def yX7_run : MethodName := ⟨RX7, "run", "(III)I"⟩
abbrev cX7_spoil : ByteArray := prog_1_method_7_code
def yX7_spoil : MethodName := ⟨RX7, "spoil", "(II)I"⟩
abbrev cX7_spoilSheet : ByteArray := prog_1_method_8_code
def yX7_spoilSheet : MethodName := ⟨RX7, "spoilSheet", "(III)I"⟩
abbrev cX7_undo : ByteArray := prog_1_method_9_code
def yX7_undo : MethodName := ⟨RX7, "undo", "()I"⟩
abbrev cX7_series : ByteArray := prog_1_method_10_code
def yX7_series : MethodName := ⟨RX7, "series", "(II)I"⟩
abbrev cX7_share : ByteArray := prog_1_method_11_code
def yX7_share : MethodName := ⟨RX7, "share", "(III)I"⟩
abbrev cX7_where : ByteArray := prog_1_method_12_code
def yX7_where : MethodName := ⟨RX7, "where", "(III)I"⟩
abbrev cX7_number : ByteArray := prog_1_method_13_code
def yX7_number : MethodName := ⟨RX7, "number", "(IIII)I"⟩
abbrev cX7_check : ByteArray := prog_1_method_14_code
def yX7_check : MethodName := ⟨RX7, "check", "(II)I"⟩
abbrev cX7_missed : ByteArray := prog_1_method_15_code
def yX7_missed : MethodName := ⟨RX7, "missed", "(III)I"⟩
abbrev cX7_note : ByteArray := prog_1_method_16_code
def yX7_note : MethodName := ⟨RX7, "note", "(II)I"⟩
abbrev cX7_star : ByteArray := prog_1_method_17_code
def yX7_star : MethodName := ⟨RX7, "star", "(II)I"⟩
abbrev cX7_starOf : ByteArray := prog_1_method_18_code
def yX7_starOf : MethodName := ⟨RX7, "starOf", "(II)I"⟩
abbrev cX7_judge : ByteArray := prog_1_method_19_code
def yX7_judge : MethodName := ⟨RX7, "judge", "(III)I"⟩
abbrev cX7_pack : ByteArray := prog_1_method_20_code
def yX7_pack : MethodName := ⟨RX7, "pack", "(III)I"⟩
abbrev cX7_count : ByteArray := prog_1_method_21_code
def yX7_count : MethodName := ⟨RX7, "count", "(I)I"⟩
abbrev cX7_isFromTo : ByteArray := prog_1_method_22_code
def yX7_isFromTo : MethodName := ⟨RX7, "isFromTo", "(III)Z"⟩
abbrev cX7_layText : ByteArray := prog_1_method_23_code
def yX7_layText : MethodName := ⟨RX7, "layText", "()Z"⟩
abbrev cX7_unspoiledOfSheet : ByteArray := prog_1_method_24_code
def yX7_unspoiledOfSheet : MethodName := ⟨RX7, "unspoiledOfSheet", "(ILNotePress$Share;I)I"⟩
abbrev cX7_judgeStar : ByteArray := prog_1_method_25_code
def yX7_judgeStar : MethodName := ⟨RX7, "judgeStar", "(II)I"⟩
abbrev cX7_judgeNote : ByteArray := prog_1_method_26_code
def yX7_judgeNote : MethodName := ⟨RX7, "judgeNote", "(III)I"⟩
def RX8 : String := "NotePressModel"
def TX8 : u_T := fun k => match k with
  | 0 => ("NotePressModel", "length", "I", false)
  | 1 => ("NotePressModel", "text", "[I", true)
  | 2 => ("NotePressModel", "spot", "I", false)
  | 3 => ("NotePressModel", "told", "[I", true)
  | 4 => ("NotePressModel", "read", "[I", true)
  | 5 => ("NotePressModel", "s", "[I", true)
  | 6 => ("NotePressModel", "before", "[I", true)
  | _ => ("NotePressModel", "undoMany", "I", false)
def tyX8 : Nat → FieldType := fun k => match k with
  | 0 => .int
  | 1 => .array .int
  | 2 => .int
  | 3 => .array .int
  | 4 => .array .int
  | 5 => .array .int
  | 6 => .array .int
  | _ => .int
abbrev wsX80 : List Cond := u_ws RX8 TX8 8
theorem nmX8 : ∀ a, a < 8 → ∀ b, b < 8 → a ≠ b → (TX8 a).2.1 ≠ (TX8 b).2.1 := by decide +kernel
theorem tyX8_ok : ∀ k, k < 8 → parseFieldDescriptor (TX8 k).2.2.1 = some (tyX8 k) := by decide +kernel
abbrev cX8_init : ByteArray := prog_10_method_1_code
def yX8_init : MethodName := ⟨RX8, "<init>", "()V"⟩
abbrev cX8_adds : ByteArray := prog_10_method_2_code
def yX8_adds : MethodName := ⟨RX8, "adds", "(IIII)V"⟩
abbrev cX8_in : ByteArray := prog_10_method_3_code
def yX8_in : MethodName := ⟨RX8, "in", "(JJJ)Z"⟩
abbrev cX8_write : ByteArray := prog_10_method_4_code
def yX8_write : MethodName := ⟨RX8, "write", "(I)I"⟩
abbrev cX8_wipe : ByteArray := prog_10_method_5_code
def yX8_wipe : MethodName := ⟨RX8, "wipe", "()I"⟩
abbrev cX8_byteAt : ByteArray := prog_10_method_6_code
def yX8_byteAt : MethodName := ⟨RX8, "byteAt", "(I)I"⟩
abbrev cX8_gone : ByteArray := prog_10_method_7_code
def yX8_gone : MethodName := ⟨RX8, "gone", "(I)Z"⟩
abbrev cX8_number2 : ByteArray := prog_10_method_8_code
def yX8_number2 : MethodName := ⟨RX8, "number2", "(III)Z"⟩
abbrev cX8_whole : ByteArray := prog_10_method_9_code
def yX8_whole : MethodName := ⟨RX8, "whole", "([II)I"⟩
abbrev cX8_seriesItem : ByteArray := prog_10_method_10_code
def yX8_seriesItem : MethodName := ⟨RX8, "seriesItem", "()Z"⟩
abbrev cX8_item : ByteArray := prog_10_method_11_code
def yX8_item : MethodName := ⟨RX8, "item", "(I)Z"⟩
abbrev cX8_fault : ByteArray := prog_10_method_12_code
def yX8_fault : MethodName := ⟨RX8, "fault", "()I"⟩
abbrev cX8_lay : ByteArray := prog_10_method_13_code
def yX8_lay : MethodName := ⟨RX8, "lay", "()I"⟩
abbrev cX8_isSeries : ByteArray := prog_10_method_14_code
def yX8_isSeries : MethodName := ⟨RX8, "isSeries", "(I)Z"⟩
abbrev cX8_isPress : ByteArray := prog_10_method_15_code
def yX8_isPress : MethodName := ⟨RX8, "isPress", "(I)Z"⟩
abbrev cX8_sheets : ByteArray := prog_10_method_16_code
def yX8_sheets : MethodName := ⟨RX8, "sheets", "(II)I"⟩
abbrev cX8_isNumber : ByteArray := prog_10_method_17_code
def yX8_isNumber : MethodName := ⟨RX8, "isNumber", "(II)Z"⟩
abbrev cX8_first : ByteArray := prog_10_method_18_code
def yX8_first : MethodName := ⟨RX8, "first", "(II)I"⟩
abbrev cX8_pressOf : ByteArray := prog_10_method_19_code
def yX8_pressOf : MethodName := ⟨RX8, "pressOf", "(II)I"⟩
abbrev cX8_sheetOf : ByteArray := prog_10_method_20_code
def yX8_sheetOf : MethodName := ⟨RX8, "sheetOf", "(II)I"⟩
abbrev cX8_isPrinted : ByteArray := prog_10_method_21_code
def yX8_isPrinted : MethodName := ⟨RX8, "isPrinted", "(II)Z"⟩
abbrev cX8_starAt : ByteArray := prog_10_method_22_code
def yX8_starAt : MethodName := ⟨RX8, "starAt", "(II)I"⟩
abbrev cX8_turned : ByteArray := prog_10_method_23_code
def yX8_turned : MethodName := ⟨RX8, "turned", "(I)I"⟩
abbrev cX8_make : ByteArray := prog_10_method_24_code
def yX8_make : MethodName := ⟨RX8, "make", "(II)I"⟩
abbrev cX8_checkOf : ByteArray := prog_10_method_25_code
def yX8_checkOf : MethodName := ⟨RX8, "checkOf", "(III)I"⟩
abbrev cX8_checkIn : ByteArray := prog_10_method_26_code
def yX8_checkIn : MethodName := ⟨RX8, "checkIn", "(II)I"⟩
abbrev cX8_check : ByteArray := prog_10_method_27_code
def yX8_check : MethodName := ⟨RX8, "check", "(II)I"⟩
abbrev cX8_missed : ByteArray := prog_10_method_28_code
def yX8_missed : MethodName := ⟨RX8, "missed", "(III)I"⟩
abbrev cX8_note1 : ByteArray := prog_10_method_29_code
def yX8_note1 : MethodName := ⟨RX8, "note1", "()V"⟩
abbrev cX8_undo : ByteArray := prog_10_method_30_code
def yX8_undo : MethodName := ⟨RX8, "undo", "()I"⟩
abbrev cX8_run : ByteArray := prog_10_method_31_code
def yX8_run : MethodName := ⟨RX8, "run", "(III)I"⟩
abbrev cX8_stands : ByteArray := prog_10_method_32_code
def yX8_stands : MethodName := ⟨RX8, "stands", "(II)I"⟩
abbrev cX8_spoil : ByteArray := prog_10_method_33_code
def yX8_spoil : MethodName := ⟨RX8, "spoil", "(II)I"⟩
abbrev cX8_numberAt : ByteArray := prog_10_method_34_code
def yX8_numberAt : MethodName := ⟨RX8, "numberAt", "(IIII)I"⟩
abbrev cX8_spoilSheet : ByteArray := prog_10_method_35_code
def yX8_spoilSheet : MethodName := ⟨RX8, "spoilSheet", "(III)I"⟩
abbrev cX8_printed : ByteArray := prog_10_method_36_code
def yX8_printed : MethodName := ⟨RX8, "printed", "(I)I"⟩
abbrev cX8_spoiled : ByteArray := prog_10_method_37_code
def yX8_spoiled : MethodName := ⟨RX8, "spoiled", "(I)I"⟩
abbrev cX8_leftOf : ByteArray := prog_10_method_38_code
def yX8_leftOf : MethodName := ⟨RX8, "leftOf", "(I)I"⟩
abbrev cX8_packs : ByteArray := prog_10_method_39_code
def yX8_packs : MethodName := ⟨RX8, "packs", "(I)I"⟩
abbrev cX8_isWhole : ByteArray := prog_10_method_40_code
def yX8_isWhole : MethodName := ⟨RX8, "isWhole", "(II)Z"⟩
abbrev cX8_wholes : ByteArray := prog_10_method_41_code
def yX8_wholes : MethodName := ⟨RX8, "wholes", "(I)I"⟩
abbrev cX8_series : ByteArray := prog_10_method_42_code
def yX8_series : MethodName := ⟨RX8, "series", "(II)I"⟩
abbrev cX8_share : ByteArray := prog_10_method_43_code
def yX8_share : MethodName := ⟨RX8, "share", "(III)I"⟩
abbrev cX8_where : ByteArray := prog_10_method_44_code
def yX8_where : MethodName := ⟨RX8, "where", "(III)I"⟩
abbrev cX8_number : ByteArray := prog_10_method_45_code
def yX8_number : MethodName := ⟨RX8, "number", "(IIII)I"⟩
abbrev cX8_note : ByteArray := prog_10_method_46_code
def yX8_note : MethodName := ⟨RX8, "note", "(II)I"⟩
abbrev cX8_star : ByteArray := prog_10_method_47_code
def yX8_star : MethodName := ⟨RX8, "star", "(II)I"⟩
abbrev cX8_starOf : ByteArray := prog_10_method_48_code
def yX8_starOf : MethodName := ⟨RX8, "starOf", "(II)I"⟩
abbrev cX8_judgeStar : ByteArray := prog_10_method_49_code
def yX8_judgeStar : MethodName := ⟨RX8, "judgeStar", "(II)I"⟩
abbrev cX8_judge : ByteArray := prog_10_method_50_code
def yX8_judge : MethodName := ⟨RX8, "judge", "(III)I"⟩
abbrev cX8_pack : ByteArray := prog_10_method_51_code
def yX8_pack : MethodName := ⟨RX8, "pack", "(III)I"⟩
abbrev cX8_count : ByteArray := prog_10_method_52_code
def yX8_count : MethodName := ⟨RX8, "count", "(I)I"⟩
def RJ9 : String := "java/lang/Math"
def TJ9 : u_T := fun k => match k with
  | _ => ("", "", "", false)
def tyJ9 : Nat → FieldType := fun k => match k with
  | _ => .int
abbrev wsJ90 : List Cond := u_ws RJ9 TJ9 0
theorem nmJ9 : ∀ a, a < 0 → ∀ b, b < 0 → a ≠ b → (TJ9 a).2.1 ≠ (TJ9 b).2.1 := by decide +kernel
theorem tyJ9_ok : ∀ k, k < 0 → parseFieldDescriptor (TJ9 k).2.2.1 = some (tyJ9 k) := by decide +kernel
abbrev cJ9_floorMod_7cf53 : ByteArray := prog_11_method_50_code
def yJ9_floorMod_7cf53 : MethodName := ⟨RJ9, "floorMod", "(II)I"⟩
abbrev cJ9_max_7cf53 : ByteArray := prog_11_method_65_code
def yJ9_max_7cf53 : MethodName := ⟨RJ9, "max", "(II)I"⟩
abbrev cJ9_min_7cf53 : ByteArray := prog_11_method_69_code
def yJ9_min_7cf53 : MethodName := ⟨RJ9, "min", "(II)I"⟩
def RJ0 : String := "java/lang/String"
def TJ0 : u_T := fun k => match k with
  | _ => ("", "", "", false)
def tyJ0 : Nat → FieldType := fun k => match k with
  | _ => .int
abbrev wsJ00 : List Cond := u_ws RJ0 TJ0 0
theorem nmJ0 : ∀ a, a < 0 → ∀ b, b < 0 → a ≠ b → (TJ0 a).2.1 ≠ (TJ0 b).2.1 := by decide +kernel
theorem tyJ0_ok : ∀ k, k < 0 → parseFieldDescriptor (TJ0 k).2.2.1 = some (tyJ0 k) := by decide +kernel
abbrev cJ0_length_8abf5 : ByteArray := prog_12_method_54_code
def yJ0_length_8abf5 : MethodName := ⟨RJ0, "length", "()I"⟩
abbrev cJ0_charAt_5068e : ByteArray := prog_12_method_56_code
def yJ0_charAt_5068e : MethodName := ⟨RJ0, "charAt", "(I)C"⟩
abbrev cJ0_coder_7d493 : ByteArray := prog_12_method_152_code
def yJ0_coder_7d493 : MethodName := ⟨RJ0, "coder", "()B"⟩
abbrev cJ0_isLatin1_aae02 : ByteArray := prog_12_method_154_code
def yJ0_isLatin1_aae02 : MethodName := ⟨RJ0, "isLatin1", "()Z"⟩
abbrev cJ0_checkIndex_df160 : ByteArray := prog_12_method_155_code
def yJ0_checkIndex_df160 : MethodName := ⟨RJ0, "checkIndex", "(II)V"⟩
def RJ1 : String := "java/lang/StringLatin1"
def TJ1 : u_T := fun k => match k with
  | _ => ("", "", "", false)
def tyJ1 : Nat → FieldType := fun k => match k with
  | _ => .int
abbrev wsJ10 : List Cond := u_ws RJ1 TJ1 0
theorem nmJ1 : ∀ a, a < 0 → ∀ b, b < 0 → a ≠ b → (TJ1 a).2.1 ≠ (TJ1 b).2.1 := by decide +kernel
theorem tyJ1_ok : ∀ k, k < 0 → parseFieldDescriptor (TJ1 k).2.2.1 = some (tyJ1 k) := by decide +kernel
abbrev cJ1_charAt_3b067 : ByteArray := prog_13_method_2_code
def yJ1_charAt_3b067 : MethodName := ⟨RJ1, "charAt", "([BI)C"⟩
def RJ2 : String := "java/lang/StringUTF16"
def TJ2 : u_T := fun k => match k with
  | _ => ("", "", "", false)
def tyJ2 : Nat → FieldType := fun k => match k with
  | _ => .int
abbrev wsJ20 : List Cond := u_ws RJ2 TJ2 0
theorem nmJ2 : ∀ a, a < 0 → ∀ b, b < 0 → a ≠ b → (TJ2 a).2.1 ≠ (TJ2 b).2.1 := by decide +kernel
theorem tyJ2_ok : ∀ k, k < 0 → parseFieldDescriptor (TJ2 k).2.2.1 = some (tyJ2 k) := by decide +kernel
abbrev cJ2_getChar_3b067 : ByteArray := prog_14_method_5_code
def yJ2_getChar_3b067 : MethodName := ⟨RJ2, "getChar", "([BI)C"⟩
abbrev cJ2_length_9d52b : ByteArray := prog_14_method_6_code
def yJ2_length_9d52b : MethodName := ⟨RJ2, "length", "([B)I"⟩
abbrev cJ2_charAt_3b067 : ByteArray := prog_14_method_83_code
def yJ2_charAt_3b067 : MethodName := ⟨RJ2, "charAt", "([BI)C"⟩
abbrev cJ2_checkIndex_2214a : ByteArray := prog_14_method_91_code
def yJ2_checkIndex_2214a : MethodName := ⟨RJ2, "checkIndex", "(I[B)V"⟩
def RJ3 : String := "jdk/internal/util/Preconditions"
def TJ3 : u_T := fun k => match k with
  | _ => ("", "", "", false)
def tyJ3 : Nat → FieldType := fun k => match k with
  | _ => .int
abbrev wsJ30 : List Cond := u_ws RJ3 TJ3 0
theorem nmJ3 : ∀ a, a < 0 → ∀ b, b < 0 → a ≠ b → (TJ3 a).2.1 ≠ (TJ3 b).2.1 := by decide +kernel
theorem tyJ3_ok : ∀ k, k < 0 → parseFieldDescriptor (TJ3 k).2.2.1 = some (tyJ3 k) := by decide +kernel
abbrev cJ3_checkIndex_8e157 : ByteArray := prog_15_method_11_code
def yJ3_checkIndex_8e157 : MethodName := ⟨RJ3, "checkIndex", "(IILjava/util/function/BiFunction;)I"⟩
def RL : String := "NotePressLaw"
abbrev cL_law : ByteArray := code
def yL_law : MethodName := ⟨RL, "law", "([I)Z"⟩
abbrev vwCl : List vw_C := [(RX0, TX0, 3), (RX2, TX2, 5), (RX3, TX3, 5), (RX4, TX4, 4), (RX5, TX5, 4), (RX6, TX6, 3), (RX7, TX7, 5), (RX8, TX8, 8)]
