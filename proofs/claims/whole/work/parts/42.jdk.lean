def w0 : Unit → va_W := fun _ => []
def P0 : Nat → Prop := fun _ => False
theorem w0_D : ∀ σ, va_D P0 (w0 σ) := fun σ => ⟨(fun i j p q h => by cases h), (fun k q h => by cases h)⟩
theorem jW.nil {M : Type} {D : va_G} {w : M → va_W} {A : Nat → Prop} {σ : M} : jW D w w0 P0 A σ σ () () := by
  unfold jW
  refine ⟨?_, ?_, ?_⟩
  · intro H _ k q h
    cases h
  · intro H H1 hP _ hk
    refine va_P.kept hP (fun k q hq => ?_)
    have h1 := (hP k q hq).lt
    refine hk q.1 h1 (fun z => ?_)
    rcases z with z | z
    · exact False.elim z
    · omega
  · intro q h
    exact False.elim h
section JK
variable {M : Type} {p : Program} {l : Launch} {e : Env} {R : Room} {s : State} {m : MethodId} {args : Array Value} {below : List Frame} {meth : Method} {c : Code} {D : va_G} {tys : List (ClassId × FieldType)} {P : Nat → Prop} {w : M → va_W} {nL nc ns : Nat} {Q : State → Prop} {σ : M} {lv : List (Nat × Value)} {pc : Nat} {st : List Value} {cc : ByteArray} {own : String}
theorem g_kstat (C : Cx p s m args meth c cc nL own D tys P w) {index : Nat} {C0 n ds : String} {v : Value} (hz : va_Z C0 n ds v (fR P s.heap.size) s s.heap) (h : Cond.fieldLink own index C0 n ds ∈ tB) (d : decode cc pc = .ok (.getstatic index, 3)) (k : Gg p l e R s m args below meth c D P w nL nc ns Q σ lv (pc + 3) (v :: st)) : Gg p l e R s m args below meth c D P w nL nc ns Q σ lv pc st := fun H locs ls hP hS hl => va_gets C.1.1 C.1.2.1 hz hS C.1.2.2.2.1 (C.1.2.2.2.2 _ h) (fun _ h => h) d (k H locs ls hP hS hl)
theorem g_kget (C : Cx p s m args meth c cc nL own D tys P w) {index q : Nat} {o n ds : String} {v : Value} (hE : va_OF o n ds v q (fR P s.heap.size) s s.heap) (h : Cond.fieldLink own index o n ds ∈ tB) (d : decode cc pc = .ok (.getfield index, 3)) (k : Gg p l e R s m args below meth c D P w nL nc ns Q σ lv (pc + 3) (v :: st)) : Gg p l e R s m args below meth c D P w nL nc ns Q σ lv pc (.ref q :: st) := fun H locs ls hP hS hl => vk_getf C.1.1 C.1.2.1 hE hS C.1.2.2.2.1 (C.1.2.2.2.2 _ h) (fun _ h => h) d (k H locs ls hP hS hl)
theorem g_klen (C : Cx p s m args meth c cc nL own D tys P w) {t N : Nat} {ty : FieldType} {f : Nat → Value} (hT : va_T ty t N f (fR P s.heap.size) s s.heap) {v : Int32} (hv : Int32.ofNat N = v) (d : decode cc pc = .ok (.arraylength, 1)) (k : Gg p l e R s m args below meth c D P w nL nc ns Q σ lv (pc + 1) (.int v :: st)) : Gg p l e R s m args below meth c D P w nL nc ns Q σ lv pc (.ref t :: st) := fun H locs ls hP hS hl => va_tlen C.1.1 C.1.2.1 hT hS hv d (k H locs ls hP hS hl)
theorem g_kb (C : Cx p s m args meth c cc nL own D tys P w) {t N : Nat} {f : Nat → Value} (hT : va_T .byte t N f (fR P s.heap.size) s s.heap) {i : Int32} (hin : vp_in i N) {v : Value} (hv : f i.toNatClampNeg = v) (d : decode cc pc = .ok (.baload, 1)) (k : Gg p l e R s m args below meth c D P w nL nc ns Q σ lv (pc + 1) (v :: st)) : Gg p l e R s m args below meth c D P w nL nc ns Q σ lv pc (.int i :: .ref t :: st) := fun H locs ls hP hS hl => va_tb C.1.1 C.1.2.1 hT hS hin hv d (k H locs ls hP hS hl)
theorem g_ishr (C : Cx p s m args meth c cc nL own D tys P w) {x y z : Int32} (hz : x >>> (y &&& 31) = z) (d : decode cc pc = .ok (.ishr, 1)) (k : Gg p l e R s m args below meth c D P w nL nc ns Q σ lv (pc + 1) (.int z :: st)) : Gg p l e R s m args below meth c D P w nL nc ns Q σ lv pc (.int y :: .int x :: st) := fun H locs ls hP hS hl => lv_ishr C.1.1 C.1.2.1 d (by rw [hz]; exact (k H locs ls hP hS hl))
theorem g_i2c (C : Cx p s m args meth c cc nL own D tys P w) {x v : Int32} (hv : (x.toUInt32 % 65536).toInt32 = v) (d : decode cc pc = .ok (.i2c, 1)) (k : Gg p l e R s m args below meth c D P w nL nc ns Q σ lv (pc + 1) (.int v :: st)) : Gg p l e R s m args below meth c D P w nL nc ns Q σ lv pc (.int x :: st) := fun H locs ls hP hS hl => lv_i2c C.1.1 C.1.2.1 d hv (k H locs ls hP hS hl)
theorem g_nret (C : Cx p s m args meth c cc nL own D tys P w) {ty : FieldType} {x : Int32} (hr : meth.sig.returnType = some ty) (hn : narrow ty (.int x) = .int x) (d : decode cc pc = .ok (.ireturn, 1)) : Gg p l e R s m args below meth c D P w nL nc ns (MQ below (qI D w P σ x s.heap.size) args s nc ns (fR P s.heap.size)) σ lv pc [.int x] := fun H locs ls hP hS hl => W.zret C.1.1 C.1.2.1 hr hn (fun t ht hW => ⟨⟨x, (), rfl, rfl, by show va_P D vwCl (w σ) t.heap; rw [ht]; exact hP⟩, hS.F ht⟩) hS.2.2 d C.2.2.2.1
theorem g_cKi (C : Cx p s m args meth c cc nL own D tys P w) {st0 : List Value} {y : MethodName} {cc' : ByteArray} {nL' d' n index : Nat} {ret' : Option FieldType} {As : List Value} {r : Int32} {b : Nat} (hO : va_O y.cls b (fR P s.heap.size) s s.heap) (hM : Mq l D tys w0 P0 y cc' nL' ret' d' (.ref b :: As) () (qI D w0 P0 () r)) (Y : yV y cc' nL' ret' n) (hk : Cond.methodLink own index y ∈ tB) (hn : As.length = n) (hR : d' + 1 ≤ R.frames ∧ 8 + (nL' + 11) + 40 * d' ≤ R.locals) (hc : nc ≤ R.cells ∧ ns ≤ R.slots) (hroom : (st.map fun v => v.category).sum ≤ 8) (d : decode cc pc = .ok (.invokevirtual index, 3)) (hst : st0 = As.reverse ++ .ref b :: st) (k : Gg p l e R s m args below meth c D P w nL nc ns Q σ lv (pc + 3) (.int r :: st)) : Gg p l e R s m args below meth c D P w nL nc ns Q σ lv pc st0 := fun H locs ls hP hS hl => by
  have J : jW D w w0 P0 (fR P s.heap.size) σ σ () () := jW.nil
  refine va_calli (va_runV (As := As) (rest := st) C.1 (hM H.size) (cwV n C.1.2.2.2.2 (tB_GV Y hk) rfl rfl rfl ⟨rfl, Y.2.2.2.2⟩ hR) ⟨pR_blind, ?_, fun U hU hW => ⟨rfl, pR_go C J hP hS U hU hW⟩⟩ rfl hn hl.1 hst (lv_room hroom) d hc) hS (fun q _ h => J.free hS q h) (J.free hS) (fun r1 u t H1 locs1 ht hvm hp hB hz hk hS1 => ?_)
  · obtain ⟨cell, h1, h2, h3, -⟩ := hO.kept hS.2.1
    exact ⟨cell, h1, h2, h3⟩
  · have hp : r1 = r := hp
    subst hp
    exact k H1 locs1 ls (J.2.1 H H1 hP (by rw [← ht]; exact hB) hk) hS1 hl
theorem g_ldcS (C : Cx p s m args meth c cc nL "NotePress" D tys P w) (d : decode cc pc = .ok (.ldc 40, 2)) (k : Gg p l e R s m args below meth c D P w nL nc ns Q σ lv (pc + 2) (.ref (D.2 99 0) :: st)) : Gg p l e R s m args below meth c D P w nL nc ns Q σ lv pc st := fun H locs ls hP hS hl => va_ldcS C.1.1 C.1.2.1 C.1.2.2.2.1 C.2.2.2.2.2.2.1 d (k H locs ls hP hS hl)
theorem kS_of (C : Cx p s m args meth c cc nL own D tys P w) : va_O "java/lang/String" (D.2 99 0) (fR P s.heap.size) s s.heap ∧ va_OF "java/lang/String" "coder" "B" (.int 0) (D.2 99 0) (fR P s.heap.size) s s.heap ∧ va_OF "java/lang/String" "value" "[B" (.ref (D.2 98 0)) (D.2 99 0) (fR P s.heap.size) s s.heap ∧ va_T .byte (D.2 98 0) 38 (fun j => .int (ftB.getD j 0)) (fR P s.heap.size) s s.heap := C.2.2.2.2.2.2.2.1.1 0 (by decide)
theorem kZ_of (C : Cx p s m args meth c cc nL own D tys P w) : va_Z "java/lang/String" "COMPACT_STRINGS" "Z" (.int 1) (fR P s.heap.size) s s.heap ∧ ∃ v, va_Z "jdk/internal/util/Preconditions" "SIOOBE_FORMATTER" "Ljava/util/function/BiFunction;" v (fR P s.heap.size) s s.heap ∧ (v = .null ∨ ∃ x, v = .ref x) := C.2.2.2.2.2.2.2.2
end JK
theorem y_J0_coder : yV yJ0_coder_7d493 cJ0_coder_7d493 1 (some .byte) 0 := ⟨tw_168, tw_169, tw_8, tw_170, by decide, by decide, by decide⟩
theorem y_J0_length : yV yJ0_length_8abf5 cJ0_length_8abf5 1 (some .int) 0 := ⟨tw_164, tw_165, tw_8, tw_166, by decide, by decide, by decide⟩
theorem y_J0_isLatin1 : yV yJ0_isLatin1_aae02 cJ0_isLatin1_aae02 1 (some .boolean) 0 := ⟨tw_178, tw_179, tw_8, tw_180, by decide, by decide, by decide⟩
theorem y_J0_charAt : yV yJ0_charAt_5068e cJ0_charAt_5068e 2 (some .char) 1 := ⟨tw_174, tw_175, tw_8, tw_176, by decide, by decide, by decide⟩
theorem y_J1_charAt : yS yJ1_charAt_3b067 cJ1_charAt_3b067 2 (some .char) 2 := ⟨tw_182, tw_9, tw_183, by decide, by decide, by decide⟩
theorem y_J0_checkIndex : yS yJ0_checkIndex_df160 cJ0_checkIndex_df160 2 none 2 := ⟨tw_185, tw_8, tw_186, by decide, by decide, by decide⟩
theorem y_J3_checkIndex : yS yJ3_checkIndex_8e157 cJ3_checkIndex_8e157 3 (some .int) 3 := ⟨tw_190, tw_10, tw_191, by decide, by decide, by decide⟩
theorem c_J0_coder (l : Launch) (D : va_G) {tys : List (ClassId × FieldType)} : Mq l D tys w0 P0 yJ0_coder_7d493 cJ0_coder_7d493 1 (some .byte) 0 [.ref (D.2 99 0)] () (qI D w0 P0 () 0) := by
  refine mOf (by decide) w0_D (Nat.le_of_ble_eq_true rfl) [(0, .ref (D.2 99 0))] rfl ?_
  intro p e s m args below meth c C hr
  refine g_kstat (pc := 0) C (kZ_of C).1 tw_171 dJ0_coder_7d493_0 ?_
  refine g_if_eq (pc := 3) C 13 dJ0_coder_7d493_3 (by decide) (fun z => absurd z (by decide)) (fun _ => ?_)
  refine g_aload_n (pc := 6) C dJ0_coder_7d493_6 0 rfl rfl ?_
  refine g_kget (pc := 7) C (kS_of C).2.1 tw_858 dJ0_coder_7d493_7 ?_
  refine g_goto (pc := 10) C 14 dJ0_coder_7d493_10 (by decide) ?_
  exact g_nret (pc := 14) C hr rfl dJ0_coder_7d493_14
theorem c_J0_isLatin1 (l : Launch) (D : va_G) {tys : List (ClassId × FieldType)} : Mq l D tys w0 P0 yJ0_isLatin1_aae02 cJ0_isLatin1_aae02 1 (some .boolean) 0 [.ref (D.2 99 0)] () (qI D w0 P0 () 1) := by
  refine mOf (by decide) w0_D (Nat.le_of_ble_eq_true rfl) [(0, .ref (D.2 99 0))] rfl ?_
  intro p e s m args below meth c C hr
  refine g_kstat (pc := 0) C (kZ_of C).1 tw_171 dJ0_isLatin1_aae02_0 ?_
  refine g_if_eq (pc := 3) C 17 dJ0_isLatin1_aae02_3 (by decide) (fun z => absurd z (by decide)) (fun _ => ?_)
  refine g_aload_n (pc := 6) C dJ0_isLatin1_aae02_6 0 rfl rfl ?_
  refine g_kget (pc := 7) C (kS_of C).2.1 tw_858 dJ0_isLatin1_aae02_7 ?_
  refine g_if_ne (pc := 10) C 17 dJ0_isLatin1_aae02_10 (by decide) (fun z => absurd rfl z) (fun _ => ?_)
  refine g_iconst (pc := 13) C dJ0_isLatin1_aae02_13 ic_1 ?_
  refine g_goto (pc := 14) C 18 dJ0_isLatin1_aae02_14 (by decide) ?_
  exact g_nret (pc := 18) C hr rfl dJ0_isLatin1_aae02_18
theorem c_J0_length (l : Launch) (D : va_G) {tys : List (ClassId × FieldType)} : Mq l D tys w0 P0 yJ0_length_8abf5 cJ0_length_8abf5 1 (some .int) 1 [.ref (D.2 99 0)] () (qI D w0 P0 () 38) := by
  refine mOf (by decide) w0_D (Nat.le_of_ble_eq_true rfl) [(0, .ref (D.2 99 0))] rfl ?_
  intro p e s m args below meth c C hr
  refine g_aload_n (pc := 0) C dJ0_length_8abf5_0 0 rfl rfl ?_
  refine g_kget (pc := 1) C (kS_of C).2.2.1 tw_857 dJ0_length_8abf5_1 ?_
  refine g_klen (pc := 4) C (kS_of C).2.2.2 (v := 38) (by decide) dJ0_length_8abf5_4 ?_
  refine g_aload_n (pc := 5) C dJ0_length_8abf5_5 0 rfl rfl ?_
  refine g_cKi (pc := 6) C (st := [.int 38]) (kS_of C).1 (c_J0_coder l D) y_J0_coder tw_167 rfl ⟨by decide, by decide⟩ ⟨Nat.zero_le _, Nat.zero_le _⟩ (Nat.le_of_ble_eq_true rfl) dJ0_length_8abf5_6 rfl ?_
  refine g_ishr (pc := 9) C (z := 38) (by decide) dJ0_length_8abf5_9 ?_
  exact g_iret (pc := 10) C hr dJ0_length_8abf5_10
theorem c_J3_checkIndex (l : Launch) (D : va_G) {tys : List (ClassId × FieldType)} {i n : Int32} {v : Value} (hv : v = .null ∨ ∃ x, v = .ref x) (h0 : ¬ i < 0) (h1 : i < n) : Mq l D tys w0 P0 yJ3_checkIndex_8e157 cJ3_checkIndex_8e157 3 (some .int) 0 [.int i, .int n, v] () (qI D w0 P0 () i) := by
  rcases hv with rfl | ⟨x, rfl⟩
  · refine mOf (by decide) w0_D (Nat.le_of_ble_eq_true rfl) [(0, .int i), (1, .int n), (2, .null)] rfl ?_
    intro p e s m args below meth c C hr
    refine g_iload_n (pc := 0) C dJ3_checkIndex_8e157_0 0 rfl rfl ?_
    refine g_if_lt (pc := 1) C 9 dJ3_checkIndex_8e157_1 (by decide) (fun z => absurd z h0) (fun _ => ?_)
    refine g_iload_n (pc := 4) C dJ3_checkIndex_8e157_4 0 rfl rfl ?_
    refine g_iload_n (pc := 5) C dJ3_checkIndex_8e157_5 1 rfl rfl ?_
    refine g_icmp_lt (pc := 6) C 16 dJ3_checkIndex_8e157_6 (by decide) (fun _ => ?_) (fun z => absurd h1 z)
    refine g_iload_n (pc := 16) C dJ3_checkIndex_8e157_16 0 rfl rfl ?_
    exact g_iret (pc := 17) C hr dJ3_checkIndex_8e157_17
  · refine mOf (by decide) w0_D (Nat.le_of_ble_eq_true rfl) [(0, .int i), (1, .int n), (2, .ref x)] rfl ?_
    intro p e s m args below meth c C hr
    refine g_iload_n (pc := 0) C dJ3_checkIndex_8e157_0 0 rfl rfl ?_
    refine g_if_lt (pc := 1) C 9 dJ3_checkIndex_8e157_1 (by decide) (fun z => absurd z h0) (fun _ => ?_)
    refine g_iload_n (pc := 4) C dJ3_checkIndex_8e157_4 0 rfl rfl ?_
    refine g_iload_n (pc := 5) C dJ3_checkIndex_8e157_5 1 rfl rfl ?_
    refine g_icmp_lt (pc := 6) C 16 dJ3_checkIndex_8e157_6 (by decide) (fun _ => ?_) (fun z => absurd h1 z)
    refine g_iload_n (pc := 16) C dJ3_checkIndex_8e157_16 0 rfl rfl ?_
    exact g_iret (pc := 17) C hr dJ3_checkIndex_8e157_17
theorem c_J0_checkIndex (l : Launch) (D : va_G) {tys : List (ClassId × FieldType)} {i n : Int32} (h0 : ¬ i < 0) (h1 : i < n) : Mq l D tys w0 P0 yJ0_checkIndex_df160 cJ0_checkIndex_df160 2 none 1 [.int i, .int n] () (qV D w0 P0 ()) := by
  refine mOf (by decide) w0_D (Nat.le_of_ble_eq_true rfl) [(0, .int i), (1, .int n)] rfl ?_
  intro p e s m args below meth c C hr
  obtain ⟨v, hz, hv⟩ := (kZ_of C).2
  refine g_iload_n (pc := 0) C dJ0_checkIndex_df160_0 0 rfl rfl ?_
  refine g_iload_n (pc := 1) C dJ0_checkIndex_df160_1 1 rfl rfl ?_
  refine g_kstat (pc := 2) C hz tw_187 dJ0_checkIndex_df160_2 ?_
  refine g_cSi (pc := 5) C (st := []) jW.nil (c_J3_checkIndex l D hv h0 h1) y_J3_checkIndex tw_189 rfl ⟨by decide, by decide⟩ ⟨Nat.zero_le _, Nat.zero_le _⟩ (Nat.le_of_ble_eq_true rfl) dJ0_checkIndex_df160_5 rfl ?_
  refine g_pop (pc := 8) C dJ0_checkIndex_df160_8 rfl ?_
  exact g_vret (pc := 9) C hr dJ0_checkIndex_df160_9
theorem c_J1_charAt (l : Launch) (D : va_G) {tys : List (ClassId × FieldType)} {k : Nat} (hk : k < 38) : Mq l D tys w0 P0 yJ1_charAt_3b067 cJ1_charAt_3b067 2 (some .char) 2 [.ref (D.2 98 0), .int (nI k)] () (qI D w0 P0 () (ftB.getD k 0 &&& 255)) := by
  refine mOf (by decide) w0_D (Nat.le_of_ble_eq_true rfl) [(0, .ref (D.2 98 0)), (1, .int (nI k))] rfl ?_
  intro p e s m args below meth c C hr
  refine g_iload_n (pc := 0) C dJ1_charAt_3b067_0 1 rfl rfl ?_
  refine g_aload_n (pc := 1) C dJ1_charAt_3b067_1 0 rfl rfl ?_
  refine g_klen (pc := 2) C (kS_of C).2.2.2 (v := nI 38) rfl dJ1_charAt_3b067_2 ?_
  refine g_cSv (pc := 3) C (st := []) jW.nil (c_J0_checkIndex l D (nI_pos (by omega)) (nI_lt hk (by decide))) y_J0_checkIndex tw_184 rfl ⟨by decide, by decide⟩ ⟨Nat.zero_le _, Nat.zero_le _⟩ (Nat.le_of_ble_eq_true rfl) dJ1_charAt_3b067_3 rfl ?_
  refine g_aload_n (pc := 6) C dJ1_charAt_3b067_6 0 rfl rfl ?_
  refine g_iload_n (pc := 7) C dJ1_charAt_3b067_7 1 rfl rfl ?_
  refine g_kb (pc := 8) C (kS_of C).2.2.2 (vp_in_nI hk (by omega)) (v := .int (ftB.getD k 0)) (by rw [nI_clamp (by omega)]) dJ1_charAt_3b067_8 ?_
  refine g_sipush (pc := 9) C dJ1_charAt_3b067_9 (show (Int16.ofInt 255).toInt32 = 255 by decide) ?_
  refine g_iand (pc := 12) C dJ1_charAt_3b067_12 ?_
  refine g_i2c (pc := 13) C (sc_c2 _) dJ1_charAt_3b067_13 ?_
  exact g_nret (pc := 14) C hr (sc_nar _) dJ1_charAt_3b067_14
theorem c_J0_charAt (l : Launch) (D : va_G) {tys : List (ClassId × FieldType)} {k : Nat} (hk : k < 38) : Mq l D tys w0 P0 yJ0_charAt_5068e cJ0_charAt_5068e 2 (some .char) 3 [.ref (D.2 99 0), .int (nI k)] () (qI D w0 P0 () (ftB.getD k 0 &&& 255)) := by
  refine mOf (by decide) w0_D (Nat.le_of_ble_eq_true rfl) [(0, .ref (D.2 99 0)), (1, .int (nI k))] rfl ?_
  intro p e s m args below meth c C hr
  refine g_aload_n (pc := 0) C dJ0_charAt_5068e_0 0 rfl rfl ?_
  refine g_cKi (pc := 1) C (st := []) (kS_of C).1 (c_J0_isLatin1 l D) y_J0_isLatin1 tw_177 rfl ⟨by decide, by decide⟩ ⟨Nat.zero_le _, Nat.zero_le _⟩ (Nat.le_of_ble_eq_true rfl) dJ0_charAt_5068e_1 rfl ?_
  refine g_if_eq (pc := 4) C 16 dJ0_charAt_5068e_4 (by decide) (fun z => absurd z (by decide)) (fun _ => ?_)
  refine g_aload_n (pc := 7) C dJ0_charAt_5068e_7 0 rfl rfl ?_
  refine g_kget (pc := 8) C (kS_of C).2.2.1 tw_857 dJ0_charAt_5068e_8 ?_
  refine g_iload_n (pc := 11) C dJ0_charAt_5068e_11 1 rfl rfl ?_
  refine g_cSi (pc := 12) C (st := []) jW.nil (c_J1_charAt l D hk) y_J1_charAt tw_181 rfl ⟨by decide, by decide⟩ ⟨Nat.zero_le _, Nat.zero_le _⟩ (Nat.le_of_ble_eq_true rfl) dJ0_charAt_5068e_12 rfl ?_
  exact g_nret (pc := 15) C hr (sc_nar _) dJ0_charAt_5068e_15
