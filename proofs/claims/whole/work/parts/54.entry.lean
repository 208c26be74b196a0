theorem tbl_1 {w : Cond} (i : Nat) (h : tables_1_1[i]? = some w) : w ∈ lw_tbl := List.mem_append_right _ (List.mem_append_left _ (List.mem_of_getElem? h))
theorem tbl_2 {w : Cond} (i : Nat) (h : tables_1_2[i]? = some w) : w ∈ lw_tbl := List.mem_append_right _ (List.mem_append_right _ (List.mem_append_left _ (List.mem_of_getElem? h)))
theorem tbl_3 {w : Cond} (i : Nat) (h : tables_1_3[i]? = some w) : w ∈ lw_tbl := List.mem_append_right _ (List.mem_append_right _ (List.mem_append_right _ (List.mem_append_left _ (List.mem_of_getElem? h))))
theorem tbl_4 {w : Cond} (i : Nat) (h : tables_1_4[i]? = some w) : w ∈ lw_tbl := List.mem_append_right _ (List.mem_append_right _ (List.mem_append_right _ (List.mem_append_right _ (List.mem_of_getElem? h))))
theorem nW_in : ∀ w ∈ nW, w ∈ lw_tbl := List.forall_mem_cons.mpr ⟨tbl_1 25 rfl, List.forall_mem_cons.mpr ⟨tbl_1 31 rfl, List.forall_mem_cons.mpr ⟨tbl_1 43 rfl, List.forall_mem_cons.mpr ⟨tbl_1 50 rfl, List.forall_mem_cons.mpr ⟨tbl_1 52 rfl, List.forall_mem_cons.mpr ⟨tbl_1 64 rfl, List.forall_mem_cons.mpr ⟨tbl_1 73 rfl, List.forall_mem_cons.mpr ⟨tbl_1 96 rfl, List.forall_mem_cons.mpr ⟨tbl_1 101 rfl, List.forall_mem_cons.mpr ⟨tbl_1 102 rfl, List.forall_mem_cons.mpr ⟨tbl_1 104 rfl, List.forall_mem_cons.mpr ⟨tbl_1 106 rfl, List.forall_mem_cons.mpr ⟨tbl_1 108 rfl, List.forall_mem_cons.mpr ⟨tbl_1 109 rfl, List.forall_mem_cons.mpr ⟨tbl_1 122 rfl, List.forall_mem_cons.mpr ⟨tbl_1 123 rfl, List.forall_mem_cons.mpr ⟨tbl_1 125 rfl, List.forall_mem_cons.mpr ⟨tbl_1 127 rfl, List.forall_mem_cons.mpr ⟨tbl_1 128 rfl, List.forall_mem_cons.mpr ⟨tbl_1 141 rfl, List.forall_mem_cons.mpr ⟨tbl_1 144 rfl, List.forall_mem_cons.mpr ⟨tbl_1 145 rfl, List.forall_mem_cons.mpr ⟨tbl_1 147 rfl, List.forall_mem_cons.mpr ⟨tbl_1 149 rfl, List.forall_mem_cons.mpr ⟨tbl_1 150 rfl, List.forall_mem_cons.mpr ⟨tbl_2 7 rfl, List.forall_mem_cons.mpr ⟨tbl_2 111 rfl, List.forall_mem_cons.mpr ⟨tbl_2 116 rfl, List.forall_mem_cons.mpr ⟨tbl_2 187 rfl, List.forall_mem_cons.mpr ⟨tbl_3 50 rfl, List.forall_mem_cons.mpr ⟨tbl_3 78 rfl, fun _ h => absurd h List.not_mem_nil⟩⟩⟩⟩⟩⟩⟩⟩⟩⟩⟩⟩⟩⟩⟩⟩⟩⟩⟩⟩⟩⟩⟩⟩⟩⟩⟩⟩⟩⟩⟩
theorem fl_el : ∀ j, j < 38 → Cond.eq (.elem (.field (.string "NotePress" 40) "java/lang/String" "value" "[B") (.int (Int32.ofNat j))) (.int (ftB.getD j 0)) ∈ flatC (Jvm.Cond.and given_1 narrow_1) := by decide +kernel
theorem fl_tu : ∀ j, j < 10 → Cond.eq (.elem (.static "NotePress$Checks" "TURNED" "[I") (.int (Int32.ofNat j))) (.int (turnT j)) ∈ flatC (Jvm.Cond.and given_1 narrow_1) := by decide +kernel
theorem ent {p : Program} {s : State} {m : MethodId} {meth : Method} {c : Code} {b L : Nat} {xs : Nat → Int32} (C0 : lw_At p s m meth c b L xs) : ∃ (D : va_G) (cI cH cE : ClassId), Cx p s m #[Value.ref b] meth c cL_law 4 "NotePressLaw" D (tyc cI cH cE cI) P0 (swv (A := fR P0 s.heap.size)) := by
  obtain ⟨hx, hb, hr, hml, hown, hts, hX, hbl, hlocks, hgv⟩ := C0
  have hB : ∀ w ∈ tB, w.before #[Value.ref b] s = true := fun w h => hts w (List.mem_filter.mp h).1
  have hs := flat_of_before _ hgv
  have hA : ∀ a : Nat, a < s.heap.size → ¬ fR P0 s.heap.size a := fun a h z => by
    rcases z with z | z
    · exact False.elim z
    · omega
  obtain ⟨c0, i0, k0⟩ := u_known (C := RX0) (T := TX0) (N := 3) (n := 3) hB in_X0 (hB _ tw_63)
  obtain ⟨c1, i1, k1⟩ := u_known (C := RX2) (T := TX2) (N := 5) (n := 5) hB in_X2 (hB _ tw_82)
  obtain ⟨c2, i2, k2⟩ := u_known (C := RX3) (T := TX3) (N := 5) (n := 5) hB in_X3 (hB _ tw_89)
  obtain ⟨c3, i3, k3⟩ := u_known (C := RX4) (T := TX4) (N := 4) (n := 4) hB in_X4 (hB _ tw_95)
  obtain ⟨c4, i4, k4⟩ := u_known (C := RX5) (T := TX5) (N := 4) (n := 4) hB in_X5 (hB _ tw_42)
  obtain ⟨c5, i5, k5⟩ := u_known (C := RX6) (T := TX6) (N := 3) (n := 3) hB in_X6 (hB _ tw_24)
  obtain ⟨c6, i6, k6⟩ := u_known (C := RX7) (T := TX7) (N := 5) (n := 5) hB in_X7 (hB _ tw_16)
  obtain ⟨c7, i7, k7⟩ := u_known (C := RX8) (T := TX8) (N := 8) (n := 8) hB in_X8 (hB _ tw_613)
  obtain ⟨t, ht1, ht2⟩ := va_Tof (tm := .static "NotePress$Checks" "TURNED" "[I") (ty := .int) (N := 10) (f := fun j => .int (turnT j)) (A := fR P0 s.heap.size) (by decide) (hs _ (by decide +kernel)) (va_eqt (hs (Cond.eq (.length (.static "NotePress$Checks" "TURNED" "[I")) (.int (Int32.ofNat 10))) (by decide +kernel))) (fun j hj => va_eqt (hs _ (fl_tu j hj))) hA
  have hZt := va_Zref (hts _ (tbl_3 52 rfl)) (hB _ tw_14) ht1 hA
  obtain ⟨adK, adV, hS1, hS2⟩ := vk_Sof (N := 1) (tm := fun _ => .string "NotePress" 40) (len := [38]) (byt := [ftB]) (A := fR P0 s.heap.size) (fun i hi => by match i, hi with | 0, _ => decide) (fun i _ => hs _ (by decide +kernel)) (fun i _ => hs _ (by decide +kernel)) (fun i _ => hs _ (by decide +kernel)) (fun i hi => by match i, hi with | 0, _ => exact hs _ (by decide +kernel)) (fun i hi => by match i, hi with | 0, _ => exact fun j hj => hs _ (fl_el j hj)) (fun i j hi hj hij => absurd (show i = j by omega) hij) hA
  have hZc := va_Zof (hts _ (tbl_1 172 rfl)) (hB _ tw_8) (va_eqt (hs (Cond.eq (.static "java/lang/String" "COMPACT_STRINGS" "Z") (.int 1)) (by decide +kernel))) hA
  obtain ⟨v, hv1, hv2⟩ := Cond.isRef_spec (hs (Cond.isRef (.static "jdk/internal/util/Preconditions" "SIOOBE_FORMATTER" "Ljava/util/function/BiFunction;")) (by decide +kernel))
  have hZv := va_Zof (hts _ (tbl_1 188 rfl)) (hB _ tw_10) hv1 hA
  have hR := vk_R.of (hts _ (tbl_1 162 rfl)) (hS2 0 (by decide))
  obtain ⟨cI, kI, pI, f1, f2, f3⟩ := Cond.arrayClass_spec (hB _ tw_40)
  have aH := hts _ (tbl_1 69 rfl)
  have aE := hts _ (tbl_1 88 rfl)
  obtain ⟨pH, cH, kH, g1, g2, g3, g4, g5⟩ := Cond.arrayOver_spec aH
  obtain ⟨pE, cE, kE, e1, e2, e3, e4, e5⟩ := Cond.arrayOver_spec aE
  have hAI : ArrOfT s cI .int ∧ va_RA s cI .int := ⟨fun n z => ⟨(fun k h => by cases h), kI, f2, pI, f3⟩, f1⟩
  have hAH : ArrOfT s cH (.object "NotePress$Share") ∧ va_RA s cH (.object "NotePress$Share") := ⟨fun n z => ⟨(fun k h => by cases h), kH, g3, pH, g4⟩, kH, pH, g3, g4, g1, g5⟩
  have hAE : ArrOfT s cE (.object "NotePress$Series") ∧ va_RA s cE (.object "NotePress$Series") := ⟨fun n z => ⟨(fun k h => by cases h), kE, e3, pE, e4⟩, kE, pE, e3, e4, e1, e5⟩
  refine ⟨(fun k => [c0, c1, c2, c3, c4, c5, c6, c7].getD k c0, fun k => if k = 99 then adK else if k = 98 then adV else [i0, i1, i2, i3, i4, i5, i6, i7].getD k i0), cI, cH, cE, ⟨hx, hb, hml, hown, hB⟩, ⟨fun k q hq => ?_, fun k q hq => ?_⟩, fun σ => σ.2, hlocks, ⟨fun w hw => va_Nw.of (ne_tab (nW_ne w hw)) (hts w (nW_in w hw)), va_AO.of aH, va_AO.of aE⟩, ⟨t, hZt, ht2⟩, hR, hS1, hZc, v, hZv, ?_⟩
  · match k, hq with
    | 0, hq => cases hq; exact k0
    | 1, hq => cases hq; exact k1
    | 2, hq => cases hq; exact k2
    | 3, hq => cases hq; exact k3
    | 4, hq => cases hq; exact k4
    | 5, hq => cases hq; exact k5
    | 6, hq => cases hq; exact k6
    | 7, hq => cases hq; exact k7
    | k + 8, hq => cases hq
  · match k, hq with
    | 0, hq => cases hq; exact hAI
    | 1, hq => cases hq; exact hAH
    | 2, hq => cases hq; exact hAE
    | 3, hq => cases hq; exact hAI
    | k + 4, hq => cases hq
  · cases v <;> first | exact Or.inl rfl | exact Or.inr ⟨_, rfl⟩ | cases hv2
def cz (a b : Nat → Nat) (k : Nat) : Nat := if k < 51 then a k else b (k - 51)
theorem wz_fst {cI cH cE cJ : ClassId} {a b : Nat → Nat} {z : Me × Me} : (wz cI cH cE cJ a b z).map Prod.fst = (List.range 57).map (cz a b) := by
  unfold wz
  rw [List.map_append, wc_fst, wm_fst]
  rfl
theorem cz_a {a b : Nat → Nat} {i : Nat} (h : i < 51) : cz a b i = a i := if_pos h
theorem cz_b {a b : Nat → Nat} {j : Nat} : cz a b (51 + j) = b j := by
  unfold cz
  rw [if_neg (by omega), show 51 + j - 51 = j by omega]
set_option maxHeartbeats 4000000 in
/-- THE LAW, from its entry -/
theorem whole_start {p : Program} {e : Env} {s : State} {m : MethodId} {below : List Frame} {meth : Method} {c : Code} (l : Launch) (hflags : l.flags = flags0) {b L : Nat} {xs : Nat → Int32} (hL : L ≤ 2560) (C0 : lw_At p s m meth c b L xs) : W p l e room_1 s m #[Value.ref b] below meth c s.heap [] 0 0 (lw_Z below #[Value.ref b] s) (entryFrame m ([Value.ref b] : List Value).toArray 4) := by
  obtain ⟨D, cI, cH, cE, C⟩ := ent C0
  obtain ⟨hx, hb, hr, hml, hown, hts, hX, hbl, hlocks, hgv⟩ := C0
  have hl := lv_entry [Value.ref b] (n := 4) (Nat.le_of_ble_eq_true rfl)
  rw [lg_entry_eq]
  have hD0 : va_D (fR P0 s.heap.size) ([] : va_W) := ⟨(fun i j p q h => by cases h), (fun k q h => by cases h)⟩
  obtain ⟨σ0, e0⟩ : ∃ σ0 : SW (fR P0 s.heap.size), swv σ0 = [] := ⟨⟨[], hD0⟩, rfl⟩
  have G : Gg p l e room_1 s m #[Value.ref b] below meth c D P0 swv 4 0 0 (lw_Z below #[Value.ref b] s) σ0 [(0, .ref b)] 0 [] := by
    refine s_new (pc := 0) C [.null, .null, .null, .null, .null] in_X7 tyX7_ok tw_15 tw_16 tw_1 cl_X7 (fun j hj => by match j, hj with | 0, _ => rfl | 1, _ => rfl | 2, _ => rfl | 3, _ => rfl | 4, _ => rfl) (Nat.le_of_ble_eq_true rfl) (Nat.le_of_ble_eq_true rfl) dL_law_0 (fun q1 σ1 e1 => ?_)
    rw [e0] at e1
    refine g_dup (pc := 3) C dL_law_3 rfl ?_
    refine s_conI (pc := 4) C [] e1 (c_X7_init l D (cI := cI) (cH := cH) (cE := cE) (cJ := cI)) tw_19 tw_1 tw_17 tw_18 rfl ⟨by decide, by decide, by decide⟩ ⟨by decide, by decide⟩ ⟨Nat.le_of_ble_eq_true rfl, Nat.le_of_ble_eq_true rfl⟩ (Nat.le_of_ble_eq_true rfl) dL_law_4 (fun a1 σ2 e2 => ?_)
    refine g_astore_n (pc := 7) C [(1, .ref q1), (0, .ref b)] dL_law_7 rfl (by decide) rfl ?_
    refine s_new (pc := 8) C [.int 0, .null, .int 0, .null, .null, .null, .null, .int 0] in_X8 tyX8_ok tw_612 tw_613 tw_13 cl_X8 (fun j hj => by match j, hj with | 0, _ => rfl | 1, _ => rfl | 2, _ => rfl | 3, _ => rfl | 4, _ => rfl | 5, _ => rfl | 6, _ => rfl | 7, _ => rfl) (Nat.le_of_ble_eq_true rfl) (Nat.le_of_ble_eq_true rfl) dL_law_8 (fun q2 σ3 e3 => ?_)
    rw [e2] at e3
    refine g_dup (pc := 11) C dL_law_11 rfl ?_
    refine s_conI (pc := 12) C _ e3 (c_X8_init l D (cI := cI) (cH := cH) (cE := cE) (cJ := cI)) tw_616 tw_13 tw_614 tw_615 rfl ⟨by decide, by decide, by decide⟩ ⟨by decide, by decide⟩ ⟨Nat.le_of_ble_eq_true rfl, Nat.le_of_ble_eq_true rfl⟩ (Nat.le_of_ble_eq_true rfl) dL_law_12 (fun a2 σ4 e4 => ?_)
    refine g_astore_n (pc := 15) C [(2, .ref q2), (1, .ref q1), (0, .ref b)] dL_law_15 rfl (by decide) rfl ?_
    refine g_iconst (pc := 16) C dL_law_16 ic_0 ?_
    refine g_istore_n (pc := 17) C (LV (qa q1 a1) (qa q2 a2) b 0) dL_law_17 rfl (by decide) rfl ?_
    have e4 : swv σ4 = wz cI cH cE cI (qa q1 a1) (qa q2 a2) (sFt, m5) := e4.trans (by unfold wz; dsimp only; rw [List.nil_append])
    have r0 := rD σ4.2 (show σ4.1.map Prod.fst = (List.range 57).map (cz (qa q1 a1) (qa q2 a2)) by rw [show σ4.1 = wz cI cH cE cI (qa q1 a1) (qa q2 a2) (sFt, m5) from e4]; exact wz_fst)
    refine s_to (w := wz cI cH cE cI (qa q1 a1) (qa q2 a2)) (τ := (sFt, m5)) (fun H hP => by rw [e4] at hP; exact hP) ?_
    have C1 : Cx p s m #[Value.ref b] meth c cL_law 4 "NotePressLaw" D (tyc cI cH cE cI) P0 (wz cI cH cE cI (qa q1 a1) (qa q2 a2)) := ⟨C.1, C.2.1, fun z => of_rD wz_fst r0.1 r0.2, C.2.2.2⟩
    have h57 : 0 + 1 + 50 + 1 + 5 ≤ room_1.cells ∧ 0 + 5 + 594 + 8 + 1034 ≤ room_1.slots := ⟨Nat.le_of_ble_eq_true rfl, Nat.le_of_ble_eq_true rfl⟩
    refine law_loop (nc := 0 + 1 + 50 + 1 + 5) (ns := 0 + 5 + 594 + 8 + 1034) (L := L) (xs := xs) ⟨C1, ?_, ?_, fun i j hi hj z => ?_, fun x h => ?_, fun x h => ?_, ⟨hX, hbl, hL⟩, h57.1, h57.2⟩ (fun i σ' τ' H locs ls hP hS hl => ?_) (L + 6) 0 sFt m5 (Nat.zero_le _) (by omega) sLd_lay.2
    · exact wc_D (fun i j hi hj z => r0.1 i j (by omega) (by omega) (by rw [cz_a hi, cz_a hj]; exact z))
    · exact wm_D (fun i j hi hj z => by
        have := r0.1 (51 + i) (51 + j) (by omega) (by omega) (by rw [cz_b, cz_b]; exact z)
        omega)
    · have := r0.1 i (51 + j) (by omega) (by omega) (by rw [cz_a hi, cz_b]; exact z)
      omega
    · obtain ⟨k, hk, rfl⟩ := h
      have := r0.2 k (by omega)
      rw [cz_a hk] at this
      exact this
    · obtain ⟨k, hk, rfl⟩ := h
      have := r0.2 (51 + k) (by omega)
      rw [cz_b] at this
      exact this
    · refine lv_iconst hx hb dL_law_784 ic_1 ?_
      refine va_forget (fun q hq => ?_) ?_
      · rcases hS.2.2 q hq with z | z
        · exact False.elim z
        · exact z
      · exact W.widen (Nat.le_of_ble_eq_true rfl) (Nat.le_of_ble_eq_true rfl) (lw_ret hx hb hr hlocks dL_law_785)
  exact G s.heap [] _ (fun k q h => by rw [e0] at h; cases h) va_S.rf hl
