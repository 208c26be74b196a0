/-! fault and lay -/
theorem fa_loop {D len : Nat} {tx : Nat → Nat} : ∀ n m i y (σ τ : Me) (g : Nat → Nat), PS σ τ D len i tx g → τ 0 2 = nI i → y ≤ i → len - i < n → len - i < m → ∃ σ' τ' r, f_X6_readInto_11 n σ D (nI y) = some (σ', r) ∧ f_X8_fault_35 m τ = some (τ', r) ∧ FC σ σ' D ∧ FM τ τ' ∧ (r = -4 → ∃ gN, PL σ' D gN (fun _ => 0) ∧ RD τ' gN ∧ VG gN) := by
  intro n
  induction n with
  | zero => intro m i y σ τ g _ _ _ h1; omega
  | succ n ih =>
    intro m i y σ τ g S h02 hy h1 h2
    obtain ⟨m, rfl⟩ : ∃ m', m = m' + 1 := ⟨m - 1, by omega⟩
    obtain ⟨hD, T, M, hil, h12, L, Rd, V⟩ := id S
    have hD9 := D9 hD
    have hl := T.1
    rw [f_X6_readInto_11, f_X8_fault_35, T.2.1, h12, M.2.1, h02]
    by_cases e : i = len
    · rw [if_pos (show nI len ≤ nI i from nI_le (by omega) (by omega)), if_pos (show nI len ≤ nI i from nI_le (by omega) (by omega))]
      by_cases e2 : (200 : Int32) ≤ nI y
      · rw [if_pos e2]; exact ⟨_, _, _, rfl, rfl, FC.rf, FM.rf, fun _ => ⟨g, L, Rd, V⟩⟩
      · rw [if_neg e2]; exact ⟨_, _, _, rfl, rfl, FC.rf, FM.rf, fun _ => ⟨g, L, Rd, V⟩⟩
    · have hi : i < len := by omega
      rw [if_neg (show ¬ ((200 : Int32) ≤ nI y) from fun q => by have := (nI_leI (a := 200) (by decide) (by omega)).mp q; omega), if_neg (show ¬ (nI len ≤ nI i) from fun q => by have := (nI_leI (by omega) (by omega)).mp q; omega), if_neg (show ¬ (nI len ≤ nI i) from fun q => by have := (nI_leI (by omega) (by omega)).mp q; omega), gd_i (by omega) (by decide), nI_clamp (by omega), up_oth (k' := 1) (k := 0) _ _ _ (by decide), (M.2.2 i hi).1, p1, p1]
      have g1 : FM τ (up τ 0 2 (nI (i + 1))) := FM.sp _
      have S1 : PS σ (up τ 0 2 (nI (i + 1))) D len i tx g := ⟨hD, T, M.cg g1, hil, h12, L, RD_sp Rd _, V⟩
      obtain ⟨σ', τ', b, b', r1, r2, r3⟩ := item_rel S1 (up_eq _ _ _ _) hi
      rw [r1, bs, r2, bs]
      dsimp only
      have fin : ∀ τ2 : Me, FM τ τ2 → ∃ σ'' τ'' r, some (σ', nI i) = some (σ'', r) ∧ some (τ2, nI i) = some (τ'', r) ∧ FC σ σ'' D ∧ FM τ τ'' ∧ (r = -4 → ∃ gN, PL σ'' D gN (fun _ => 0) ∧ RD τ'' gN ∧ VG gN) := fun τ2 f => ⟨σ', τ2, nI i, rfl, rfl, r3.1, f, fun q => absurd q (nI_m4 (by omega))⟩
      cases b' with
      | false =>
        have hb := r3.2.2.1 rfl
        subst hb
        rw [if_pos bIf, if_pos bIf]
        exact fin _ (g1.tr r3.2.1)
      | true =>
        obtain ⟨j, gN, q1, q2, q3, q4, q5⟩ := r3.2.2.2 rfl
        have M2 : TM τ' len tx := M.cg (g1.tr r3.2.1)
        rw [if_neg bIt, show (59 : Int32) = nI 59 from rfl, m_gone M2 q3 (by omega) (by decide) (by decide), bs]
        dsimp only
        rw [← q4]
        cases b with
        | false =>
          rw [if_pos bIf, if_pos bIf]
          exact fin _ ((g1.tr r3.2.1).tr (FM.sp _))
        | true =>
          rw [if_neg bIt, if_neg bIt]
          obtain ⟨a1, a2, a3, a4⟩ := q5 rfl
          have hj := of_decide_eq_true q4.symm
          obtain ⟨σ'', τ'', r, k1, k2, k3, k4, k5⟩ := ih m (j + 1) (y + 1) σ' (up τ' 0 2 (nI (j + 1))) gN ⟨hD, T.cg r3.1 hD9, M2.cg (FM.sp _), by omega, a1, a2, RD_sp a3 _, a4⟩ (up_eq _ _ _ _) (by omega) (by omega) (by omega)
          exact ⟨σ'', τ'', r, k1, k2, r3.1.tr k3, ((g1.tr r3.2.1).tr (FM.sp _)).tr k4, k5⟩
theorem f2_loop : ∀ n i (τ : Me), i ≤ 25 → 25 - i < n → ∃ τ', f_X8_fault_2 n τ (nI i) = f_X8_fault_35 1000 (up (up τ' 3 24 20) 0 2 0) ∧ (∀ k, k ≠ 3 → τ' k = τ k) ∧ (∀ j, j < i → τ' 3 j = τ 3 j) ∧ ∀ j, i ≤ j → j < 25 → τ' 3 j = 0 := by
  intro n
  induction n with
  | zero => intro i τ h1 h2; omega
  | succ n ih =>
    intro i τ h1 h2
    rw [f_X8_fault_2]
    by_cases e : i = 25
    · subst e
      rw [if_pos (show (25 : Int32) ≤ nI 25 by decide)]
      exact ⟨τ, rfl, fun _ _ => rfl, fun _ _ => rfl, fun j h3 h4 => by omega⟩
    · rw [if_neg (show ¬ ((25 : Int32) ≤ nI i) from fun q => by have := (nI_leI (a := 25) (by decide) (by omega)).mp q; omega), gd_i (by omega) (by decide), nI_clamp (by omega), p1]
      obtain ⟨τ', k1, k2, k3, k4⟩ := ih (i + 1) (up τ 3 i 0) (by omega) (by omega)
      refine ⟨τ', k1, fun k hk => by rw [k2 k hk, up_oth _ _ _ hk], fun j hj => by rw [k3 j (by omega), up_ne _ _ (by omega)], fun j h3 h4 => ?_⟩
      by_cases ej : j = i
      · rw [ej, k3 i (by omega), up_eq]
      · exact k4 j (by omega) h4
def g0 : Nat → Nat := fun j => if j = 24 then 20 else 0
theorem fa_rel {σ τ : Me} {D len : Nat} {tx : Nat → Nat} (hD : kd D = 9) (T : TC σ len tx) (M : TM τ len tx) : ∃ σ' τ' r, f_X6_readInto σ D = some (σ', r) ∧ f_X8_fault τ = some (τ', r) ∧ FC σ σ' D ∧ FM τ τ' ∧ (r = -4 → ∃ gN, PL σ' D gN (fun _ => 0) ∧ RD τ' gN ∧ VG gN) := by
  have hD9 := D9 hD
  unfold f_X6_readInto f_X2_clear f_X8_fault
  rw [bs]
  obtain ⟨τ0, k1, k2, -, k4⟩ := f2_loop 1000 0 τ (by decide) (by decide)
  rw [show f_X8_fault_2 1000 τ 0 = _ from k1]
  have f1 : FC σ (up (up (up (up σ D 2 0) D 3 0) D 4 20) 1 2 0) D := (((FC.pl _ _ (by omega) (by omega) hD9).tr (FC.pl _ _ (by omega) (by omega) hD9)).tr (FC.pl _ _ (by omega) (by omega) hD9)).tr (FC.at _ hD9)
  have m0 : FM τ τ0 := ⟨fun k _ b => k2 k b, fun j _ => by rw [k2 0 (by decide)]⟩
  have m1 : FM τ (up (up τ0 3 24 20) 0 2 0) := (m0.tr (FM.rd _ _)).tr (FM.sp _)
  have S : PS (up (up (up (up σ D 2 0) D 3 0) D 4 20) 1 2 0) (up (up τ0 3 24 20) 0 2 0) D len 0 tx g0 := by
    refine ⟨hD, T.cg f1 hD9, M.cg m1, by omega, up_eq _ _ _ _, ⟨?_, ?_, ?_, fun p hp => absurd hp (Nat.not_lt_zero p), fun s hs => absurd hs (Nat.not_lt_zero s)⟩, fun j hj => ?_, ?_⟩
    · rw [up_ne _ _ (by omega), up_ne _ _ (by omega), up_ne _ _ (by omega), up_eq]; rfl
    · rw [up_ne _ _ (by omega), up_ne _ _ (by omega), up_eq]; rfl
    · rw [up_ne _ _ (by omega), up_eq]; rfl
    · rw [up_oth _ _ _ (by decide)]
      by_cases ej : j = 24
      · rw [ej, up_eq]; rfl
      · rw [up_ne _ _ (by omega), k4 j (by omega) hj]
        unfold g0; rw [if_neg ej]; rfl
    · refine ⟨⟨by decide, by decide, by decide, fun p hp => ?_, fun s hs => ⟨?_, ?_, fun p hp => ?_⟩⟩, fun s hs => absurd hs (Nat.not_lt_zero s)⟩
      · unfold g0; rw [if_neg (by omega)]; omega
      · unfold g0; rw [if_neg (by omega)]; omega
      · unfold g0; rw [if_neg (by omega)]; omega
      · unfold g0; rw [if_neg (by omega)]; omega
  have hl := T.1
  obtain ⟨σ', τ', r, r1, r2, r3, r4, r5⟩ := fa_loop 1000 1000 0 0 _ _ _ S (up_eq _ _ _ _) (by omega) (by omega) (by omega)
  exact ⟨σ', τ', r, r1, r2, f1.tr r3, m1.tr r4, r5⟩
/-- what a reading leaves as it was -/
theorem Inv.read {σ τ σ' τ' : Me} {P Dd : Nat} {g : Nat → Nat} {kept : Nat} {hs : Nat → Nat → Nat} {len : Nat} {tx : Nat → Nat} (hD : kd Dd = 9) (hPD : P ≠ Dd) (h04 : σ 0 4 = nI Dd) (Q : RQ σ τ P g (hs kept)) (Ih : IH σ τ P g kept hs) (It : IT σ τ len tx) (f : FC σ σ' Dd) (m : FM τ τ') : Inv σ' τ' := by
  obtain ⟨hk, h03, V, H, T, S, L, R⟩ := id Q
  have hP9 := kd9 hk
  have hD9 := kd9 hD
  have r : ∀ k, k ≠ 1 → k < 9 → σ' k = σ k := fun k a b => f.1 k a (Or.inl (by omega))
  refine ⟨P, Dd, g, kept, hs, len, tx, hD, hPD, ?_, ⟨hk, ?_, V, H, ?_, ?_, ?_, ?_⟩, ⟨Ih.1, ?_, ?_, Ih.2.2.2.1, fun j hj i hi => ?_, fun j hj => ?_⟩, It.1, ?_, ?_, fun i hi => ?_⟩
  · rw [r 0 (by decide) (by decide)]; exact h04
  · rw [r 0 (by decide) (by decide)]; exact h03
  · exact T.cg (m.1 2 (by decide) (by decide))
  · exact S.cg (m.1 4 (by decide) (by decide))
  · exact L.cg V.1.1 V.1.2.1 (fun k q1 q2 => f.1 k (by omega) (by omega))
  · exact R.cg (r 3 (by decide) (by decide)) (r 4 (by decide) (by decide)) (r 5 (by decide) (by decide))
  · rw [r 6 (by decide) (by decide)]; exact Ih.2.1
  · rw [m.2 7 (by decide)]; exact Ih.2.2.1
  · rw [m.1 5 (by decide) (by decide)]; exact Ih.2.2.2.2.1 j hj i hi
  · rw [r 7 (by decide) (by decide), r 8 (by decide) (by decide)]; exact Ih.2.2.2.2.2 j hj
  · rw [f.2 1 (by decide)]; exact It.2.1
  · rw [m.2 0 (by decide)]; exact It.2.2.1
  · rw [r 2 (by decide) (by decide), m.1 1 (by decide) (by decide)]; exact It.2.2.2 i hi
theorem IT.tc {σ τ : Me} {len : Nat} {tx : Nat → Nat} (It : IT σ τ len tx) : TC σ len tx ∧ TM τ len tx := ⟨⟨It.1, It.2.1, fun j hj => ⟨(It.2.2.2 j hj).1, (It.2.2.2 j hj).2.2.2⟩⟩, ⟨It.1, It.2.2.1, fun j hj => ⟨(It.2.2.2 j hj).2.1, (It.2.2.2 j hj).2.2⟩⟩⟩
theorem cD {σ : Me} {D j : Nat} (h : σ 0 j = nI D) (hD : kd D = 9) : (σ 0 j).toNatClampNeg = D := by rw [h, nI_clamp (kd_bd (by rw [hD]; decide))]
theorem s_fault {σ τ : Me} (I : Inv σ τ) : ∃ σ' τ' r, f_X7_fault σ = some (σ', r) ∧ f_X8_fault τ = some (τ', r) ∧ Inv σ' τ' := by
  obtain ⟨P, Dd, g, kept, hs, len, tx, hD, hPD, h04, Q, Ih, It⟩ := id I
  obtain ⟨σ', τ', r, r1, r2, r3, r4, -⟩ := fa_rel hD It.tc.1 It.tc.2
  unfold f_X7_fault
  rw [cD h04 hD, gd_d hD, r1, bs]
  exact ⟨σ', τ', r, rfl, r2, Inv.read hD hPD h04 Q Ih It r3 r4⟩
theorem l50 : ∀ n i (τ : Me), i ≤ 112 → 112 - i < n → ∃ τ', f_X8_lay_50 n τ (nI i) = some (up τ' 0 7 0, (up τ' 0 7 0) 2 23) ∧ (∀ k, k ≠ 4 → τ' k = τ k) ∧ (∀ j, j < i → τ' 4 j = τ 4 j) ∧ ∀ j, i ≤ j → j < 112 → τ' 4 j = 0 := by
  intro n
  induction n with
  | zero => intro i τ h1 h2; omega
  | succ n ih =>
    intro i τ h1 h2
    rw [f_X8_lay_50]
    by_cases e : i = 112
    · subst e
      rw [if_pos (show (112 : Int32) ≤ nI 112 by decide)]
      exact ⟨τ, rfl, fun _ _ => rfl, fun _ _ => rfl, fun j h3 h4 => by omega⟩
    · rw [if_neg (show ¬ ((112 : Int32) ≤ nI i) from fun q => by have := (nI_leI (a := 112) (by decide) (by omega)).mp q; omega), gd_i (by omega) (by decide), nI_clamp (by omega), p1]
      obtain ⟨τ', k1, k2, k3, k4⟩ := ih (i + 1) (up τ 4 i 0) (by omega) (by omega)
      refine ⟨τ', k1, fun k hk => by rw [k2 k hk, up_oth _ _ _ hk], fun j hj => by rw [k3 j (by omega), up_ne _ _ (by omega)], fun j h3 h4 => ?_⟩
      by_cases ej : j = i
      · rw [ej, k3 i (by omega), up_eq]
      · exact k4 j (by omega) h4
theorem l24 : ∀ n i (τ : Me), i ≤ 25 → 25 - i < n → ∃ τ', f_X8_lay_24 n τ (nI i) = f_X8_lay_50 1000 τ' 0 ∧ (∀ k, k ≠ 2 → τ' k = τ k) ∧ (∀ j, j < i → τ' 2 j = τ 2 j) ∧ ∀ j, i ≤ j → j < 25 → τ' 2 j = τ 3 j := by
  intro n
  induction n with
  | zero => intro i τ h1 h2; omega
  | succ n ih =>
    intro i τ h1 h2
    rw [f_X8_lay_24]
    by_cases e : i = 25
    · subst e
      rw [if_pos (show (25 : Int32) ≤ nI 25 by decide)]
      exact ⟨τ, rfl, fun _ _ => rfl, fun _ _ => rfl, fun j h3 h4 => by omega⟩
    · rw [if_neg (show ¬ ((25 : Int32) ≤ nI i) from fun q => by have := (nI_leI (a := 25) (by decide) (by omega)).mp q; omega), gd_i (by omega) (by decide), gd_i (by omega) (by decide), nI_clamp (by omega), p1]
      obtain ⟨τ', k1, k2, k3, k4⟩ := ih (i + 1) (up τ 2 i (τ 3 i)) (by omega) (by omega)
      refine ⟨τ', k1, fun k hk => by rw [k2 k hk, up_oth _ _ _ hk], fun j hj => by rw [k3 j (by omega), up_ne _ _ (by omega)], fun j h3 h4 => ?_⟩
      by_cases ej : j = i
      · rw [ej, k3 i (by omega), up_eq]
      · rw [k4 j (by omega) h4, up_oth _ _ _ (by decide)]
/-- class: a text without fault, with a series, is laid -/
theorem c_lay {σ σ1 : Me} {P Dd : Nat} {gN : Nat → Nat} (hk : kd P = 9) (hD : kd Dd = 9) (h04 : σ 0 4 = nI Dd) (r1 : f_X6_readInto σ Dd = some (σ1, -4)) (e03 : σ1 0 3 = nI P) (e04 : σ1 0 4 = nI Dd) (L : PL σ1 Dd gN (fun _ => 0)) (V : VG gN) (hn : 1 ≤ gN 23) : f_X7_layText σ = some (up (up (up (up (up σ1 0 3 (nI Dd)) 0 4 (nI P)) 3 2 (nI (gN 24))) 3 3 0) 6 2 0, true) := by
  have h3 := V.1.2.1
  have z9 := V.1.2.2.1
  have hD9 := kd9 hD
  unfold f_X7_layText
  rw [cD h04 hD, gd_d hD, r1, bs]
  dsimp only
  rw [if_pos rfl, cD e04 hD, cD e03 hk, gd_d hD, if_pos (show (1 : Int32) ≤ σ1 Dd 3 by rw [L.2.1]; exact nI_le (a := 1) hn (by omega)), gd_d hk, gd_d hD]
  have e1 : ((up (up σ1 0 3 (nI Dd)) 0 4 (nI P)) 0 3).toNatClampNeg = Dd := by rw [up_ne _ _ (by omega), up_eq, nI_clamp (kd_bd (by rw [hD]; decide))]
  rw [e1, gd_d hD, up_oth (k' := Dd) (k := 0) _ _ _ (by omega), up_oth (k' := Dd) (k := 0) _ _ _ (by omega), L.2.2.1]
  unfold f_X5_begin f_X0_clear
  rw [show f_J9_min_7cf53 (nI (gN 24)) 99 = some (nI (min (gN 24) 99)) from f_min (by omega) (by decide), show min (gN 24) 99 = gN 24 by omega, bs, bs, bs]
theorem c_layN {σ σ1 : Me} {Dd : Nat} {r : Int32} {gN : Nat → Nat} (hD : kd Dd = 9) (h04 : σ 0 4 = nI Dd) (r1 : f_X6_readInto σ Dd = some (σ1, r)) (e04 : σ1 0 4 = nI Dd) (h : ¬ r = -4 ∨ (σ1 Dd 3 = nI 0)) : f_X7_layText σ = some (σ1, false) := by
  unfold f_X7_layText
  rw [cD h04 hD, gd_d hD, r1, bs]
  dsimp only
  by_cases e : r = -4
  · rw [if_pos e, cD e04 hD, gd_d hD]
    rcases h with h | h
    · exact absurd e h
    · rw [if_neg (show ¬ ((1 : Int32) ≤ σ1 Dd 3) by rw [h]; decide)]
  · rw [if_neg e]
theorem s_lay {σ τ : Me} (I : Inv σ τ) : ∃ σ' τ' r, f_X7_lay σ = some (σ', r) ∧ f_X8_lay τ = some (τ', r) ∧ Inv σ' τ' := by
  obtain ⟨P, Dd, g, kept, hs, len, tx, hD, hPD, h04, Q, Ih, It⟩ := id I
  obtain ⟨hk, h03, V, H, T, S, L, R⟩ := id Q
  have hD9 := kd9 hD
  have hP9 := kd9 hk
  obtain ⟨σ1, τ1, r, r1, r2, r3, r4, r5⟩ := fa_rel hD It.tc.1 It.tc.2
  have e03 : σ1 0 3 = nI P := by rw [r3.1 0 (by decide) (by omega)]; exact h03
  have e04 : σ1 0 4 = nI Dd := by rw [r3.1 0 (by decide) (by omega)]; exact h04
  unfold f_X7_lay f_X8_lay
  rw [r2, bs]
  dsimp only
  by_cases e : r = -4
  · obtain ⟨gN, L1, R1, V1⟩ := r5 e
    have n3 := V1.1.2.1
    rw [if_pos e]
    by_cases e0 : gN 23 = 0
    · rw [c_layN (gN := gN) hD h04 r1 e04 (Or.inr (by rw [← e0]; exact L1.2.1)), bs, if_pos bIf, if_pos (show τ1 3 23 = (0 : Int32) by rw [R1 23 (by decide), e0]; rfl)]
      exact ⟨_, _, _, rfl, rfl, Inv.read hD hPD h04 Q Ih It r3 r4⟩
    · subst e
      rw [c_lay hk hD h04 r1 e03 e04 L1 V1 (by omega), bs, if_neg bIt, if_neg (show ¬ (τ1 3 23 = (0 : Int32)) by rw [R1 23 (by decide)]; exact nI_ne0 (by omega) (by omega))]
      dsimp only
      obtain ⟨τ2, k1, k2, -, k4⟩ := l24 1000 0 τ1 (by decide) (by decide)
      obtain ⟨τ3, j1, j2, -, j4⟩ := l50 1000 0 τ2 (by decide) (by decide)
      rw [show f_X8_lay_24 1000 τ1 0 = _ from k1, show f_X8_lay_50 1000 τ2 0 = _ from j1, up_oth (k' := 2) (k := 0) _ _ _ (by decide), j2 2 (by decide), k4 23 (by decide) (by decide), R1 23 (by decide)]
      have row : ∀ k, k ≠ 0 → k ≠ 3 → k ≠ 6 → (up (up (up (up (up σ1 0 3 (nI Dd)) 0 4 (nI P)) 3 2 (nI (gN 24))) 3 3 0) 6 2 0) k = σ1 k := fun k a1 a2 a3 => by
        rw [up_oth _ _ _ a3, up_oth _ _ _ a2, up_oth _ _ _ a2, up_oth _ _ _ a1, up_oth _ _ _ a1]
      have c03 : (up (up (up (up (up σ1 0 3 (nI Dd)) 0 4 (nI P)) 3 2 (nI (gN 24))) 3 3 0) 6 2 0) 0 3 = nI Dd := by
        rw [up_ne _ _ (by omega), up_ne _ _ (by omega), up_ne _ _ (by omega), up_ne _ _ (by omega), up_eq]
      rw [cD c03 hD, gd_d hD, row Dd (by omega) (by omega) (by omega), L1.2.1]
      refine ⟨_, _, _, rfl, rfl, Dd, P, gN, 0, (fun _ _ => 0), len, tx, hk, Ne.symm hPD, ?_, ⟨hD, c03, V1, ?_, fun j hj => ?_, fun j hj => ?_, ?_, ?_⟩, ⟨by decide, up_eq _ _ _ _, up_eq _ _ _ _, fun j hj => ?_, fun j hj => absurd hj (Nat.not_lt_zero j), fun j hj => absurd hj (Nat.not_lt_zero j)⟩, It.1, ?_, ?_, fun i hi => ?_⟩
      · rw [up_ne _ _ (by omega), up_ne _ _ (by omega), up_ne _ _ (by omega), up_eq]
      · exact ⟨Nat.zero_le _, fun s hs p hp => Nat.zero_le _, fun s hs p hp _ => rfl, fun i hi => absurd hi (Nat.not_lt_zero i)⟩
      · rw [up_oth _ _ _ (by decide), j2 2 (by decide), k4 j (by omega) hj]; exact R1 j hj
      · rw [up_oth _ _ _ (by decide), j4 j (by omega) hj]; rfl
      · exact L1.cg V1.1.1 V1.1.2.1 (fun k q1 q2 => row k (by omega) (by omega) (by omega))
      · refine ⟨?_, ?_, fun i hi => absurd hi (Nat.not_lt_zero i)⟩
        · rw [up_ne _ _ (by omega), up_ne _ _ (by omega), up_eq]
        · rw [up_ne _ _ (by omega), up_eq]; rfl
      · exact ⟨Nat.zero_le _, fun s hs p hp => Nat.zero_le _, fun s hs p hp _ => rfl, fun i hi => absurd hi (Nat.not_lt_zero i)⟩
      · rw [row 1 (by decide) (by decide) (by decide), r3.2 1 (by decide)]; exact It.2.1
      · rw [up_ne _ _ (by decide), j2 0 (by decide), k2 0 (by decide), r4.2 0 (by decide)]; exact It.2.2.1
      · rw [row 2 (by decide) (by decide) (by decide), r3.1 2 (by decide) (by omega), up_oth _ _ _ (by decide), j2 1 (by decide), k2 1 (by decide), r4.1 1 (by decide) (by decide)]; exact It.2.2.2 i hi
  · rw [c_layN (gN := g) hD h04 r1 e04 (Or.inl e), bs, if_pos bIf, if_neg e]
    exact ⟨_, _, _, rfl, rfl, Inv.read hD hPD h04 Q Ih It r3 r4⟩
