/-! undo, spoil, spoilSheet, write, wipe -/
theorem u22 : ∀ n i (τ : Me) {m : Nat}, τ 0 7 = nI m → m < 6 → i ≤ 112 → 112 - i < n → ∃ τ', f_X8_undo_22 n τ (nI i) = some (τ', nI m) ∧ (∀ k, k ≠ 4 → τ' k = τ k) ∧ (∀ j, j < i → τ' 4 j = τ 4 j) ∧ ∀ j, i ≤ j → j < 112 → τ' 4 j = τ 5 (112 * m + j) := by
  intro n
  induction n with
  | zero => intro i τ m h1 h2 h3 h4; omega
  | succ n ih =>
    intro i τ m h0 h1 h2 h3
    rw [f_X8_undo_22, h0]
    by_cases e : i = 112
    · subst e
      rw [if_pos (show (112 : Int32) ≤ nI 112 by decide)]
      exact ⟨_, rfl, fun _ _ => rfl, fun _ _ => rfl, fun j h4 h5 => by omega⟩
    · rw [if_neg (show ¬ ((112 : Int32) ≤ nI i) from fun q => by have := (nI_leI (a := 112) (by decide) (by omega)).mp q; omega), show (112 : Int32) * nI m = nI (112 * m) from pk_mul 112 m, nI_add, gd_i (by omega) (by decide), gd_i (by omega) (by decide), nI_clamp (by omega), nI_clamp (by omega), p1]
      obtain ⟨τ', g1, g2, g3, g4⟩ := ih (i + 1) (up τ 4 i (τ 5 (112 * m + i))) (m := m) (by rw [up_ne _ _ (by omega)]; exact h0) h1 (by omega) (by omega)
      refine ⟨τ', g1, ?_, ?_, ?_⟩
      · intro k h4; rw [g2 k h4, up_oth _ _ _ h4]
      · intro j h4; rw [g3 j (by omega), up_ne _ _ (by omega)]
      · intro j h4 h5
        by_cases ej : j = i
        · rw [ej, g3 _ (by omega), up_eq]
        · rw [g4 j (by omega) h5, up_ne _ _ (by omega)]
theorem un55 {σ : Me} {kept : Nat} (h : σ 6 2 = nI kept) (h1 : 1 ≤ kept) (h6 : kept ≤ 6) : f_X7_undo_55 σ = some (up σ 6 2 (nI (kept - 1)), nI (kept - 1)) := by
  unfold f_X7_undo_55 f_X0_forgetLatest
  rw [h, show f_J9_max_7cf53 (nI kept - 1) 0 = some (nI (kept - 1)) from f_max0 (b := 1) h1 (by omega), bs, bs, up_eq]
theorem s_undo {σ τ : Me} (I : Inv σ τ) : ∃ σ' τ' r, f_X7_undo σ = some (σ', r) ∧ f_X8_undo τ = some (τ', r) ∧ Inv σ' τ' := by
  obtain ⟨P, Dd, g, kept, hs, len, tx, hD, hPD, h04, Q, Ih, It⟩ := id I
  obtain ⟨hk, h03, V, H, T, S, L, R⟩ := id Q
  have h3 := V.1.2.1
  have h4 := V.1.1
  have h6 := Ih.1
  have hP9 := kd9 hk
  unfold f_X7_undo f_X8_undo
  rw [Ih.2.1, Ih.2.2.1]
  by_cases e : kept = 0
  · rw [e, if_neg (show ¬ ((1 : Int32) ≤ nI 0) by decide), if_pos (show nI 0 = (0 : Int32) from rfl)]
    exact ⟨_, _, _, rfl, rfl, I⟩
  · obtain ⟨m, rfl⟩ : ∃ m, kept = m + 1 := ⟨kept - 1, by omega⟩
    rw [if_pos (show (1 : Int32) ≤ nI (m + 1) from nI_le (a := 1) (by omega) (by omega)), if_neg (show ¬ (nI (m + 1) = (0 : Int32)) from nI_ne0 (by omega) (by omega)), show nI (m + 1) - 1 = nI m from pk_sub (a := m + 1) (b := 1) (by omega)]
    obtain ⟨τ', g1, g2, -, g4⟩ := u22 1000 0 (up τ 0 7 (nI m)) (m := m) (up_eq _ _ _ _) (by omega) (by decide) (by decide)
    rw [show f_X8_undo_22 1000 (up τ 0 7 (nI m)) 0 = some (τ', nI m) from g1]
    have la : f_X0_latestAmount σ = some (σ 8 m) := by
      unfold f_X0_latestAmount
      rw [Ih.2.1, if_pos (show (1 : Int32) ≤ nI (m + 1) from nI_le (a := 1) (by omega) (by omega)), show nI (m + 1) - 1 = nI m from pk_sub (a := m + 1) (b := 1) (by omega), gd_i (by omega) (by decide), nI_clamp (by omega)]
    have ls : f_X0_latestShare σ = oc (rf (σ 7 m)) (some none) (fun k93 => gd (decide (kd k93 = 14)) (some (some k93))) := by
      unfold f_X0_latestShare
      rw [Ih.2.1, if_pos (show (1 : Int32) ≤ nI (m + 1) from nI_le (a := 1) (by omega) (by omega)), show nI (m + 1) - 1 = nI m from pk_sub (a := m + 1) (b := 1) (by omega), gd_i (by omega) (by decide), nI_clamp (by omega)]
    have Ha := Ih.2.2.2.1 m (by omega)
    -- what stays the same for the reference
    have Sm : SS τ' (hs m) := by
      intro j hj
      rw [g4 j (by omega) hj, up_ne _ _ (by omega)]
      exact Ih.2.2.2.2.1 m (by omega) j hj
    have Tm : TD τ' g := T.cg (by rw [g2 2 (by decide), up_oth _ _ _ (by decide)])
    have fin : ∀ σ1 : Me, σ1 6 = σ 6 → σ1 7 = σ 7 → σ1 8 = σ 8 → σ1 0 = σ 0 → σ1 1 = σ 1 → σ1 2 = σ 2 → PL σ1 P g (hs m) → SR σ1 g (hs m) → Inv (up σ1 6 2 (nI m)) τ' := by
      intro σ1 e6 e7 e8 e0 e1 e2 L1 R1
      refine ⟨P, Dd, g, m, hs, len, tx, hD, hPD, ?_, ⟨hk, ?_, V, Ha, Tm, Sm, ?_, ?_⟩, ⟨by omega, up_eq _ _ _ _, ?_, fun j hj => Ih.2.2.2.1 j (by omega), fun j hj i hi => ?_, fun j hj => ?_⟩, It.1, ?_, ?_, fun i hi => ?_⟩
      · rw [up_oth _ _ _ (by decide), e0]; exact h04
      · rw [up_oth _ _ _ (by decide), e0]; exact h03
      · exact L1.cg h4 h3 (fun k q1 q2 => up_oth _ _ _ (by omega))
      · exact R1.cg (up_oth _ _ _ (by decide)) (up_oth _ _ _ (by decide)) (up_oth _ _ _ (by decide))
      · rw [g2 0 (by decide), up_eq]
      · rw [g2 5 (by decide), up_oth _ _ _ (by decide)]; exact Ih.2.2.2.2.1 j (by omega) i hi
      · rw [up_oth _ _ _ (by decide), up_oth _ _ _ (by decide), e7, e8]; exact Ih.2.2.2.2.2 j (by omega)
      · rw [up_oth _ _ _ (by decide), e1]; exact It.2.1
      · rw [g2 0 (by decide), up_ne _ _ (by decide)]; exact It.2.2.1
      · rw [up_oth _ _ _ (by decide), e2, g2 1 (by decide), up_oth _ _ _ (by decide)]; exact It.2.2.2 i hi
    obtain ⟨n, hn, ham, hst⟩ := Ih.2.2.2.2.2 m (by omega)
    rcases hst with ⟨hc, hb, hi12, hist⟩ | ⟨s, p, hs1, hp1, hc, hb, hi12, hb111, hist⟩
    · rw [ls, hc, rf_none, oc_n, bs, oc_n, la, ham, bs]
      have u9 := h99 V.1 H
      unfold f_X5_takeBack
      rw [R.2.1, f_max0 (by omega) (by omega), bs, bs, un55 (kept := m + 1) (by rw [up_ne _ _ (by omega)]; exact Ih.2.1) (by omega) (by omega)]
      refine ⟨_, _, _, rfl, rfl, fin _ (up_oth _ _ _ (by decide)) (up_oth _ _ _ (by decide)) (up_oth _ _ _ (by decide)) (up_oth _ _ _ (by decide)) (up_oth _ _ _ (by decide)) (up_oth _ _ _ (by decide)) ?_ ?_⟩
      · exact (L.rn h4 h3 (fun i hi => (hi12 i hi).symm)).cg h4 h3 (fun k q1 q2 => up_oth _ _ _ (by omega))
      · refine ⟨by rw [up_ne _ _ (by omega)]; exact R.1, by rw [up_eq, show hs (m + 1) 111 - n = hs m 111 by omega], fun i hi => ?_⟩
        have q := R.2.2 i (by omega)
        rw [up_oth _ _ _ (by decide), up_oth _ _ _ (by decide), ← hist i hi]
        exact q
    · have hK := kd_H (kd_S hk (show s < 3 by omega)) (show p < 4 by omega)
      have Hs := (L.2.2.2.2 s hs1).2.2.2.2 p hp1
      rw [ls, hc, rf_some (kd_bd (by rw [hK]; decide)), oc_s, gd_d hK, bs, oc_s, gd_d hK, la, ham, bs, Hs.2.2.2, pk_sub (by omega), un55 (kept := m + 1) (by rw [up_ne _ _ (by omega)]; exact Ih.2.1) (by omega) (by omega)]
      refine ⟨_, _, _, rfl, rfl, fin _ (up_oth _ _ _ (by omega)) (up_oth _ _ _ (by omega)) (up_oth _ _ _ (by omega)) (up_oth _ _ _ (by omega)) (up_oth _ _ _ (by omega)) (up_oth _ _ _ (by omega)) ?_ ?_⟩
      · refine (L.up3 V.1 hs1 hp1).rn h4 h3 (fun i hi => ?_)
        show hs m i = if i = 4 * s + p then _ else hs (m + 1) i
        by_cases e1 : i = 4 * s + p
        · rw [if_pos e1, e1, hb]; omega
        · rw [if_neg e1]; exact (hi12 i hi e1).symm
      · exact SR.ch R (up_oth _ _ _ (by omega)) (up_oth _ _ _ (by omega)) (up_oth _ _ _ (by omega)) hb111.symm (fun i hi => (hist i (by omega)).symm)
def adS (h : Nat → Nat) (c : Nat) : Nat → Nat := fun i => if i = 12 + h 111 then c else if i = 111 then h 111 + 1 else h i
theorem ad_u {h : Nat → Nat} {c : Nat} (h9 : h 111 ≤ 98) : adS h c 111 = h 111 + 1 := by
  unfold adS; rw [if_neg (by omega), if_pos rfl]
theorem ad_c {h : Nat → Nat} {c : Nat} : adS h c (12 + h 111) = c := by unfold adS; rw [if_pos rfl]
theorem ad_i {h : Nat → Nat} {c i : Nat} (h9 : h 111 ≤ 98) (hi : i < h 111) : adS h c (12 + i) = h (12 + i) := by
  unfold adS; rw [if_neg (by omega), if_neg (by omega)]
theorem ad_l {h : Nat → Nat} {c i : Nat} (hi : i < 12) : adS h c i = h i := by
  unfold adS; rw [if_neg (by omega), if_neg (by omega)]
theorem c_add {σ : Me} {g h : Nat → Nat} (R : SR σ g h) (hz : h 111 < g 24) (h9 : g 24 ≤ 99) {s v : Nat} (hs : s < 3) (hv : v < 1000) : ∃ σ', f_X5_standFor σ (nI s) (nI v) = some σ' ∧ (∀ k, k ≠ 3 → k ≠ 4 → k ≠ 5 → σ' k = σ k) ∧ SR σ' g (adS h (1000 * s + v)) := by
  unfold f_X5_standFor
  rw [up_oth (k' := 3) (k := 4) _ _ _ (by decide), R.1, R.2.1, if_lt (by omega) (by omega), if_pos hz, gd_i (by omega) (by decide), gd_i (by omega) (by decide), nI_clamp (by omega), up_oth (k' := 3) (k := 5) _ _ _ (by decide), up_oth (k' := 3) (k := 4) _ _ _ (by decide), R.2.1, p1]
  refine ⟨_, rfl, ?_, ?_, ?_, ?_⟩
  · intro k h3 h4 h5; rw [up_oth _ _ _ h3, up_oth _ _ _ h5, up_oth _ _ _ h4]
  · rw [up_ne _ _ (by omega), up_oth _ _ _ (by decide), up_oth _ _ _ (by decide)]; exact R.1
  · rw [up_eq, ad_u (by omega)]
  · intro i hi
    rw [ad_u (by omega)] at hi
    rw [up_oth (k' := 4) (k := 3) _ _ _ (by decide), up_oth (k' := 4) (k := 5) _ _ _ (by decide), up_oth (k' := 5) (k := 3) _ _ _ (by decide)]
    by_cases e : i = h 111
    · subst e
      rw [up_eq, up_eq, ad_c]
      exact ⟨by rw [show (1000 * s + v) / 1000 = s by omega], by rw [show (1000 * s + v) % 1000 = v by omega]⟩
    · rw [up_ne _ _ (by omega), up_ne _ _ (by omega), up_ne _ _ (by omega), ad_i (by omega) (by omega)]
      exact R.2.2 i (by omega)
theorem m_add {τ : Me} {h : Nat → Nat} (S : SS τ h) (h9 : h 111 ≤ 98) (s v : Nat) : ∃ τ', f_X8_stands τ (nI s) (nI v) = some (τ', nI (h 111)) ∧ (∀ k, k ≠ 4 → τ' k = τ k) ∧ SS τ' (adS h (1000 * s + v)) := by
  unfold f_X8_stands
  rw [S 111 (by decide), a12, gd_i (by omega) (by decide), nI_clamp (by omega), up_ne (k' := 4) (j' := 111) _ _ (by omega), S 111 (by decide), p1, u1000, nI_add]
  refine ⟨_, rfl, fun k h4 => by rw [up_oth _ _ _ h4, up_oth _ _ _ h4], fun j hj => ?_⟩
  by_cases e : j = 111
  · rw [e, up_eq, ad_u h9]
  · rw [up_ne _ _ (by omega)]
    by_cases e2 : j = 12 + h 111
    · rw [e2, up_eq, ad_c]
    · rw [up_ne _ _ (by omega)]
      unfold adS
      rw [if_neg e2, if_neg e]; exact S j hj
theorem VH.ad {g h : Nat → Nat} {c : Nat} (H : VH g h) (hz : h 111 < g 24) (h9 : g 24 ≤ 99) (hc : c < 3000) : VH g (adS h c) := by
  refine ⟨by rw [ad_u (by omega)]; omega, fun s hs p hp => by rw [ad_l (by omega)]; exact H.2.1 s hs p hp, fun s hs p hp q => by rw [ad_l (by omega)]; exact H.2.2.1 s hs p hp q, fun i hi => ?_⟩
  rw [ad_u (by omega)] at hi
  by_cases e : i = h 111
  · rw [e, ad_c]; exact hc
  · rw [ad_i (by omega) (by omega)]; exact H.2.2.2 i (by omega)
/-- a change of the stars: a new invariant -/
theorem Inv.stars {σ σ1 σ2 τ τ1 τ2 : Me} {P Dd : Nat} {g : Nat → Nat} {kept : Nat} {hs : Nat → Nat → Nat} {len : Nat} {tx : Nat → Nat} {b : Nat → Nat} {n : Nat} (hD : kd Dd = 9) (hPD : P ≠ Dd) (h04 : σ 0 4 = nI Dd) (Q : RQ σ τ P g (hs kept)) (Ih : IH σ τ P g kept hs) (It : IT σ τ len tx)
    (e1 : ∀ k, k ≠ 3 → k ≠ 4 → k ≠ 5 → σ1 k = σ k) (R1 : SR σ1 g b) (re : reR σ1 σ2 kept (-1) (nI n)) (no : noR τ τ1 kept) (e2 : ∀ k, k ≠ 4 → τ2 k = τ1 k) (S2 : SS τ2 b) (V2 : VH g b) (hn : n ≤ 200) (hb : b 111 = hs kept 111 + n) (hb12 : ∀ i, i < 12 → b i = hs kept i) (hbi : ∀ i, i < hs kept 111 → b (12 + i) = hs kept (12 + i)) : Inv σ2 τ2 := by
  obtain ⟨hk, h03, V, H, T, S, L, R⟩ := id Q
  have hP9 := kd9 hk
  have rw2 : ∀ k, k ≠ 3 → k ≠ 4 → k ≠ 5 → k ≠ 6 → k ≠ 7 → k ≠ 8 → σ2 k = σ k := fun k a1 a2 a3 a4 a5 a6 => by rw [re.1 k a4 a5 a6, e1 k a1 a2 a3]
  refine ⟨P, Dd, g, kept - dn kept + 1, (fun j => if j ≤ kept - dn kept then hs (j + dn kept) else b), len, tx, hD, hPD, ?_, ?_, ?_, It.1, ?_, ?_, fun i hi => ?_⟩
  · rw [rw2 0 (by decide) (by decide) (by decide) (by decide) (by decide) (by decide)]; exact h04
  · rw [top_hs]
    refine ⟨hk, ?_, V, V2, ?_, S2, ?_, ?_⟩
    · rw [rw2 0 (by decide) (by decide) (by decide) (by decide) (by decide) (by decide)]; exact h03
    · exact T.cg (by rw [e2 2 (by decide), no.1 2 (by decide) (by decide)])
    · exact (L.rn V.1.1 V.1.2.1 hb12).cg V.1.1 V.1.2.1 (fun k q1 q2 => rw2 k (by omega) (by omega) (by omega) (by omega) (by omega) (by omega))
    · exact R1.cg (re.1 3 (by decide) (by decide) (by decide)) (re.1 4 (by decide) (by decide) (by decide)) (re.1 5 (by decide) (by decide) (by decide))
  · exact Ih.push S re (e1 7 (by decide) (by decide) (by decide)) (e1 8 (by decide) (by decide) (by decide)) no (e2 0 (by decide)) (e2 5 (by decide)) V2 ⟨n, hn, rfl, Or.inl ⟨rfl, hb, hb12, hbi⟩⟩
  · rw [rw2 1 (by decide) (by decide) (by decide) (by decide) (by decide) (by decide)]; exact It.2.1
  · rw [e2 0 (by decide), no.2.1 0 (by decide)]; exact It.2.2.1
  · rw [rw2 2 (by decide) (by decide) (by decide) (by decide) (by decide) (by decide), e2 1 (by decide), no.1 1 (by decide) (by decide)]; exact It.2.2.2 i hi
theorem s_spoil {σ τ : Me} (I : Inv σ τ) (x1 x2 : Int32) : ∃ σ' τ' r, f_X7_spoil σ x1 x2 = some (σ', r) ∧ f_X8_spoil τ x1 x2 = some (τ', r) ∧ Inv σ' τ' := by
  obtain ⟨P, Dd, g, kept, hs, len, tx, hD, hPD, h04, Q, Ih, It⟩ := id I
  obtain ⟨hk, h03, V, H, T, S, L, R⟩ := id Q
  have h3 := V.1.2.1
  have z9 := V.1.2.2.1
  have u9 := h99 V.1 H
  unfold f_X7_spoil f_X8_spoil
  rw [Q.eP, gd_d hk]
  cases hr : rng x1 0 (nI (g 23) - 1) with
  | false => rw [c_serAtN L.2.1 hr, bs, oc_n, m_isNN Q hr, bs, if_pos bIf]; exact ⟨_, _, _, rfl, rfl, I⟩
  | true =>
    obtain ⟨s, hss, rfl⟩ := rng_ex (by omega) hr
    have hM := (V.2 s hss).2
    rw [c_serAt L.2.1 V.1.2.1 hss, bs, oc_s, gd_d (kd_S hk (by omega)), m_isN Q hss, bs, c_hasNum Q hss, bs]
    cases hr2 : rng x2 0 (nI (Fs g s (g 22)) - 1) with
    | false => rw [if_pos bIf, if_pos bIf]; exact ⟨_, _, _, rfl, rfl, I⟩
    | true =>
      obtain ⟨v, hv, rfl⟩ := rng_ex (by omega) hr2
      obtain ⟨b, e1, e2⟩ := isPr_rel Q hss hv
      rw [if_neg bIt, if_neg bIt, e1, e2, bs, bs]
      cases b with
      | false => rw [if_pos bIf, if_pos bIf]; exact ⟨_, _, _, rfl, rfl, I⟩
      | true =>
        rw [if_neg bIt, if_neg bIt, c_stands R u9 H.2.2.2 (by omega) (by omega), m_star S u9 H.2.2.2 (by omega) (by omega), bs, bs]
        by_cases e : sA (hs kept) (1000 * s + v) = -4
        · rw [decide_eq_false (fun q => q e), if_pos bIf, if_pos e]
          unfold f_X5_left
          rw [R.1, R.2.1, pk_sub H.1, bs, S 111 (by decide), T 24 (by decide), if_eq (by omega) (by omega)]
          by_cases ez : hs kept 111 = g 24
          · rw [if_neg (show ¬ ((1 : Int32) ≤ nI (g 24 - hs kept 111)) from fun q => by have := (nI_leI (a := 1) (by decide) (by omega)).mp q; omega), if_pos ez]
            exact ⟨_, _, _, rfl, rfl, I⟩
          · have hz := H.1
            rw [if_pos (show (1 : Int32) ≤ nI (g 24 - hs kept 111) from nI_le (a := 1) (by omega) (by omega)), if_neg ez]
            obtain ⟨σ1, k1, k2, k3⟩ := c_add R (by omega) z9 (s := s) (v := v) (by omega) (by omega)
            obtain ⟨σ2, k4, re⟩ := re_n (σ := σ1) Ih.1 (by rw [k2 6 (by decide) (by decide) (by decide)]; exact Ih.2.1) (fun j hj => by rw [k2 7 (by decide) (by decide) (by decide)]; exact (Ih.2.2.2.2.2 j hj).ok hk V.1) 1
            obtain ⟨τ1, k5, no⟩ := note1 Ih.1 Ih.2.2.1
            obtain ⟨τ2, k6, k7, k8⟩ := m_add (S.cg (no.1 4 (by decide) (by decide))) (by omega) s v
            rw [k1, bs, k4, bs, k5, bs, k6, bs, re.1 3 (by decide) (by decide) (by decide), k3.2.1, ad_u (by omega), show nI (hs kept 111 + 1) - 1 = nI (hs kept 111) from pk_sub (a := hs kept 111 + 1) (b := 1) (by omega)]
            refine ⟨_, _, _, rfl, rfl, ?_⟩
            exact Inv.stars (n := 1) hD hPD h04 Q Ih It k2 k3 re no k7 k8 (H.ad (by omega) z9 (by omega)) (by decide) (ad_u (by omega)) (fun i hi => ad_l hi) (fun i hi => ad_i (by omega) hi)
        · rw [decide_eq_true e, if_neg bIt, if_neg e]; exact ⟨_, _, _, rfl, rfl, I⟩
theorem s_write {σ τ : Me} (I : Inv σ τ) (x1 : Int32) : ∃ σ' τ' r, f_X7_write σ x1 = some (σ', r) ∧ f_X8_write τ x1 = some (τ', r) ∧ Inv σ' τ' := by
  obtain ⟨P, Dd, g, kept, hs, len, tx, hD, hPD, h04, Q, Ih, It⟩ := id I
  obtain ⟨hk, h03, V, H, T, S, L, R⟩ := id Q
  have hP9 := kd9 hk
  unfold f_X7_write f_X8_write
  rw [ft, bs, fi x1 32 126 (by decide) (by decide), bs]
  cases hr : rng x1 32 126 with
  | false => rw [if_pos bIf, if_pos bIf]; exact ⟨_, _, _, rfl, rfl, I⟩
  | true =>
    obtain ⟨c, hc1, hc2, rfl⟩ := rng_el (a := 32) (b := 126) rfl rfl (by decide) (by decide) hr
    have hl := It.1
    unfold f_X6_append
    rw [if_neg bIt, if_neg bIt, It.2.1, It.2.2.1]
    by_cases e : len = 200
    · rw [if_neg (show ¬ (nI len < (200 : Int32)) from fun q => by have := (nI_ltI (b := 200) (by omega) (by decide)).mp q; omega), bs, if_pos bIf, if_pos (show nI len = (200 : Int32) by rw [e]; rfl)]
      exact ⟨_, _, _, rfl, rfl, I⟩
    · rw [if_pos (show nI len < (200 : Int32) from nI_lt (b := 200) (by omega) (by decide)), gd_i (by omega) (by decide), bs, if_neg bIt, if_neg (show ¬ (nI len = (200 : Int32)) from fun q => e ((nI_eq (b := 200) (by omega) (by decide)).mp q)), gd_i (by omega) (by decide), nI_clamp (by omega), up_oth (k' := 1) (k := 2) _ _ _ (by decide), up_oth (k' := 0) (k := 1) _ _ _ (by decide), It.2.1, It.2.2.1, p1]
      simp only [up_eq]
      refine ⟨_, _, _, rfl, rfl, P, Dd, g, kept, hs, len + 1, (fun i => if i = len then c else tx i), hD, hPD, ?_, ⟨hk, ?_, V, H, ?_, ?_, ?_, ?_⟩, ⟨Ih.1, ?_, ?_, Ih.2.2.2.1, fun j hj i hi => ?_, fun j hj => ?_⟩, by omega, up_eq _ _ _ _, up_eq _ _ _ _, fun i hi => ?_⟩
      · rw [up_oth _ _ _ (by decide), up_oth _ _ _ (by decide)]; exact h04
      · rw [up_oth _ _ _ (by decide), up_oth _ _ _ (by decide)]; exact h03
      · exact T.cg (by rw [up_oth _ _ _ (by decide), up_oth _ _ _ (by decide)])
      · exact S.cg (by rw [up_oth _ _ _ (by decide), up_oth _ _ _ (by decide)])
      · exact L.cg V.1.1 V.1.2.1 (fun k q1 q2 => by rw [up_oth _ _ _ (by omega), up_oth _ _ _ (by omega)])
      · exact R.cg (by rw [up_oth _ _ _ (by decide), up_oth _ _ _ (by decide)]) (by rw [up_oth _ _ _ (by decide), up_oth _ _ _ (by decide)]) (by rw [up_oth _ _ _ (by decide), up_oth _ _ _ (by decide)])
      · rw [up_oth _ _ _ (by decide), up_oth _ _ _ (by decide)]; exact Ih.2.1
      · rw [up_ne _ _ (by decide), up_oth _ _ _ (by decide)]; exact Ih.2.2.1
      · rw [up_oth _ _ _ (by decide), up_oth _ _ _ (by decide)]; exact Ih.2.2.2.2.1 j hj i hi
      · rw [up_oth _ _ _ (by decide), up_oth _ _ _ (by decide), up_oth _ _ _ (by decide), up_oth _ _ _ (by decide)]; exact Ih.2.2.2.2.2 j hj
      · show _ = nI (if i = len then c else tx i) ∧ _ = nI (if i = len then c else tx i) ∧ 32 ≤ (if i = len then c else tx i) ∧ (if i = len then c else tx i) ≤ 126
        rw [up_oth (k' := 2) (k := 1) _ _ _ (by decide), up_oth (k' := 1) (k := 0) _ _ _ (by decide)]
        by_cases e2 : i = len
        · rw [if_pos e2, e2, up_eq, up_eq]
          exact ⟨rfl, rfl, hc1, hc2⟩
        · rw [if_neg e2, up_ne _ _ (by omega), up_ne _ _ (by omega)]
          exact It.2.2.2 i (by omega)
theorem s_wipe {σ τ : Me} (I : Inv σ τ) : ∃ σ' τ' r, f_X7_wipe σ = some (σ', r) ∧ f_X8_wipe τ = some (τ', r) ∧ Inv σ' τ' := by
  obtain ⟨P, Dd, g, kept, hs, len, tx, hD, hPD, h04, Q, Ih, It⟩ := id I
  obtain ⟨hk, h03, V, H, T, S, L, R⟩ := id Q
  have hP9 := kd9 hk
  unfold f_X7_wipe f_X8_wipe f_X6_clear
  rw [bs, It.2.1, It.2.2.1]
  refine ⟨_, _, _, rfl, rfl, P, Dd, g, kept, hs, 0, tx, hD, hPD, ?_, ⟨hk, ?_, V, H, ?_, ?_, ?_, ?_⟩, ⟨Ih.1, ?_, ?_, Ih.2.2.2.1, fun j hj i hi => ?_, fun j hj => ?_⟩, by decide, up_eq _ _ _ _, up_eq _ _ _ _, fun i hi => absurd hi (Nat.not_lt_zero i)⟩
  · rw [up_oth _ _ _ (by decide)]; exact h04
  · rw [up_oth _ _ _ (by decide)]; exact h03
  · exact T.cg (up_oth _ _ _ (by decide))
  · exact S.cg (up_oth _ _ _ (by decide))
  · exact L.cg V.1.1 V.1.2.1 (fun k q1 q2 => up_oth _ _ _ (by omega))
  · exact R.cg (up_oth _ _ _ (by decide)) (up_oth _ _ _ (by decide)) (up_oth _ _ _ (by decide))
  · rw [up_oth _ _ _ (by decide)]; exact Ih.2.1
  · rw [up_ne _ _ (by decide)]; exact Ih.2.2.1
  · rw [up_oth _ _ _ (by decide)]; exact Ih.2.2.2.2.1 j hj i hi
  · rw [up_oth _ _ _ (by decide), up_oth _ _ _ (by decide)]; exact Ih.2.2.2.2.2 j hj
