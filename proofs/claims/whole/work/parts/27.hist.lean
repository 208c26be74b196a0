/-! rows kept, changes remembered, snapshots taken -/
theorem HS.cg {σ σ' : Me} {k s p : Nat} {g rn : Nat → Nat} (h : HS σ k s p g rn) (e : σ' k = σ k) : HS σ' k s p g rn := by
  unfold HS at h ⊢; rw [e]; exact h
theorem SE.cg {σ σ' : Me} {q s : Nat} {g rn : Nat → Nat} (h : SE σ q s g rn) (h4 : g 22 ≤ 4) (e : ∀ k, q ≤ k → k < q + 6 → σ' k = σ k) : SE σ' q s g rn := by
  refine ⟨?_, ?_, ?_, ?_, fun p hp => (h.2.2.2.2 p hp).cg (e _ (by omega) (by omega))⟩
  · rw [e q (by omega) (by omega)]; exact h.1
  · rw [e q (by omega) (by omega)]; exact h.2.1
  · rw [e q (by omega) (by omega)]; exact h.2.2.1
  · rw [e q (by omega) (by omega)]; exact h.2.2.2.1
theorem PL.cg {σ σ' : Me} {P : Nat} {g rn : Nat → Nat} (h : PL σ P g rn) (h4 : g 22 ≤ 4) (h3 : g 23 ≤ 3) (e : ∀ k, P ≤ k → k < P + 21 → σ' k = σ k) : PL σ' P g rn := by
  refine ⟨?_, ?_, ?_, fun p hp => ?_, fun s hs => (h.2.2.2.2 s hs).cg h4 (fun k h1 h2 => e k (by omega) (by omega))⟩
  · rw [e P (by omega) (by omega)]; exact h.1
  · rw [e P (by omega) (by omega)]; exact h.2.1
  · rw [e P (by omega) (by omega)]; exact h.2.2.1
  · rw [e (P + 1) (by omega) (by omega)]; exact h.2.2.2.1 p hp
theorem PL.rn {σ : Me} {P : Nat} {g rn rn' : Nat → Nat} (h : PL σ P g rn) (h4 : g 22 ≤ 4) (h3 : g 23 ≤ 3) (e : ∀ i, i < 12 → rn' i = rn i) : PL σ P g rn' := by
  refine ⟨h.1, h.2.1, h.2.2.1, h.2.2.2.1, fun s hs => ?_⟩
  have E := h.2.2.2.2 s hs
  refine ⟨E.1, E.2.1, E.2.2.1, E.2.2.2.1, fun p hp => ?_⟩
  have H := E.2.2.2.2 p hp
  exact ⟨H.1, H.2.1, H.2.2.1, by rw [e _ (by omega)]; exact H.2.2.2⟩
theorem SR.cg {σ σ' : Me} {g h : Nat → Nat} (H : SR σ g h) (e3 : σ' 3 = σ 3) (e4 : σ' 4 = σ 4) (e5 : σ' 5 = σ 5) : SR σ' g h := by
  unfold SR at H ⊢; rw [e3, e4, e5]; exact H
theorem SS.cg {τ τ' : Me} {h : Nat → Nat} (H : SS τ h) (e : τ' 4 = τ 4) : SS τ' h := by
  unfold SS at H ⊢; rw [e]; exact H
theorem TD.cg {τ τ' : Me} {g : Nat → Nat} (H : TD τ g) (e : τ' 2 = τ 2) : TD τ' g := by
  unfold TD at H ⊢; rw [e]; exact H
theorem kd9 {P : Nat} (h : kd P = 9) : P = 9 ∨ P = 30 := (show ∀ k, k < 51 → kd k = 9 → k = 9 ∨ k = 30 by decide) P (kd_lt h (by decide)) h
/-- a remembered share is none, or one -/
def cOK (x : Int32) : Prop := x = -1 ∨ ∃ k, kd k = 14 ∧ x = nI k
theorem p5 {i : Nat} (h : 1 ≤ i) : nI i - 1 = nI (i - 1) := pk_sub h
theorem fo_loop : ∀ n i (σ : Me), 1 ≤ i → i ≤ 6 → 6 - i < n → (∀ j, j < 6 → cOK (σ 7 j)) → ∃ σ', f_X0_forgetOldest_2 n σ (nI i) = some σ' ∧ (∀ k, k ≠ 6 → k ≠ 7 → k ≠ 8 → σ' k = σ k) ∧ σ' 6 2 = 5 ∧ (∀ j, j + 1 < i → σ' 7 j = σ 7 j ∧ σ' 8 j = σ 8 j) ∧ (∀ j, i ≤ j + 1 → j < 5 → σ' 7 j = σ 7 (j + 1) ∧ σ' 8 j = σ 8 (j + 1)) := by
  intro n
  induction n with
  | zero => intro i σ h1 h2 h3; omega
  | succ n ih =>
    intro i σ h1 h2 h3 hc
    rw [f_X0_forgetOldest_2]
    by_cases e : i = 6
    · subst e
      rw [if_pos (show (6 : Int32) ≤ nI 6 by decide)]
      refine ⟨_, rfl, ?_, up_eq _ _ _ _, ?_, ?_⟩
      · intro k h6 _ _; exact up_oth _ _ _ h6
      · intro j _; exact ⟨up_ne _ _ (by omega), up_ne _ _ (by omega)⟩
      · intro j h5 h6; omega
    · have key : ∀ v, v = σ 7 i → ∃ σ', f_X0_forgetOldest_2 n (up (up σ 7 (i - 1) v) 8 (i - 1) ((up σ 7 (i - 1) v) 8 i)) (nI (i + 1)) = some σ' ∧ (∀ k, k ≠ 6 → k ≠ 7 → k ≠ 8 → σ' k = σ k) ∧ σ' 6 2 = 5 ∧ (∀ j, j + 1 < i → σ' 7 j = σ 7 j ∧ σ' 8 j = σ 8 j) ∧ (∀ j, i ≤ j + 1 → j < 5 → σ' 7 j = σ 7 (j + 1) ∧ σ' 8 j = σ 8 (j + 1)) := by
        intro v hv
        obtain ⟨σ', g1, g2, g3, g4, g5⟩ := ih (i + 1) (up (up σ 7 (i - 1) v) 8 (i - 1) ((up σ 7 (i - 1) v) 8 i)) (by omega) (by omega) (by omega) (fun j hj => by
          rw [up_oth _ _ _ (by decide)]
          by_cases ej : j = i - 1
          · rw [ej, up_eq, hv]; exact hc i (by omega)
          · rw [up_ne _ _ (by omega)]; exact hc j hj)
        refine ⟨σ', g1, ?_, g3, ?_, ?_⟩
        · intro k h6 h7 h8
          rw [g2 k h6 h7 h8, up_oth _ _ _ h8, up_oth _ _ _ h7]
        · intro j hj
          have q := g4 j (by omega)
          rw [q.1, q.2]
          exact ⟨by rw [up_ne _ _ (by omega), up_ne _ _ (by omega)], by rw [up_ne _ _ (by omega), up_ne _ _ (by omega)]⟩
        · intro j hj h5
          by_cases ej : j = i - 1
          · have q := g4 j (by omega)
            rw [q.1, q.2, ej]
            refine ⟨?_, ?_⟩
            · rw [up_ne _ _ (by omega), up_eq, hv, show i - 1 + 1 = i by omega]
            · rw [up_eq, up_ne _ _ (by omega), show i - 1 + 1 = i by omega]
          · have q := g5 j (by omega) h5
            rw [q.1, q.2]
            exact ⟨by rw [up_ne _ _ (by omega), up_ne _ _ (by omega)], by rw [up_ne _ _ (by omega), up_ne _ _ (by omega)]⟩
      rw [if_neg (show ¬ ((6 : Int32) ≤ nI i) from fun q => by have := (nI_leI (a := 6) (by decide) (by omega)).mp q; omega), gd_i (by omega) (by decide), p5 h1, nI_clamp (by omega), nI_clamp (by omega), p1]
      rcases hc i (by omega) with hq | ⟨k, hk, hq⟩
      · rw [hq, rf_none, oc_n, gd_i (by omega) (by decide), gd_i (by omega) (by decide), gd_i (by omega) (by decide)]
        exact key (-1) hq.symm
      · rw [hq, rf_some (kd_bd (by rw [hk]; decide)), oc_s, gd_d hk, gd_i (by omega) (by decide), gd_i (by omega) (by decide), gd_i (by omega) (by decide)]
        exact key (nI k) hq.symm
/-- how far the kept ones move down -/
def dn (kept : Nat) : Nat := if kept = 6 then 1 else 0
theorem dn_lt {kept : Nat} (h : kept ≤ 6) : kept - dn kept < 6 ∧ dn kept ≤ kept := by
  unfold dn; split <;> omega
def reR (σ σ' : Me) (kept : Nat) (code amt : Int32) : Prop := (∀ k, k ≠ 6 → k ≠ 7 → k ≠ 8 → σ' k = σ k) ∧ σ' 6 2 = nI (kept - dn kept + 1) ∧ (∀ j, j < kept - dn kept → σ' 7 j = σ 7 (j + dn kept) ∧ σ' 8 j = σ 8 (j + dn kept)) ∧ σ' 7 (kept - dn kept) = code ∧ σ' 8 (kept - dn kept) = amt
theorem re_n13 {σ : Me} {m : Nat} (hm : σ 6 2 = nI m) (h6 : m < 6) (x2 : Int32) : f_X0_remember_n_13 σ x2 = some (up (up (up σ 7 m (-1)) 8 m x2) 6 2 (nI (m + 1))) := by
  unfold f_X0_remember_n_13
  rw [up_ne (k' := 6) (j' := 2) (k := 7) _ _ (by omega), hm, gd_i h6 (by decide), gd_i h6 (by decide), nI_clamp (by omega), up_ne (k' := 6) (j' := 2) (k := 8) _ _ (by omega), up_ne (k' := 6) (j' := 2) (k := 7) _ _ (by omega), hm, p1]
theorem re_s13 {σ : Me} {m k : Nat} (hm : σ 6 2 = nI m) (h6 : m < 6) (x2 : Int32) : f_X0_remember_s_13 σ k x2 = some (up (up (up σ 7 m (nI k)) 8 m x2) 6 2 (nI (m + 1))) := by
  unfold f_X0_remember_s_13
  rw [up_ne (k' := 6) (j' := 2) (k := 7) _ _ (by omega), hm, gd_i h6 (by decide), gd_i h6 (by decide), nI_clamp (by omega), up_ne (k' := 6) (j' := 2) (k := 8) _ _ (by omega), up_ne (k' := 6) (j' := 2) (k := 7) _ _ (by omega), hm, p1]
theorem re_facts {σ σ0 : Me} {kept m : Nat} (code amt : Int32) (hm : m = kept - dn kept) (h0 : ∀ k, k ≠ 6 → k ≠ 7 → k ≠ 8 → σ0 k = σ k) (h1 : ∀ j, j < m → σ0 7 j = σ 7 (j + dn kept) ∧ σ0 8 j = σ 8 (j + dn kept)) : reR σ (up (up (up σ0 7 m code) 8 m amt) 6 2 (nI (m + 1))) kept code amt := by
  subst hm
  refine ⟨?_, up_eq _ _ _ _, ?_, ?_, ?_⟩
  · intro k h6 h7 h8
    rw [up_oth _ _ _ h6, up_oth _ _ _ h8, up_oth _ _ _ h7, h0 k h6 h7 h8]
  · intro j hj
    have q := h1 j hj
    refine ⟨?_, ?_⟩
    · rw [up_ne _ _ (by omega), up_ne _ _ (by omega), up_ne _ _ (by omega)]; exact q.1
    · rw [up_ne _ _ (by omega), up_ne _ _ (by omega), up_ne _ _ (by omega)]; exact q.2
  · rw [up_ne _ _ (by omega), up_ne _ _ (by omega), up_eq]
  · rw [up_ne _ _ (by omega), up_eq]
theorem re_n {σ : Me} {kept : Nat} (hk : kept ≤ 6) (h6 : σ 6 2 = nI kept) (hc : ∀ j, j < kept → cOK (σ 7 j)) (x2 : Int32) : ∃ σ', f_X0_rememberSpoiled σ x2 = some σ' ∧ reR σ σ' kept (-1) x2 := by
  unfold f_X0_rememberSpoiled f_X0_remember_n
  rw [h6]
  by_cases e : kept = 6
  · subst e
    rw [if_neg (show ¬ (nI 6 < (6 : Int32)) by decide)]
    obtain ⟨σ0, g1, g2, g3, g4, g5⟩ := fo_loop 1000 1 σ (by decide) (by decide) (by decide) hc
    rw [show f_X0_forgetOldest σ = some σ0 from g1, bs, re_n13 (m := 5) g3 (by decide), bs]
    exact ⟨_, rfl, re_facts (σ0 := σ0) (m := 5) _ _ rfl g2 (fun j hj => g5 j (by omega) hj)⟩
  · rw [if_pos (show nI kept < (6 : Int32) from nI_lt (b := 6) (by omega) (by decide)), re_n13 h6 (by omega), bs]
    have d0 : dn kept = 0 := by unfold dn; rw [if_neg e]
    exact ⟨_, rfl, re_facts (σ0 := σ) (m := kept) _ _ (by omega) (fun _ _ _ _ => rfl) (fun j hj => by rw [d0]; exact ⟨rfl, rfl⟩)⟩
theorem re_s {σ : Me} {kept k : Nat} (hk : kept ≤ 6) (h6 : σ 6 2 = nI kept) (hc : ∀ j, j < kept → cOK (σ 7 j)) (x2 : Int32) : ∃ σ', f_X0_rememberRun σ k x2 = some σ' ∧ reR σ σ' kept (nI k) x2 := by
  unfold f_X0_rememberRun f_X0_remember_s
  rw [h6]
  by_cases e : kept = 6
  · subst e
    rw [if_neg (show ¬ (nI 6 < (6 : Int32)) by decide)]
    obtain ⟨σ0, g1, g2, g3, g4, g5⟩ := fo_loop 1000 1 σ (by decide) (by decide) (by decide) hc
    rw [show f_X0_forgetOldest σ = some σ0 from g1, bs, re_s13 (m := 5) g3 (by decide), bs]
    exact ⟨_, rfl, re_facts (σ0 := σ0) (m := 5) _ _ rfl g2 (fun j hj => g5 j (by omega) hj)⟩
  · rw [if_pos (show nI kept < (6 : Int32) from nI_lt (b := 6) (by omega) (by decide)), re_s13 h6 (by omega), bs]
    have d0 : dn kept = 0 := by unfold dn; rw [if_neg e]
    exact ⟨_, rfl, re_facts (σ0 := σ) (m := kept) _ _ (by omega) (fun _ _ _ _ => rfl) (fun j hj => by rw [d0]; exact ⟨rfl, rfl⟩)⟩
theorem n51 : ∀ n i (τ : Me) {m : Nat}, τ 0 7 = nI m → m < 6 → i ≤ 112 → 112 - i < n → ∃ τ', f_X8_note1_51 n τ (nI i) = some τ' ∧ (∀ k, k ≠ 0 → k ≠ 5 → τ' k = τ k) ∧ (∀ j, j ≠ 7 → τ' 0 j = τ 0 j) ∧ τ' 0 7 = nI (m + 1) ∧ (∀ j, j < 112 * m + i → τ' 5 j = τ 5 j) ∧ (∀ j, i ≤ j → j < 112 → τ' 5 (112 * m + j) = τ 4 j) := by
  intro n
  induction n with
  | zero => intro i τ m h1 h2 h3 h4; omega
  | succ n ih =>
    intro i τ m h0 h1 h2 h3
    rw [f_X8_note1_51, h0]
    by_cases e : i = 112
    · subst e
      rw [if_pos (show (112 : Int32) ≤ nI 112 by decide), p1]
      refine ⟨_, rfl, ?_, ?_, up_eq _ _ _ _, ?_, ?_⟩
      · intro k h4 _; exact up_oth _ _ _ h4
      · intro j h4; exact up_ne _ _ (by omega)
      · intro j _; exact up_ne _ _ (by omega)
      · intro j h4 h5; omega
    · rw [if_neg (show ¬ ((112 : Int32) ≤ nI i) from fun q => by have := (nI_leI (a := 112) (by decide) (by omega)).mp q; omega), gd_i (by omega) (by decide), show (112 : Int32) * nI m = nI (112 * m) from pk_mul 112 m, nI_add, gd_i (by omega) (by decide), nI_clamp (by omega), nI_clamp (by omega), p1]
      obtain ⟨τ', g1, g2, g3, g4, g5, g6⟩ := ih (i + 1) (up τ 5 (112 * m + i) (τ 4 i)) (m := m) (by rw [up_ne _ _ (by omega)]; exact h0) h1 (by omega) (by omega)
      refine ⟨τ', g1, ?_, ?_, g4, ?_, ?_⟩
      · intro k h4 h5; rw [g2 k h4 h5, up_oth _ _ _ h5]
      · intro j h4; rw [g3 j h4, up_ne _ _ (by omega)]
      · intro j h4; rw [g5 j (by omega), up_ne _ _ (by omega)]
      · intro j h4 h5
        by_cases ej : j = i
        · rw [ej, g5 _ (by omega), up_eq]
        · rw [g6 j (by omega) h5, up_ne _ _ (by omega)]
theorem n11 : ∀ n i (τ : Me), τ 0 7 = nI 6 → i ≤ 560 → 560 - i < n → ∃ τ', f_X8_note1_11 n τ (nI i) = f_X8_note1_51 1000 τ' 0 ∧ (∀ k, k ≠ 0 → k ≠ 5 → τ' k = τ k) ∧ (∀ j, j ≠ 7 → τ' 0 j = τ 0 j) ∧ τ' 0 7 = nI 5 ∧ (∀ j, j < i → τ' 5 j = τ 5 j) ∧ (∀ j, i ≤ j → j < 560 → τ' 5 j = τ 5 (112 + j)) := by
  intro n
  induction n with
  | zero => intro i τ h1 h2 h3; omega
  | succ n ih =>
    intro i τ h0 h1 h2
    rw [f_X8_note1_11, h0]
    by_cases e : i = 560
    · subst e
      rw [if_pos (show (560 : Int32) ≤ nI 560 by decide)]
      refine ⟨_, rfl, ?_, ?_, up_eq _ _ _ _, ?_, ?_⟩
      · intro k h4 _; exact up_oth _ _ _ h4
      · intro j h4; exact up_ne _ _ (by omega)
      · intro j _; exact up_ne _ _ (by omega)
      · intro j h4 h5; omega
    · rw [if_neg (show ¬ ((560 : Int32) ≤ nI i) from fun q => by have := (nI_leI (a := 560) (by decide) (by omega)).mp q; omega), show (112 : Int32) + nI i = nI (112 + i) from nI_add 112 i, gd_i (by omega) (by decide), gd_i (by omega) (by decide), nI_clamp (by omega), nI_clamp (by omega), p1]
      obtain ⟨τ', g1, g2, g3, g4, g5, g6⟩ := ih (i + 1) (up τ 5 i (τ 5 (112 + i))) (by rw [up_ne _ _ (by omega)]; exact h0) (by omega) (by omega)
      refine ⟨τ', g1, ?_, ?_, g4, ?_, ?_⟩
      · intro k h4 h5; rw [g2 k h4 h5, up_oth _ _ _ h5]
      · intro j h4; rw [g3 j h4, up_ne _ _ (by omega)]
      · intro j h4; rw [g5 j (by omega), up_ne _ _ (by omega)]
      · intro j h4 h5
        by_cases ej : j = i
        · rw [ej, g5 _ (by omega), up_eq]
        · rw [g6 j (by omega) h5, up_ne _ _ (by omega)]
def noR (τ τ' : Me) (kept : Nat) : Prop := (∀ k, k ≠ 0 → k ≠ 5 → τ' k = τ k) ∧ (∀ j, j ≠ 7 → τ' 0 j = τ 0 j) ∧ τ' 0 7 = nI (kept - dn kept + 1) ∧ (∀ j, j < kept - dn kept → ∀ i, i < 112 → τ' 5 (112 * j + i) = τ 5 (112 * (j + dn kept) + i)) ∧ ∀ i, i < 112 → τ' 5 (112 * (kept - dn kept) + i) = τ 4 i
theorem note1 {τ : Me} {kept : Nat} (hk : kept ≤ 6) (h7 : τ 0 7 = nI kept) : ∃ τ', f_X8_note1 τ = some τ' ∧ noR τ τ' kept := by
  unfold f_X8_note1
  rw [h7]
  by_cases e : kept = 6
  · subst e
    rw [if_pos (show nI 6 = (6 : Int32) from rfl)]
    obtain ⟨τ0, g1, g2, g3, g4, g5, g6⟩ := n11 1000 0 τ h7 (by decide) (by decide)
    obtain ⟨τ', k1, k2, k3, k4, k5, k6⟩ := n51 1000 0 τ0 (m := 5) g4 (by decide) (by decide) (by decide)
    refine ⟨τ', (show f_X8_note1_11 1000 τ 0 = _ from g1).trans k1, ?_, ?_, k4, ?_, ?_⟩
    · intro k h4 h5; rw [k2 k h4 h5, g2 k h4 h5]
    · intro j h4; rw [k3 j h4, g3 j h4]
    · intro j hj i hi
      have hj : j < 5 := hj
      rw [k5 _ (by omega), g6 _ (by omega) (by omega), show 112 + (112 * j + i) = 112 * (j + dn 6) + i by show _ = 112 * (j + 1) + i; omega]
    · intro i hi
      have := k6 i (by omega) hi
      rw [g2 4 (by decide) (by decide)] at this
      exact this
  · rw [if_neg (show ¬ (nI kept = (6 : Int32)) from fun q => e ((nI_eq (b := 6) (by omega) (by decide)).mp q))]
    have d0 : dn kept = 0 := by unfold dn; rw [if_neg e]
    obtain ⟨τ', k1, k2, k3, k4, k5, k6⟩ := n51 1000 0 τ (m := kept) h7 (by omega) (by decide) (by decide)
    refine ⟨τ', k1, k2, k3, ?_, ?_, ?_⟩
    · rw [d0]; exact k4
    · intro j hj i hi
      rw [d0] at hj ⊢
      exact k5 _ (by omega)
    · intro i hi
      rw [d0]
      exact k6 i (by omega) hi
