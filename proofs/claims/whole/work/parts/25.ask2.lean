section AQ2
variable {σ τ : Me} {P : Nat} {g h : Nat → Nat}
theorem q_pack (Q : RQ σ τ P g h) (x1 x2 x3 : Int32) : ∃ r, f_X7_pack σ x1 x2 x3 = some r ∧ f_X8_pack τ x1 x2 x3 = some r := by
  obtain ⟨hk, h03, V, H, T, S, L, R⟩ := id Q
  have h3 := V.1.2.1
  unfold f_X7_pack f_X8_pack
  rw [Q.eP, gd_d hk, m_isS T, bs]
  cases hr : rng x1 0 (nI (g 23) - 1) with
  | false => rw [c_serAtN L.2.1 hr, bs, oc_n, if_pos bIf]; exact ⟨_, rfl, rfl⟩
  | true =>
    obtain ⟨s, hs, rfl⟩ := rng_ex (by omega) hr
    have hM := (V.2 s hs).2
    rw [c_serAt L.2.1 V.1.2.1 hs, bs, oc_s, gd_d (kd_S hk (by omega)), if_neg bIt, c_packs Q hs, bs, ft, bs, m_packs Q hs, bs, fi0, bs]
    cases hr2 : rng x2 0 (nI ((Fs g s (g 22) + 9) / 10) - 1) with
    | false => rw [if_pos bIf, if_pos bIf]; exact ⟨_, rfl, rfl⟩
    | true =>
      obtain ⟨k, hkk, rfl⟩ := rng_ex (by omega) hr2
      rw [if_neg bIt, if_neg bIt, ft, bs, fi x3 0 9 (by decide) (by decide), bs]
      cases hr3 : rng x3 0 9 with
      | false => rw [if_pos bIf, if_pos bIf]; exact ⟨_, rfl, rfl⟩
      | true =>
        obtain ⟨i, hi, rfl⟩ := rl (b := 9) rfl (by decide) hr3
        obtain ⟨b, e1, e2⟩ := whole_rel Q hs (k := k) (by omega)
        rw [if_neg bIt, if_neg bIt, e1, e2, bs, bs]
        cases b with
        | false => rw [if_pos bIf, if_pos bIf]; exact ⟨_, rfl, rfl⟩
        | true =>
          rw [if_neg bIt, if_neg bIt, u10, nI_add, c_hasNum Q hs, bs, m_whole T (by omega) V.1.1, bs, if_lt (by omega) (by omega)]
          by_cases e : 10 * k + i < Fs g s (g 22)
          · rw [rng_t e (by omega), if_neg bIt, if_pos e, c_star R (h99 V.1 H) H.2.2.2 (by omega) (by omega), m_star S (h99 V.1 H) H.2.2.2 (by omega) (by omega)]
            simp only [bs]
            by_cases e3 : sA h (1000 * s + (10 * k + i)) = -4
            · simp only [if_pos e3]; exact ⟨_, rfl, rfl⟩
            · simp only [if_neg e3]; exact ⟨_, rfl, rfl⟩
          · have : rng (nI (10 * k + i)) 0 (nI (Fs g s (g 22)) - 1) = false := by
              cases hq : rng (nI (10 * k + i)) 0 (nI (Fs g s (g 22)) - 1) with
              | false => rfl
              | true =>
                obtain ⟨j, h1, h2⟩ := rng_ex (by omega) hq
                have := (nI_eq (by omega) (by omega)).mp h2
                omega
            rw [this, if_pos bIf, if_neg e]; exact ⟨_, rfl, rfl⟩
theorem j_let (Q : RQ σ τ P g h) {l : Nat} (hl : l ≤ 26) (x2 x3 : Int32) : ∀ n i, i ≤ g 23 → g 23 - i < n →
    (∃ k, k < g 23 ∧ f_X2_seriesOfLetter_2 n σ P (nI l) (nI i) = some (nI k) ∧ f_X8_judge_52 n τ (nI l) x2 x3 (nI i) = f_X8_judge_86 τ x2 x3 (nI k)) ∨ (f_X2_seriesOfLetter_2 n σ P (nI l) (nI i) = some (-4) ∧ f_X8_judge_52 n τ (nI l) x2 x3 (nI i) = f_X8_judge_86 τ x2 x3 (nI (g 23))) := by
  obtain ⟨hk, h03, V, H, T, S, L, R⟩ := id Q
  have h3 := V.1.2.1
  intro n
  induction n with
  | zero => intro i h1 h2; omega
  | succ n ih =>
    intro i h1 h2
    rw [f_X2_seriesOfLetter_2, f_X8_judge_52, L.2.1, T 23 (by decide), if_le (by omega) (by omega), if_le (by omega) (by omega)]
    by_cases e : i = g 23
    · rw [if_pos (by omega), if_pos (by omega), e]
      exact Or.inr ⟨rfl, rfl⟩
    · have hb := (V.1.2.2.2.2 i (by omega)).1
      simp only [if_neg (show ¬ g 23 ≤ i by omega)]
      rw [gd_i (by omega) (by decide), nI_clamp (by omega), (L.2.2.2.2 i (by omega)).2.1, u6, a4, gd_i (by omega) (by decide), nI_clamp (by omega), T _ (by omega), if_eq (by omega) (by omega), if_eq (by omega) (by omega), p1]
      by_cases e2 : g (4 + 6 * i) = l
      · simp only [if_pos e2]
        exact Or.inl ⟨i, by omega, rfl, rfl⟩
      · simp only [if_neg e2]
        exact ih (i + 1) (by omega) (by omega)
theorem q_judge (Q : RQ σ τ P g h) (x1 x2 x3 : Int32) : ∃ r, f_X7_judge σ x1 x2 x3 = some r ∧ f_X8_judge τ x1 x2 x3 = some r := by
  obtain ⟨hk, h03, V, H, T, S, L, R⟩ := id Q
  have h3 := V.1.2.1
  have h9 := V.1.2.2.1
  have hu := h99 V.1 H
  unfold f_X7_judge f_X8_judge
  rw [ft, bs, fi x1 0 26 (by decide) (by decide), bs]
  cases hr : rng x1 0 26 with
  | false => rw [if_pos bIf, if_pos bIf]; exact ⟨_, rfl, rfl⟩
  | true =>
    obtain ⟨l, hl, rfl⟩ := rl (b := 26) rfl (by decide) hr
    rw [if_neg bIt, if_neg bIt, ft, bs, fi x2 0 999 (by decide) (by decide), bs]
    cases hr2 : rng x2 0 999 with
    | false => rw [if_pos bIf, if_pos bIf]; exact ⟨_, rfl, rfl⟩
    | true =>
      obtain ⟨v, hv, rfl⟩ := rl (b := 999) rfl (by decide) hr2
      rw [if_neg bIt, if_neg bIt, ft, bs, fi x3 0 99 (by decide) (by decide), bs]
      cases hr3 : rng x3 0 99 with
      | false => rw [if_pos bIf, if_pos bIf]; exact ⟨_, rfl, rfl⟩
      | true =>
        rw [if_neg bIt, if_neg bIt]
        by_cases e0 : nI l = 0
        · rw [if_pos e0, if_pos e0]
          unfold f_X7_judgeStar f_X8_judgeStar
          have hc := chOf (k := 1) (l := 0) (v := v) (by decide) (by decide) (by omega)
          have ho := ofStar (v := v) (by omega)
          rw [R.1, R.2.1, T 24 (by decide), S 111 (by decide), ho, show f_X8_checkOf 0 1 (nI v) = some (nI (ck 1 0 (v / 100) (v / 10 % 10) (v % 10))) from hc]
          simp only [bs]
          by_cases e1 : nI v < nI (g 24)
          · simp only [if_pos e1]
            by_cases e2 : x3 = nI (ck 1 0 (v / 100) (v / 10 % 10) (v % 10))
            · simp only [if_pos e2]
              by_cases e3 : nI v < nI (h 111)
              · simp only [if_pos e3]; exact ⟨_, rfl, rfl⟩
              · simp only [if_neg e3]; exact ⟨_, rfl, rfl⟩
            · simp only [if_neg e2]; exact ⟨_, rfl, rfl⟩
          · simp only [if_neg e1]; exact ⟨_, rfl, rfl⟩
        · rw [if_neg e0, if_neg e0]
          unfold f_X7_judgeNote f_X2_seriesOfLetter
          rw [Q.eP, gd_d hk]
          rcases j_let Q hl (nI v) x3 1000 0 (by omega) (by omega) with ⟨s, hs, e1, e2⟩ | ⟨e1, e2⟩
          · rw [show f_X2_seriesOfLetter_2 1000 σ P (nI l) 0 = some (nI s) from e1, show f_X8_judge_52 1000 τ (nI l) (nI v) x3 0 = f_X8_judge_86 τ (nI v) x3 (nI s) from e2, bs, gd_d hk, c_serAt L.2.1 V.1.2.1 hs, bs, oc_s, gd_d (kd_S hk (by omega))]
            unfold f_X8_judge_86
            have hM := (V.2 s hs).2
            rw [T 23 (by decide), if_neg (fun q => by have := (nI_eq (by omega) (by omega)).mp q; omega), m_isN Q hs, bs, c_hasNum Q hs, bs]
            cases hr4 : rng (nI v) 0 (nI (Fs g s (g 22)) - 1) with
            | false => rw [if_pos bIf, if_pos bIf]; exact ⟨_, rfl, rfl⟩
            | true =>
              obtain ⟨v2, hv2, e3⟩ := rng_ex (by omega) hr4
              have e4 := (nI_eq (by omega) (by omega)).mp e3
              subst e4
              rw [if_neg bIt, if_neg bIt, c_ofNum Q hs (by omega), m_chIn Q hs (by omega), bs, bs]
              by_cases e5 : x3 = nI (ck (g (5 + 6 * s)) (g (4 + 6 * s)) (v / 100) (v / 10 % 10) (v % 10))
              · rw [if_pos e5, if_pos e5]
                obtain ⟨b, e6, e7⟩ := isPr_rel Q hs hv2
                rw [e6, e7, bs, bs]
                cases b with
                | false => rw [if_pos bIf, if_pos bIf]; exact ⟨_, rfl, rfl⟩
                | true =>
                  rw [if_neg bIt, if_neg bIt, c_stands R (h99 V.1 H) H.2.2.2 (by omega) (by omega), m_star S (h99 V.1 H) H.2.2.2 (by omega) (by omega), bs, bs]
                  by_cases e : sA h (1000 * s + v) = -4
                  · rw [decide_eq_false (fun q => q e), if_pos bIf, if_pos e]; exact ⟨_, rfl, rfl⟩
                  · rw [decide_eq_true e, if_neg bIt, if_neg e]; exact ⟨_, rfl, rfl⟩
              · rw [if_neg e5, if_neg e5]; exact ⟨_, rfl, rfl⟩
          · rw [show f_X2_seriesOfLetter_2 1000 σ P (nI l) 0 = some (-4) from e1, show f_X8_judge_52 1000 τ (nI l) (nI v) x3 0 = f_X8_judge_86 τ (nI v) x3 (nI (g 23)) from e2, bs, gd_d hk, c_serAtN L.2.1 (r_m4 _ (by omega)), bs, oc_n]
            unfold f_X8_judge_86
            rw [T 23 (by decide), if_pos rfl]; exact ⟨_, rfl, rfl⟩
/-- a sum over the series -/
def Tn (f : Nat → Nat) : Nat → Nat
  | 0 => 0
  | s + 1 => Tn f s + f s
theorem c_tot4 {F : Me → Nat → Option Int32} {f : Nat → Nat} {lp : Nat → Me → Nat → Int32 → Int32 → Option Int32} (hlp : ∀ n σ k x1 x2, lp (n + 1) σ k x1 x2 = if (σ k 3) ≤ x2 then (some x1) else (gd (inb x2 3) ((F σ ((k + 2) + 1 + 6 * x2.toNatClampNeg)).bind fun r3 => lp n σ k (x1 + r3) (x2 + 1)))) {m : Nat} (hm : σ P 3 = nI m) (h3 : m ≤ 3) (hF : ∀ s, s < m → F σ (P + 2 + 1 + 6 * s) = some (nI (f s))) : ∀ n i, i ≤ m → m - i < n → lp n σ P (nI (Tn f i)) (nI i) = some (nI (Tn f m)) := by
  intro n
  induction n with
  | zero => intro i h1 h2; omega
  | succ n ih =>
    intro i h1 h2
    rw [hlp, hm, if_le (by omega) (by omega)]
    by_cases e : i = m
    · rw [if_pos (by omega), e]
    · rw [if_neg (by omega), gd_i (by omega) (by decide), nI_clamp (by omega), hF i (by omega), bs, nI_add, p1]
      exact ih (i + 1) (by omega) (by omega)
theorem m_cnt61 (S : SS τ h) (x1 x2 x4 : Int32) : ∀ n i c, i ≤ 12 → 12 - i < n → f_X8_count_61 n τ x1 x2 (nI (Tn h i + c)) x4 (nI i) = f_X8_count_61 1 τ x1 x2 (nI (Tn h 12 + c)) x4 (nI 12) := by
  intro n
  induction n with
  | zero => intro i c h1 h2; omega
  | succ n ih =>
    intro i c h1 h2
    by_cases e : i = 12
    · subst e
      rw [f_X8_count_61, f_X8_count_61, if_pos (show (12 : Int32) ≤ nI 12 by decide), if_pos (show (12 : Int32) ≤ nI 12 by decide)]
    · rw [f_X8_count_61, if_neg (show ¬ ((12 : Int32) ≤ nI i) from fun q => by have := (nI_leI (a := 12) (by decide) (by omega)).mp q; omega), gd_i (by omega) (by decide), nI_clamp (by omega), S _ (by omega), nI_add, p1]
      have := ih (i + 1) c (by omega) (by omega)
      rw [show Tn h i + c + h i = Tn h (i + 1) + c by show _ = Tn h i + h i + c; omega]
      exact this
theorem m_cnt10 (Q : RQ σ τ P g h) (x1 x4 : Int32) (f : Nat → Nat) (hf : x1 = 7 → ∀ s, s < g 23 → f_X8_wholes τ (nI s) = some (nI (f s))) : ∀ n i, i ≤ g 23 → g 23 - i < n → ∃ x5, f_X8_count_10 n τ x1 (nI (Tn (fun s => Pn g h s (g 22)) i)) 0 (if x1 = 7 then nI (Tn f i) else x4) (nI i) = f_X8_count_61 1 τ x1 (nI (Tn (fun s => Pn g h s (g 22)) (g 23))) (nI (Tn h 12)) x5 (nI 12) ∧ (x1 = 7 → x5 = nI (Tn f (g 23))) := by
  obtain ⟨hk, h03, V, H, T, S, L, R⟩ := id Q
  have h3 := V.1.2.1
  intro n
  induction n generalizing x4 with
  | zero => intro i h1 h2; omega
  | succ n ih =>
    intro i h1 h2
    rw [f_X8_count_10, T 23 (by decide), if_le (by omega) (by omega)]
    by_cases e : i = g 23
    · rw [if_pos (by omega)]
      have := m_cnt61 S x1 (nI (Tn (fun s => Pn g h s (g 22)) i)) (if x1 = 7 then nI (Tn f i) else x4) 1000 0 0 (by omega) (by omega)
      refine ⟨(if x1 = 7 then nI (Tn f i) else x4), ?_, ?_⟩
      · rw [← e]; exact this
      · intro e7; rw [if_pos e7, e]
    · rw [if_neg (by omega), m_notes T S (by omega) V.1.1, bs, p1, nI_add]
      by_cases e7 : x1 = 7
      · rw [if_pos e7, hf e7 i (by omega), bs, if_pos e7, nI_add]
        have := ih x4 (i + 1) (by omega) (by omega)
        rw [if_pos e7] at this
        exact this
      · rw [if_neg e7, if_neg e7]
        have := ih (x4 + 0) (i + 1) (by omega) (by omega)
        rw [if_neg e7] at this
        exact this
theorem Rn_cut {h : Nat → Nat} {s np : Nat} (h4 : np ≤ 4) (hz : ∀ p, p < 4 → np ≤ p → h (4 * s + p) = 0) : Rn h s np = h (4 * s) + h (4 * s + 1) + h (4 * s + 2) + h (4 * s + 3) := by
  have e : ∀ n, np ≤ n → n ≤ 4 → Rn h s n = Rn h s np := by
    intro n
    induction n with
    | zero => intro h1 _; rw [show np = 0 by omega]
    | succ n ih =>
      intro h1 h2
      by_cases e : np = n + 1
      · rw [e]
      · show Rn h s n + h (4 * s + n) = _
        rw [ih (by omega) (by omega), hz n (by omega) (by omega), Nat.add_zero]
  have := e 4 h4 (Nat.le_refl _)
  rw [← this]
  show 0 + h (4 * s + 0) + h (4 * s + 1) + h (4 * s + 2) + h (4 * s + 3) = _
  rw [Nat.add_zero]; omega
theorem sum12 (V : VB g) (H : VH g h) : Tn h 12 = Tn (fun s => Rn h s (g 22)) (g 23) := by
  have hc : ∀ s, s < 3 → s < g 23 → Rn h s (g 22) = h (4 * s) + h (4 * s + 1) + h (4 * s + 2) + h (4 * s + 3) := fun s hs _ => Rn_cut V.1 (fun p hp hq => H.2.2.1 s hs p hp (Or.inr hq))
  have hz : ∀ s, s < 3 → g 23 ≤ s → h (4 * s) = 0 ∧ h (4 * s + 1) = 0 ∧ h (4 * s + 2) = 0 ∧ h (4 * s + 3) = 0 := fun s hs hq => ⟨H.2.2.1 s hs 0 (by decide) (Or.inl hq), H.2.2.1 s hs 1 (by decide) (Or.inl hq), H.2.2.1 s hs 2 (by decide) (Or.inl hq), H.2.2.1 s hs 3 (by decide) (Or.inl hq)⟩
  have e12 : Tn h 12 = h 0 + h 1 + h 2 + h 3 + h 4 + h 5 + h 6 + h 7 + h 8 + h 9 + h 10 + h 11 := by
    show 0 + h 0 + h 1 + h 2 + h 3 + h 4 + h 5 + h 6 + h 7 + h 8 + h 9 + h 10 + h 11 = _
    omega
  rw [e12]
  have h3 := V.2.1
  have z0 : g 23 ≤ 0 → h 0 = 0 ∧ h 1 = 0 ∧ h 2 = 0 ∧ h 3 = 0 := hz 0 (by decide)
  have z1 : g 23 ≤ 1 → h 4 = 0 ∧ h 5 = 0 ∧ h 6 = 0 ∧ h 7 = 0 := hz 1 (by decide)
  have z2 : g 23 ≤ 2 → h 8 = 0 ∧ h 9 = 0 ∧ h 10 = 0 ∧ h 11 = 0 := hz 2 (by decide)
  have c0 : 0 < g 23 → Rn h 0 (g 22) = h 0 + h 1 + h 2 + h 3 := hc 0 (by decide)
  have c1 : 1 < g 23 → Rn h 1 (g 22) = h 4 + h 5 + h 6 + h 7 := hc 1 (by decide)
  have c2 : 2 < g 23 → Rn h 2 (g 22) = h 8 + h 9 + h 10 + h 11 := hc 2 (by decide)
  rcases (show g 23 = 0 ∨ g 23 = 1 ∨ g 23 = 2 ∨ g 23 = 3 by omega) with e | e | e | e
  · rw [e] at z0 z1 z2 ⊢
    have z0 := z0 (by omega); have z1 := z1 (by omega); have z2 := z2 (by omega)
    show _ = 0
    omega
  · rw [e] at z1 z2 c0 ⊢
    have z1 := z1 (by omega); have z2 := z2 (by omega); have c0 := c0 (by omega)
    show _ = 0 + Rn h 0 (g 22)
    omega
  · rw [e] at z2 c0 c1 ⊢
    have z2 := z2 (by omega); have c0 := c0 (by omega); have c1 := c1 (by omega)
    show _ = 0 + Rn h 0 (g 22) + Rn h 1 (g 22)
    omega
  · rw [e] at c0 c1 c2 ⊢
    have c0 := c0 (by omega); have c1 := c1 (by omega); have c2 := c2 (by omega)
    show _ = 0 + Rn h 0 (g 22) + Rn h 1 (g 22) + Rn h 2 (g 22)
    omega
theorem q_count (Q : RQ σ τ P g h) (hu : σ 6 2 = τ 0 7) (hl : σ 1 1 = τ 0 0) (x1 : Int32) : ∃ r, f_X7_count σ x1 = some r ∧ f_X8_count τ x1 = some r := by
  obtain ⟨hk, h03, V, H, T, S, L, R⟩ := id Q
  have h3 := V.1.2.1
  have hw : ∀ s, ∃ c, s < g 23 → f_X3_wholePacks σ (P + 2 + 1 + 6 * s) = some (nI c) ∧ f_X8_wholes τ (nI s) = some (nI c) := by
    intro s
    by_cases hs : s < g 23
    · obtain ⟨c, -, h1, h2⟩ := wholes_rel Q hs
      exact ⟨c, fun _ => ⟨h1, h2⟩⟩
    · exact ⟨0, fun q => absurd q hs⟩
  obtain ⟨f, hf1⟩ : ∃ f : Nat → Nat, ∀ s, s < g 23 → f_X3_wholePacks σ (P + 2 + 1 + 6 * s) = some (nI (f s)) ∧ f_X8_wholes τ (nI s) = some (nI (f s)) := ⟨fun s => Classical.choose (hw s), fun s => Classical.choose_spec (hw s)⟩
  obtain ⟨x5, e1, e2⟩ := m_cnt10 Q x1 0 f (fun _ s hs => (hf1 s hs).2) 1000 0 (by omega) (by omega)
  have em : f_X8_count τ x1 = f_X8_count_61 1 τ x1 (nI (Tn (fun s => Pn g h s (g 22)) (g 23))) (nI (Tn h 12)) x5 (nI 12) := by
    rw [← e1]
    unfold f_X8_count
    by_cases e7 : x1 = 7
    · rw [if_pos e7]; rfl
    · rw [if_neg e7]; rfl
  rw [em, f_X8_count_61, if_pos (show (12 : Int32) ≤ nI 12 by decide)]
  unfold f_X7_count
  rw [Q.eP]
  simp only [gd_d hk]
  have cn : f_X2_notesPrinted σ P = some (nI (Tn (fun s => Pn g h s (g 22)) (g 23))) := c_tot4 (F := f_X3_notesPrinted) (lp := f_X2_notesPrinted_4) (fun n σ k x1 x2 => by rw [f_X2_notesPrinted_4]) L.2.1 h3 (fun s hs => c_notes (L.2.2.2.2 s hs) V.1.1) 1000 0 (by omega) (by omega)
  have cr : f_X2_sheetsRun σ P = some (nI (Tn (fun s => Rn h s (g 22)) (g 23))) := c_tot4 (F := f_X3_sheetsRun) (lp := f_X2_sheetsRun_4) (fun n σ k x1 x2 => by rw [f_X2_sheetsRun_4]) L.2.1 h3 (fun s hs => c_run (L.2.2.2.2 s hs) V.1.1) 1000 0 (by omega) (by omega)
  have cw : f_X2_wholePacks σ P = some (nI (Tn f (g 23))) := c_tot4 (F := f_X3_wholePacks) (lp := f_X2_wholePacks_4) (fun n σ k x1 x2 => by rw [f_X2_wholePacks_4]) L.2.1 h3 (fun s hs => (hf1 s hs).1) 1000 0 (by omega) (by omega)
  rw [cn, cr, cw, L.1, L.2.1, R.1, R.2.1, T 22 (by decide), T 23 (by decide), T 24 (by decide), S 111 (by decide), sum12 V.1 H, hu, hl]
  by_cases e0 : x1 = 0
  · simp only [if_pos e0]; exact ⟨_, rfl, rfl⟩
  by_cases e1 : x1 = 1
  · simp only [if_neg e0, if_pos e1]; exact ⟨_, rfl, rfl⟩
  by_cases e2' : x1 = 2
  · simp only [if_neg e0, if_neg e1, if_pos e2']; exact ⟨_, rfl, rfl⟩
  by_cases e3 : x1 = 3
  · simp only [if_neg e0, if_neg e1, if_neg e2', if_pos e3]; exact ⟨_, rfl, rfl⟩
  by_cases e4 : x1 = 4
  · simp only [if_neg e0, if_neg e1, if_neg e2', if_neg e3, if_pos e4]; exact ⟨_, rfl, rfl⟩
  by_cases e5 : x1 = 5
  · simp only [if_neg e0, if_neg e1, if_neg e2', if_neg e3, if_neg e4, if_pos e5]; exact ⟨_, rfl, rfl⟩
  by_cases e6 : x1 = 6
  · simp only [if_neg e0, if_neg e1, if_neg e2', if_neg e3, if_neg e4, if_neg e5, if_pos e6]; exact ⟨_, rfl, rfl⟩
  by_cases e7 : x1 = 7
  · simp only [if_neg e0, if_neg e1, if_neg e2', if_neg e3, if_neg e4, if_neg e5, if_neg e6, if_pos e7, e2 e7]; exact ⟨_, rfl, rfl⟩
  by_cases e8 : x1 = 8
  · simp only [if_neg e0, if_neg e1, if_neg e2', if_neg e3, if_neg e4, if_neg e5, if_neg e6, if_neg e7, if_pos e8]; exact ⟨_, rfl, rfl⟩
  by_cases e9 : x1 = 9
  · simp only [if_neg e0, if_neg e1, if_neg e2', if_neg e3, if_neg e4, if_neg e5, if_neg e6, if_neg e7, if_neg e8, if_pos e9]; exact ⟨_, rfl, rfl⟩
  simp only [if_neg e0, if_neg e1, if_neg e2', if_neg e3, if_neg e4, if_neg e5, if_neg e6, if_neg e7, if_neg e8, if_neg e9]; exact ⟨_, rfl, rfl⟩
end AQ2
