/-! stars, packs, sums: class and reference side by side -/
def SR (σ : Me) (g h : Nat → Nat) : Prop := σ 3 2 = nI (g 24) ∧ σ 3 3 = nI (h 111) ∧ ∀ i, i < h 111 → σ 4 i = nI (h (12 + i) / 1000) ∧ σ 5 i = nI (h (12 + i) % 1000)
def VH (g h : Nat → Nat) : Prop := h 111 ≤ g 24 ∧ (∀ s, s < 3 → ∀ p, p < 4 → h (4 * s + p) ≤ g (6 + 6 * s + p)) ∧ (∀ s, s < 3 → ∀ p, p < 4 → (g 23 ≤ s ∨ g 22 ≤ p) → h (4 * s + p) = 0) ∧ ∀ i, i < h 111 → h (12 + i) < 3000
def stx (h : Nat → Nat) (c : Nat) : Nat → Nat → Int32
  | 0, _ => -4
  | m + 1, i => if h (12 + i) = c then nI i else stx h c m (i + 1)
def sA (h : Nat → Nat) (c : Nat) : Int32 := stx h c (h 111) 0
theorem stx_or (h : Nat → Nat) (c : Nat) : ∀ m i, stx h c m i = -4 ∨ ∃ j, i ≤ j ∧ j < i + m ∧ stx h c m i = nI j := by
  intro m
  induction m with
  | zero => intro i; exact Or.inl rfl
  | succ m ih =>
    intro i
    by_cases e : h (12 + i) = c
    · exact Or.inr ⟨i, by omega, by omega, by simp [stx, e]⟩
    · rcases ih (i + 1) with q | ⟨j, h1, h2, h3⟩
      · exact Or.inl (by simp [stx, e, q])
      · exact Or.inr ⟨j, by omega, by omega, by simp [stx, e, h3]⟩
theorem nI_m4 {j : Nat} (h : j < 2 ^ 31) : ¬ nI j = -4 := by
  intro q
  have := congrArg Int32.toInt q
  rw [nI_toInt h] at this
  have e : (-4 : Int32).toInt = -4 := rfl
  omega
theorem m_star2 {τ : Me} {h : Nat → Nat} (S : SS τ h) (h0 : h 111 ≤ 99) (h1 : ∀ i, i < h 111 → h (12 + i) < 3000) {s v : Nat} (hs : s < 3) (hv : v < 1000) : ∀ n i, i ≤ h 111 → h 111 - i < n → f_X8_starAt_2 n τ (nI s) (nI v) (nI i) = some (stx h (1000 * s + v) (h 111 - i) i) := by
  intro n
  induction n with
  | zero => intro i h1 h2; omega
  | succ n ih =>
    intro i h2 h3
    rw [f_X8_starAt_2, S 111 (by decide), if_le (by omega) (by omega)]
    by_cases e : i = h 111
    · rw [if_pos (by omega), show h 111 - i = 0 by omega]; rfl
    · have hb := h1 i (by omega)
      rw [if_neg (by omega), a12, gd_i (by omega) (by decide), nI_clamp (by omega), S _ (by omega), u1000, nI_add, if_eq (by omega) (by omega), p1, ih (i + 1) (by omega) (by omega), show h 111 - i = (h 111 - (i + 1)) + 1 by omega]
      by_cases e2 : h (12 + i) = 1000 * s + v <;> simp [stx, e2]
theorem m_star {τ : Me} {h : Nat → Nat} (S : SS τ h) (h0 : h 111 ≤ 99) (h1 : ∀ i, i < h 111 → h (12 + i) < 3000) {s v : Nat} (hs : s < 3) (hv : v < 1000) : f_X8_starAt τ (nI s) (nI v) = some (sA h (1000 * s + v)) := m_star2 S h0 h1 hs hv 1000 0 (by omega) (by omega)
theorem c_star2 {σ : Me} {g h : Nat → Nat} (S : SR σ g h) (h0 : h 111 ≤ 99) (h1 : ∀ i, i < h 111 → h (12 + i) < 3000) {s v : Nat} (hs : s < 3) (hv : v < 1000) : ∀ n i, i ≤ h 111 → h 111 - i < n → f_X5_standingFor_2 n σ (nI s) (nI v) (nI i) = some (stx h (1000 * s + v) (h 111 - i) i) := by
  intro n
  induction n with
  | zero => intro i h1 h2; omega
  | succ n ih =>
    intro i h2 h3
    rw [f_X5_standingFor_2, S.2.1, if_le (by omega) (by omega)]
    by_cases e : i = h 111
    · rw [if_pos (by omega), show h 111 - i = 0 by omega]; rfl
    · have hb := h1 i (by omega)
      have hc := S.2.2 i (by omega)
      rw [if_neg (by omega), gd_i (by omega) (by decide), gd_i (by omega) (by decide), nI_clamp (by omega), hc.1, hc.2, if_eq (by omega) (by omega), if_eq (by omega) (by omega), p1, ih (i + 1) (by omega) (by omega), show h 111 - i = (h 111 - (i + 1)) + 1 by omega]
      by_cases e2 : h (12 + i) = 1000 * s + v
      · have e3 : h (12 + i) / 1000 = s := by omega
        have e4 : h (12 + i) % 1000 = v := by omega
        rw [if_pos e3, if_pos e4]; simp [stx, e2]
      · by_cases e3 : h (12 + i) / 1000 = s
        · have e4 : ¬ h (12 + i) % 1000 = v := by omega
          rw [if_pos e3, if_neg e4]; simp [stx, e2]
        · rw [if_neg e3]; simp [stx, e2]
theorem c_star {σ : Me} {g h : Nat → Nat} (S : SR σ g h) (h0 : h 111 ≤ 99) (h1 : ∀ i, i < h 111 → h (12 + i) < 3000) {s v : Nat} (hs : s < 3) (hv : v < 1000) : f_X5_standingFor σ (nI s) (nI v) = some (sA h (1000 * s + v)) := c_star2 S h0 h1 hs hv 1000 0 (by omega) (by omega)
theorem c_stands {σ : Me} {g h : Nat → Nat} (S : SR σ g h) (h0 : h 111 ≤ 99) (h1 : ∀ i, i < h 111 → h (12 + i) < 3000) {s v : Nat} (hs : s < 3) (hv : v < 1000) : f_X5_standsFor σ (nI s) (nI v) = some (decide (¬ sA h (1000 * s + v) = -4)) := by
  unfold f_X5_standsFor
  rw [c_star S h0 h1 hs hv, bs, ifb]
/-- what the questions rest on -/
def RQ (σ τ : Me) (P : Nat) (g h : Nat → Nat) : Prop := kd P = 9 ∧ σ 0 3 = nI P ∧ VG g ∧ VH g h ∧ TD τ g ∧ SS τ h ∧ PL σ P g h ∧ SR σ g h
theorem hb40 {g h : Nat → Nat} (V : VB g) (H : VH g h) {s p : Nat} (hs : s < 3) (hp : p < 4) : h (4 * s + p) ≤ 40 := Nat.le_trans (H.2.1 s hs p hp) ((V.2.2.2.2 s hs).2.2 p hp)
theorem h99 {g h : Nat → Nat} (V : VB g) (H : VH g h) : h 111 ≤ 99 := Nat.le_trans H.1 V.2.2.1
section LQ
variable {σ τ : Me} {P : Nat} {g h : Nat → Nat} (Q : RQ σ τ P g h) {s : Nat} (hs : s < g 23)
theorem isPr_rel (Q : RQ σ τ P g h) (hs : s < g 23) {v : Nat} (hv : v < Fs g s (g 22)) : ∃ b, f_X3_isPrinted σ (P + 2 + 1 + 6 * s) (nI v) = some b ∧ f_X8_isPrinted τ (nI s) (nI v) = some b := by
  obtain ⟨hk, -, V, H, T, S, L, R⟩ := Q
  have h3 := V.1.2.1
  have h4 := V.1.1
  obtain ⟨p, hp, h1, h2⟩ := Fs_ex g s hv
  have hb := hb40 V.1 H (s := s) (p := p) (by omega) (by omega)
  exact ⟨_, c_isPr (L.2.2.2.2 s hs) V.1 (kd_S hk (by omega)) (by omega) hp h1 h2 (by omega), m_isPr T S V.1 (by omega) (by omega) h1 h2 (by omega)⟩
theorem whole_loop (Q : RQ σ τ P g h) (hs : s < g 23) {k : Nat} (hk : k < 1000) : ∀ n v, v ≤ min (10 * k + 10) (Fs g s (g 22)) → min (10 * k + 10) (Fs g s (g 22)) - v < n → ∃ b, f_X3_isWhole_20 n σ (P + 2 + 1 + 6 * s) (nI (min (10 * k + 10) (Fs g s (g 22)))) (nI v) = some b ∧ f_X8_isWhole_5 n τ (nI s) (nI k) (nI v) = some b := by
  have hM := (Q.2.2.1.2 s hs).2
  have h3 := Q.2.2.1.1.2.1
  intro n
  induction n with
  | zero => intro v h1 h2; omega
  | succ n ih =>
    intro v h1 h2
    rw [f_X3_isWhole_20, f_X8_isWhole_5, if_le (by omega) (by omega), u10, p10, if_le (by omega) (by omega), m_whole Q.2.2.2.2.1 (by omega) Q.2.2.1.1.1, bs, if_le (by omega) (by omega)]
    by_cases e : v = min (10 * k + 10) (Fs g s (g 22))
    · rw [if_pos (by omega)]
      by_cases e2 : 10 * k + 10 ≤ v
      · exact ⟨true, rfl, by rw [if_pos e2]⟩
      · exact ⟨true, rfl, by rw [if_neg e2, if_pos (by omega)]⟩
    · rw [if_neg (by omega), if_neg (by omega), if_neg (by omega)]
      obtain ⟨b, e1, e2⟩ := isPr_rel Q hs (v := v) (by omega)
      rw [e1, e2, bs, bs, p1]
      cases b with
      | false => exact ⟨false, by rw [if_pos bIf], by rw [if_pos bIf]⟩
      | true =>
        rw [if_neg bIt, if_neg bIt]
        exact ih (v + 1) (by omega) (by omega)
theorem whole_rel (Q : RQ σ τ P g h) (hs : s < g 23) {k : Nat} (hk : 10 * k < Fs g s (g 22)) : ∃ b, f_X3_isWhole σ (P + 2 + 1 + 6 * s) (nI k) = some b ∧ f_X8_isWhole τ (nI s) (nI k) = some b := by
  have hM := (Q.2.2.1.2 s hs).2
  unfold f_X3_isWhole f_X8_isWhole
  rw [u10, p10, (Q.2.2.2.2.2.2.1.2.2.2.2 s hs).2.2.2.1, f_min (by omega) (by omega), bs]
  exact whole_loop Q hs (by omega) 1000 (10 * k) (by omega) (by omega)
theorem c_packs (Q : RQ σ τ P g h) (hs : s < g 23) : f_X3_packs σ (P + 2 + 1 + 6 * s) = some (nI ((Fs g s (g 22) + 9) / 10)) := by
  have hM := (Q.2.2.1.2 s hs).2
  unfold f_X3_packs
  rw [(Q.2.2.2.2.2.2.1.2.2.2.2 s hs).2.2.2.1, p10, show nI (Fs g s (g 22) + 10) - 1 = nI (Fs g s (g 22) + 9) from pk_sub (a := Fs g s (g 22) + 10) (b := 1) (by omega), d10 (by omega)]
theorem m_packs (Q : RQ σ τ P g h) (hs : s < g 23) : f_X8_packs τ (nI s) = some (nI ((Fs g s (g 22) + 9) / 10)) := by
  have hM := (Q.2.2.1.2 s hs).2
  have h3 := Q.2.2.1.1.2.1
  unfold f_X8_packs
  rw [m_whole Q.2.2.2.2.1 (by omega) Q.2.2.1.1.1, bs, show nI (Fs g s (g 22)) + 9 = nI (Fs g s (g 22) + 9) from nI_add _ 9, d10 (by omega)]
theorem wholes_loop (Q : RQ σ τ P g h) (hs : s < g 23) : ∀ n i c, i ≤ (Fs g s (g 22) + 9) / 10 → (Fs g s (g 22) + 9) / 10 - i < n → ∃ c', c' ≤ c + ((Fs g s (g 22) + 9) / 10 - i) ∧ f_X3_wholePacks_4 n σ (P + 2 + 1 + 6 * s) (nI c) (nI i) = some (nI c') ∧ f_X8_wholes_4 n τ (nI s) (nI c) (nI i) = some (nI c') := by
  have hM := (Q.2.2.1.2 s hs).2
  intro n
  induction n with
  | zero => intro i c h1 h2; omega
  | succ n ih =>
    intro i c h1 h2
    rw [f_X3_wholePacks_4, f_X8_wholes_4, c_packs Q hs, m_packs Q hs, bs, bs, if_le (by omega) (by omega), if_le (by omega) (by omega)]
    by_cases e : i = (Fs g s (g 22) + 9) / 10
    · rw [if_pos (by omega), if_pos (by omega)]
      exact ⟨c, by omega, rfl, rfl⟩
    · rw [if_neg (by omega), if_neg (by omega)]
      obtain ⟨b, e1, e2⟩ := whole_rel Q hs (k := i) (by omega)
      rw [e1, e2, bs, bs, p1, p1, p0]
      cases b with
      | false =>
        rw [if_pos bIf, if_pos bIf]
        obtain ⟨c', h3, h4⟩ := ih (i + 1) c (by omega) (by omega)
        exact ⟨c', by omega, h4⟩
      | true =>
        rw [if_neg bIt, if_neg bIt]
        obtain ⟨c', h3, h4⟩ := ih (i + 1) (c + 1) (by omega) (by omega)
        exact ⟨c', by omega, h4⟩
theorem wholes_rel (Q : RQ σ τ P g h) (hs : s < g 23) : ∃ c, c ≤ 100 ∧ f_X3_wholePacks σ (P + 2 + 1 + 6 * s) = some (nI c) ∧ f_X8_wholes τ (nI s) = some (nI c) := by
  have hM := (Q.2.2.1.2 s hs).2
  obtain ⟨c, h1, h2⟩ := wholes_loop Q hs 1000 0 0 (by omega) (by omega)
  exact ⟨c, by omega, h2⟩
end LQ
def Pn (g h : Nat → Nat) (s : Nat) : Nat → Nat
  | 0 => 0
  | p + 1 => Pn g h s p + h (4 * s + p) * g p
def Rn (h : Nat → Nat) (s : Nat) : Nat → Nat
  | 0 => 0
  | p + 1 => Rn h s p + h (4 * s + p)
def Ln (g h : Nat → Nat) (s : Nat) : Nat → Nat
  | 0 => 0
  | p + 1 => Ln g h s p + (g (6 + 6 * s + p) - h (4 * s + p))
section LR
variable {σ τ : Me} {P : Nat} {g h : Nat → Nat} {s : Nat}
theorem c_notes4 (E : SE σ (P + 2 + 1 + 6 * s) s g h) (h4 : g 22 ≤ 4) : ∀ n i, i ≤ g 22 → g 22 - i < n → f_X3_notesPrinted_4 n σ (P + 2 + 1 + 6 * s) (nI (Pn g h s i)) (nI i) = some (nI (Pn g h s (g 22))) := by
  intro n
  induction n with
  | zero => intro i h1 h2; omega
  | succ n ih =>
    intro i h1 h2
    rw [f_X3_notesPrinted_4, E.1, if_le (by omega) (by omega)]
    by_cases e : i = g 22
    · rw [if_pos (by omega), e]
    · have H := E.2.2.2.2 i (by omega)
      rw [if_neg (by omega), gd_i (by omega) (by decide), gd_i (by omega) (by decide), nI_clamp (by omega), H.1, H.2.2.2, pk_mul, nI_add, p1]
      exact ih (i + 1) (by omega) (by omega)
theorem c_notes (E : SE σ (P + 2 + 1 + 6 * s) s g h) (h4 : g 22 ≤ 4) : f_X3_notesPrinted σ (P + 2 + 1 + 6 * s) = some (nI (Pn g h s (g 22))) := c_notes4 E h4 1000 0 (by omega) (by omega)
theorem c_run4 (E : SE σ (P + 2 + 1 + 6 * s) s g h) (h4 : g 22 ≤ 4) : ∀ n i, i ≤ g 22 → g 22 - i < n → f_X3_sheetsRun_4 n σ (P + 2 + 1 + 6 * s) (nI (Rn h s i)) (nI i) = some (nI (Rn h s (g 22))) := by
  intro n
  induction n with
  | zero => intro i h1 h2; omega
  | succ n ih =>
    intro i h1 h2
    rw [f_X3_sheetsRun_4, E.1, if_le (by omega) (by omega)]
    by_cases e : i = g 22
    · rw [if_pos (by omega), e]
    · have H := E.2.2.2.2 i (by omega)
      rw [if_neg (by omega), gd_i (by omega) (by decide), nI_clamp (by omega), H.2.2.2, nI_add, p1]
      exact ih (i + 1) (by omega) (by omega)
theorem c_run (E : SE σ (P + 2 + 1 + 6 * s) s g h) (h4 : g 22 ≤ 4) : f_X3_sheetsRun σ (P + 2 + 1 + 6 * s) = some (nI (Rn h s (g 22))) := c_run4 E h4 1000 0 (by omega) (by omega)
theorem c_left4 (E : SE σ (P + 2 + 1 + 6 * s) s g h) (h4 : g 22 ≤ 4) (hle : ∀ p, p < g 22 → h (4 * s + p) ≤ g (6 + 6 * s + p)) : ∀ n i, i ≤ g 22 → g 22 - i < n → f_X3_sheetsLeft_4 n σ (P + 2 + 1 + 6 * s) (nI (Ln g h s i)) (nI i) = some (nI (Ln g h s (g 22))) := by
  intro n
  induction n with
  | zero => intro i h1 h2; omega
  | succ n ih =>
    intro i h1 h2
    rw [f_X3_sheetsLeft_4, E.1, if_le (by omega) (by omega)]
    by_cases e : i = g 22
    · rw [if_pos (by omega), e]
    · have H := E.2.2.2.2 i (by omega)
      rw [if_neg (by omega), gd_i (by omega) (by decide), nI_clamp (by omega)]
      unfold f_X4_sheetsLeft
      rw [H.2.1, H.2.2.2, pk_sub (hle i (by omega)), bs, nI_add, p1]
      exact ih (i + 1) (by omega) (by omega)
theorem c_left (E : SE σ (P + 2 + 1 + 6 * s) s g h) (h4 : g 22 ≤ 4) (hle : ∀ p, p < g 22 → h (4 * s + p) ≤ g (6 + 6 * s + p)) : f_X3_sheetsLeft σ (P + 2 + 1 + 6 * s) = some (nI (Ln g h s (g 22))) := c_left4 E h4 hle 1000 0 (by omega) (by omega)
theorem m_notes4 (T : TD τ g) (S : SS τ h) (hs : s < 3) (h4 : g 22 ≤ 4) : ∀ n i, i ≤ g 22 → g 22 - i < n → f_X8_printed_4 n τ (nI s) (nI (Pn g h s i)) (nI i) = some (nI (Pn g h s (g 22))) := by
  intro n
  induction n with
  | zero => intro i h1 h2; omega
  | succ n ih =>
    intro i h1 h2
    rw [f_X8_printed_4, T 22 (by decide), if_le (by omega) (by omega)]
    by_cases e : i = g 22
    · rw [if_pos (by omega), e]
    · rw [if_neg (by omega), u4, nI_add, gd_i (by omega) (by decide), gd_i (by omega) (by decide), nI_clamp (by omega), nI_clamp (by omega), S _ (by omega), T _ (by omega), pk_mul, nI_add, p1]
      exact ih (i + 1) (by omega) (by omega)
theorem m_notes (T : TD τ g) (S : SS τ h) (hs : s < 3) (h4 : g 22 ≤ 4) : f_X8_printed τ (nI s) = some (nI (Pn g h s (g 22))) := m_notes4 T S hs h4 1000 0 (by omega) (by omega)
theorem m_left4 (T : TD τ g) (S : SS τ h) (hs : s < 3) (h4 : g 22 ≤ 4) (hle : ∀ p, p < g 22 → h (4 * s + p) ≤ g (6 + 6 * s + p)) : ∀ n i, i ≤ g 22 → g 22 - i < n → f_X8_leftOf_4 n τ (nI s) (nI (Ln g h s i)) (nI i) = some (nI (Ln g h s (g 22))) := by
  intro n
  induction n with
  | zero => intro i h1 h2; omega
  | succ n ih =>
    intro i h1 h2
    rw [f_X8_leftOf_4, T 22 (by decide), if_le (by omega) (by omega)]
    by_cases e : i = g 22
    · rw [if_pos (by omega), e]
    · rw [if_neg (by omega), m_sheets T hs (by omega), bs, u4, nI_add, gd_i (by omega) (by decide), nI_clamp (by omega), S _ (by omega), pk_sub (hle i (by omega)), nI_add, p1]
      exact ih (i + 1) (by omega) (by omega)
theorem m_left (T : TD τ g) (S : SS τ h) (hs : s < 3) (h4 : g 22 ≤ 4) (hle : ∀ p, p < g 22 → h (4 * s + p) ≤ g (6 + 6 * s + p)) : f_X8_leftOf τ (nI s) = some (nI (Ln g h s (g 22))) := m_left4 T S hs h4 hle 1000 0 (by omega) (by omega)
theorem c_sp4 (S : SR σ g h) (h0 : h 111 ≤ 99) (h1 : ∀ i, i < h 111 → h (12 + i) < 3000) (hs : s < 3) : ∀ n i, i ≤ h 111 → h 111 - i < n → f_X5_standingForSeries_4 n σ (nI s) (nI (cnt (fun i => decide (h (12 + i) / 1000 = s)) i)) (nI i) = some (nI (cnt (fun i => decide (h (12 + i) / 1000 = s)) (h 111))) := by
  intro n
  induction n with
  | zero => intro i h1 h2; omega
  | succ n ih =>
    intro i h2 h3
    rw [f_X5_standingForSeries_4, S.2.1, if_le (by omega) (by omega)]
    by_cases e : i = h 111
    · rw [if_pos (by omega), e]
    · have hb := h1 i (by omega)
      rw [if_neg (by omega), gd_i (by omega) (by decide), nI_clamp (by omega), (S.2.2 i (by omega)).1, if_eq (by omega) (by omega), p1, p1]
      have fin := ih (i + 1) (by omega) (by omega)
      rw [show cnt (fun i => decide (h (12 + i) / 1000 = s)) (i + 1) = cnt (fun i => decide (h (12 + i) / 1000 = s)) i + (if (decide (h (12 + i) / 1000 = s)) = true then 1 else 0) from rfl] at fin
      by_cases e2 : h (12 + i) / 1000 = s
      · rw [if_pos e2]; rw [decide_eq_true e2] at fin; exact fin
      · rw [if_neg e2]; rw [decide_eq_false e2] at fin; exact fin
theorem c_sp (S : SR σ g h) (h0 : h 111 ≤ 99) (h1 : ∀ i, i < h 111 → h (12 + i) < 3000) (hs : s < 3) : f_X5_standingForSeries σ (nI s) = some (nI (cnt (fun i => decide (h (12 + i) / 1000 = s)) (h 111))) := c_sp4 S h0 h1 hs 1000 0 (by omega) (by omega)
theorem m_sp4 (S : SS τ h) (h0 : h 111 ≤ 99) (h1 : ∀ i, i < h 111 → h (12 + i) < 3000) (hs : s < 3) : ∀ n i, i ≤ h 111 → h 111 - i < n → f_X8_spoiled_4 n τ (nI s) (nI (cnt (fun i => decide (h (12 + i) / 1000 = s)) i)) (nI i) = some (nI (cnt (fun i => decide (h (12 + i) / 1000 = s)) (h 111))) := by
  intro n
  induction n with
  | zero => intro i h1 h2; omega
  | succ n ih =>
    intro i h2 h3
    rw [f_X8_spoiled_4, S 111 (by decide), if_le (by omega) (by omega)]
    by_cases e : i = h 111
    · rw [if_pos (by omega), e]
    · have hb := h1 i (by omega)
      rw [if_neg (by omega), a12, gd_i (by omega) (by decide), nI_clamp (by omega), S _ (by omega), d1000 (by omega), if_eq (by omega) (by omega), p1, p1, p0]
      have fin := ih (i + 1) (by omega) (by omega)
      rw [show cnt (fun i => decide (h (12 + i) / 1000 = s)) (i + 1) = cnt (fun i => decide (h (12 + i) / 1000 = s)) i + (if (decide (h (12 + i) / 1000 = s)) = true then 1 else 0) from rfl] at fin
      by_cases e2 : h (12 + i) / 1000 = s
      · rw [if_pos e2]; rw [decide_eq_true e2] at fin; exact fin
      · rw [if_neg e2]; rw [decide_eq_false e2] at fin; exact fin
theorem m_sp (S : SS τ h) (h0 : h 111 ≤ 99) (h1 : ∀ i, i < h 111 → h (12 + i) < 3000) (hs : s < 3) : f_X8_spoiled τ (nI s) = some (nI (cnt (fun i => decide (h (12 + i) / 1000 = s)) (h 111))) := m_sp4 S h0 h1 hs 1000 0 (by omega) (by omega)
end LR
