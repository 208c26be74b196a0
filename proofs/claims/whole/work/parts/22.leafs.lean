/-! what the small methods of the reference and of the class answer, in plain numbers -/
def TD (τ : Me) (g : Nat → Nat) : Prop := ∀ j, j < 25 → τ 2 j = nI (g j)
def SS (τ : Me) (h : Nat → Nat) : Prop := ∀ j, j < 112 → τ 4 j = nI (h j)
def VB (g : Nat → Nat) : Prop := g 22 ≤ 4 ∧ g 23 ≤ 3 ∧ g 24 ≤ 99 ∧ (∀ p, p < 4 → g p ≤ 8) ∧ (∀ s, s < 3 → g (4 + 6 * s) ≤ 26 ∧ g (5 + 6 * s) ≤ 2 ∧ ∀ p, p < 4 → g (6 + 6 * s + p) ≤ 40)
def VG (g : Nat → Nat) : Prop := VB g ∧ ∀ s, s < g 23 → 1 ≤ Fs g s (g 22) ∧ Fs g s (g 22) ≤ 999
theorem Fs_le {g : Nat → Nat} (V : VB g) {s : Nat} (hs : s < 3) : ∀ p, p ≤ 4 → Fs g s p ≤ 320 * p := by
  intro p
  induction p with
  | zero => intro _; exact Nat.le_refl _
  | succ p ih =>
    intro h
    have h1 := ih (by omega)
    have h2 := V.2.2.2.1 p (by omega)
    have h3 := (V.2.2.2.2 s hs).2.2 p (by omega)
    have h4 : g p * g (6 + 6 * s + p) ≤ 8 * 40 := Nat.mul_le_mul h2 h3
    show Fs g s p + g p * g (6 + 6 * s + p) ≤ _
    omega
theorem fi0 (x z : Int32) : f_X8_in x.toInt64 0 z.toInt64 = some (rng x 0 z) := fi x 0 z (by decide) rfl
theorem m_isS {τ : Me} {g : Nat → Nat} (T : TD τ g) (x : Int32) : f_X8_isSeries τ x = some (rng x 0 (nI (g 23) - 1)) := by
  unfold f_X8_isSeries
  rw [T 23 (by decide), fi0]; rfl
theorem m_isP {τ : Me} {g : Nat → Nat} (T : TD τ g) (x : Int32) : f_X8_isPress τ x = some (rng x 0 (nI (g 22) - 1)) := by
  unfold f_X8_isPress
  rw [T 22 (by decide), fi0]; rfl
theorem m_sheets {τ : Me} {g : Nat → Nat} (T : TD τ g) {s p : Nat} (hs : s < 3) (hp : p < 4) : f_X8_sheets τ (nI s) (nI p) = some (nI (g (6 + 6 * s + p))) := by
  unfold f_X8_sheets
  rw [u6, a4, p2, nI_add, gd_i (by omega) (by decide), nI_clamp (by omega), T _ (by omega), show 4 + 6 * s + 2 + p = 6 + 6 * s + p by omega]
theorem m_first5 {τ : Me} {g : Nat → Nat} (T : TD τ g) {s p : Nat} (hs : s < 3) (hp : p ≤ 4) : ∀ n i, i ≤ p → p - i < n → f_X8_first_5 n τ (nI s) (nI p) (nI (Fs g s i)) (nI i) = some (nI (Fs g s p)) := by
  intro n
  induction n with
  | zero => intro i h1 h2; omega
  | succ n ih =>
    intro i h1 h2
    rw [f_X8_first_5, if_le (by omega) (by omega)]
    by_cases h : i = p
    · subst h; rw [if_pos (Nat.le_refl _)]
    · rw [if_neg (by omega), gd_i (by omega) (by decide), m_sheets T hs (by omega), bs, nI_clamp (by omega), T _ (by omega), pk_mul, nI_add, p1]
      exact ih (i + 1) (by omega) (by omega)
theorem m_first {τ : Me} {g : Nat → Nat} (T : TD τ g) {s p : Nat} (hs : s < 3) (hp : p ≤ 4) : f_X8_first τ (nI s) (nI p) = some (nI (Fs g s p)) := m_first5 T hs hp 1000 0 (by omega) (by omega)
theorem m_whole4 {τ : Me} {g : Nat → Nat} (T : TD τ g) {s : Nat} (hs : s < 3) (hg : g 22 ≤ 4) : ∀ n i, i ≤ g 22 → g 22 - i < n → f_X8_whole_2_4 n τ (nI s) (nI (Fs g s i)) (nI i) = some (nI (Fs g s (g 22))) := by
  intro n
  induction n with
  | zero => intro i h1 h2; omega
  | succ n ih =>
    intro i h1 h2
    rw [f_X8_whole_2_4, T 22 (by decide), if_le (by omega) (by omega)]
    by_cases h : i = g 22
    · subst h; rw [if_pos (Nat.le_refl _)]
    · rw [if_neg (by omega), gd_i (by omega) (by decide), u6, a4, p2, nI_add, gd_i (by omega) (by decide), nI_clamp (by omega), nI_clamp (by omega), T _ (by omega), T _ (by omega), pk_mul, nI_add, p1, show 4 + 6 * s + 2 + i = 6 + 6 * s + i by omega]
      exact ih (i + 1) (by omega) (by omega)
theorem m_whole {τ : Me} {g : Nat → Nat} (T : TD τ g) {s : Nat} (hs : s < 3) (hg : g 22 ≤ 4) : f_X8_whole_2 τ (nI s) = some (nI (Fs g s (g 22))) := m_whole4 T hs hg 1000 0 (by omega) (by omega)
theorem m_whole34 {τ : Me} {g : Nat → Nat} (T : ∀ j, j < 25 → τ 3 j = nI (g j)) {s : Nat} (hs : s < 3) (hg : g 22 ≤ 4) : ∀ n i, i ≤ g 22 → g 22 - i < n → f_X8_whole_3_4 n τ (nI s) (nI (Fs g s i)) (nI i) = some (nI (Fs g s (g 22))) := by
  intro n
  induction n with
  | zero => intro i h1 h2; omega
  | succ n ih =>
    intro i h1 h2
    rw [f_X8_whole_3_4, T 22 (by decide), if_le (by omega) (by omega)]
    by_cases h : i = g 22
    · subst h; rw [if_pos (Nat.le_refl _)]
    · rw [if_neg (by omega), gd_i (by omega) (by decide), u6, a4, p2, nI_add, gd_i (by omega) (by decide), nI_clamp (by omega), nI_clamp (by omega), T _ (by omega), T _ (by omega), pk_mul, nI_add, p1, show 4 + 6 * s + 2 + i = 6 + 6 * s + i by omega]
      exact ih (i + 1) (by omega) (by omega)
theorem m_whole3 {τ : Me} {g : Nat → Nat} (T : ∀ j, j < 25 → τ 3 j = nI (g j)) {s : Nat} (hs : s < 3) (hg : g 22 ≤ 4) : f_X8_whole_3 τ (nI s) = some (nI (Fs g s (g 22))) := m_whole34 T hs hg 1000 0 (by omega) (by omega)
theorem m_press2 {τ : Me} {g : Nat → Nat} (T : TD τ g) (V : VB g) {s p v : Nat} (hs : s < 3) (hp : p < 4) (h1 : Fs g s p ≤ v) (h2 : v < Fs g s (p + 1)) : ∀ n i, i ≤ p → p - i < n → f_X8_pressOf_2 n τ (nI s) (nI v) (nI i) = some (nI p) := by
  have hb := Fs_le V hs (p + 1) (by omega)
  intro n
  induction n with
  | zero => intro i h1 h2; omega
  | succ n ih =>
    intro i h3 h4
    have hb2 := Fs_le V hs (i + 1) (by omega)
    rw [f_X8_pressOf_2, p1, m_first T hs (by omega), bs, if_lt (by omega) (by omega)]
    by_cases h : i = p
    · subst h; rw [if_pos h2]
    · have := Fs_mono g s (p := i + 1) (q := p) (by omega)
      rw [if_neg (by omega)]
      exact ih (i + 1) (by omega) (by omega)
theorem m_press {τ : Me} {g : Nat → Nat} (T : TD τ g) (V : VB g) {s p v : Nat} (hs : s < 3) (hp : p < 4) (h1 : Fs g s p ≤ v) (h2 : v < Fs g s (p + 1)) : f_X8_pressOf τ (nI s) (nI v) = some (nI p) := m_press2 T V hs hp h1 h2 1000 0 (by omega) (by omega)
theorem sh_pos {g : Nat → Nat} {s p v : Nat} (h1 : Fs g s p ≤ v) (h2 : v < Fs g s (p + 1)) : 0 < g (6 + 6 * s + p) := by
  have h : v < Fs g s p + g p * g (6 + 6 * s + p) := h2
  rcases Nat.eq_zero_or_pos (g (6 + 6 * s + p)) with e | e
  · rw [e] at h; omega
  · exact e
theorem m_sheetOf {τ : Me} {g : Nat → Nat} (T : TD τ g) (V : VB g) {s p v : Nat} (hs : s < 3) (hp : p < 4) (h1 : Fs g s p ≤ v) (h2 : v < Fs g s (p + 1)) : f_X8_sheetOf τ (nI s) (nI v) = some (nI ((v - Fs g s p) % g (6 + 6 * s + p))) := by
  have hb := Fs_le V hs (p + 1) (by omega)
  have hc := sh_pos h1 h2
  have hd := (V.2.2.2.2 s hs).2.2 p hp
  unfold f_X8_sheetOf
  rw [m_press T V hs hp h1 h2, bs, m_first T hs (by omega), bs, m_sheets T hs hp, bs, gd_d (nI_ne0 hc (by omega)), pk_sub h1, pk_rem (by omega) hc (by omega)]
def prt (g h : Nat → Nat) (s p v : Nat) : Bool := decide ((v - Fs g s p) % g (6 + 6 * s + p) < h (4 * s + p))
theorem ifb {c : Prop} {i : Decidable c} : (if c then (some false) else (some true)) = some (decide (¬ c)) := by
  by_cases h : c <;> simp [h]
theorem m_isPr {τ : Me} {g h : Nat → Nat} (T : TD τ g) (S : SS τ h) (V : VB g) {s p v : Nat} (hs : s < 3) (hp : p < 4) (h1 : Fs g s p ≤ v) (h2 : v < Fs g s (p + 1)) (hh : h (4 * s + p) < 2 ^ 31) : f_X8_isPrinted τ (nI s) (nI v) = some (prt g h s p v) := by
  have hc := sh_pos h1 h2
  have hd := (V.2.2.2.2 s hs).2.2 p hp
  have hm : (v - Fs g s p) % g (6 + 6 * s + p) < g (6 + 6 * s + p) := Nat.mod_lt _ hc
  unfold f_X8_isPrinted prt
  rw [m_sheetOf T V hs hp h1 h2, bs, m_press T V hs hp h1 h2, bs, u4, nI_add, gd_i (by omega) (by decide), nI_clamp (by omega), S _ (by omega), if_le (by omega) (by omega), ifb]
  simp only [Nat.not_le]
/-- a share, a series, a plan of the class -/
def HS (σ : Me) (k s p : Nat) (g rn : Nat → Nat) : Prop := σ k 0 = nI (g p) ∧ σ k 1 = nI (g (6 + 6 * s + p)) ∧ σ k 2 = nI (Fs g s p) ∧ σ k 3 = nI (rn (4 * s + p))
def SE (σ : Me) (q s : Nat) (g rn : Nat → Nat) : Prop := σ q 1 = nI (g 22) ∧ σ q 2 = nI (g (4 + 6 * s)) ∧ σ q 3 = nI (g (5 + 6 * s)) ∧ σ q 4 = nI (Fs g s (g 22)) ∧ ∀ p, p < g 22 → HS σ (q + 1 + 1 + p) s p g rn
def PL (σ : Me) (P : Nat) (g rn : Nat → Nat) : Prop := σ P 2 = nI (g 22) ∧ σ P 3 = nI (g 23) ∧ σ P 4 = nI (g 24) ∧ (∀ p, p < g 22 → σ (P + 1) p = nI (g p)) ∧ ∀ s, s < g 23 → SE σ (P + 2 + 1 + 6 * s) s g rn
theorem kd_S {P s : Nat} (h : kd P = 9) (hs : s < 3) : kd (P + 2 + 1 + 6 * s) = 12 := kd_11_s (kd_9_2 h) hs
theorem kd_H {q p : Nat} (h : kd q = 12) (hp : p < 4) : kd (q + 1 + 1 + p) = 14 := kd_13_s (kd_12_1 h) hp
theorem c_serAt {σ : Me} {P s n : Nat} (hn : σ P 3 = nI n) (h3 : n ≤ 3) (hs : s < n) : f_X2_seriesAt σ P (nI s) = some (some (P + 2 + 1 + 6 * s)) := by
  unfold f_X2_seriesAt
  rw [hn, ft, bs, rng_t hs (by omega), if_neg bIt, gd_i (by omega) (by decide), nI_clamp (by omega)]
theorem c_serAtN {σ : Me} {P n : Nat} {x : Int32} (hn : σ P 3 = nI n) (h : rng x 0 (nI n - 1) = false) : f_X2_seriesAt σ P x = some none := by
  unfold f_X2_seriesAt
  rw [hn, ft, bs, h, if_pos bIf]
theorem c_shAt {σ : Me} {q p n : Nat} (hn : σ q 1 = nI n) (h3 : n ≤ 4) (hs : p < n) : f_X3_shareAt σ q (nI p) = some (some (q + 1 + 1 + p)) := by
  unfold f_X3_shareAt
  rw [hn, ft, bs, rng_t hs (by omega), if_neg bIt, gd_i (by omega) (by decide), nI_clamp (by omega)]
theorem c_shAtN {σ : Me} {q n : Nat} {x : Int32} (hn : σ q 1 = nI n) (h : rng x 0 (nI n - 1) = false) : f_X3_shareAt σ q x = some none := by
  unfold f_X3_shareAt
  rw [hn, ft, bs, h, if_pos bIf]
theorem c_shP {σ : Me} {P s p : Nat} {g rn : Nat → Nat} (L : PL σ P g rn) (V : VB g) (hk : kd P = 9) (hs : s < g 23) (hp : p < g 22) : f_X2_shareAt σ P (nI s) (nI p) = some (some (P + 2 + 1 + 6 * s + 1 + 1 + p)) := by
  unfold f_X2_shareAt
  have h3 := V.2.1
  have h4 := V.1
  rw [c_serAt L.2.1 V.2.1 hs, bs, oc_s, gd_d (kd_S hk (by omega)), c_shAt (L.2.2.2.2 s hs).1 V.1 hp, bs, oc_s, gd_d (kd_H (kd_S hk (by omega)) (by omega))]
theorem c_shPN1 {σ : Me} {P : Nat} {x y : Int32} {g rn : Nat → Nat} (L : PL σ P g rn) (h : rng x 0 (nI (g 23) - 1) = false) : f_X2_shareAt σ P x y = some none := by
  unfold f_X2_shareAt
  rw [c_serAtN L.2.1 h, bs, oc_n]
theorem c_shPN2 {σ : Me} {P s : Nat} {y : Int32} {g rn : Nat → Nat} (L : PL σ P g rn) (V : VB g) (hk : kd P = 9) (hs : s < g 23) (h : rng y 0 (nI (g 22) - 1) = false) : f_X2_shareAt σ P (nI s) y = some none := by
  unfold f_X2_shareAt
  have h3 := V.2.1
  rw [c_serAt L.2.1 V.2.1 hs, bs, oc_s, gd_d (kd_S hk (by omega)), c_shAtN (L.2.2.2.2 s hs).1 h, bs, oc_n]
theorem c_hasN {σ : Me} {k s p v : Nat} {g rn : Nat → Nat} (Hs : HS σ k s p g rn) (V : VB g) (hs : s < 3) (hp : p < 4) (hv : v < 2 ^ 31) : f_X4_hasNumber σ k (nI v) = some (decide (Fs g s p ≤ v ∧ v < Fs g s (p + 1))) := by
  unfold f_X4_hasNumber
  have hb := Fs_le V hs (p + 1) (by omega)
  have hb2 := Fs_le V hs p (by omega)
  rw [Hs.1, Hs.2.1, Hs.2.2.1, pk_mul, nI_add, if_lt (by omega) (by omega), if_le (by exact Nat.lt_of_le_of_lt hb (by omega)) (by omega)]
  show (if v < Fs g s p then _ else if Fs g s (p + 1) ≤ v then _ else _) = _
  by_cases h1 : v < Fs g s p
  · simp [h1, Nat.not_le.mpr h1]
  · by_cases h2 : Fs g s (p + 1) ≤ v
    · simp [h1, h2, Nat.not_lt.mpr h2]
    · simp [h1, h2, Nat.not_lt.mp h1, Nat.not_le.mp h2]
theorem c_hasNneg {σ : Me} {k s p : Nat} {x : Int32} {g rn : Nat → Nat} (Hs : HS σ k s p g rn) (V : VB g) (hs : s < 3) (hp : p < 4) (hx : x < 0) : f_X4_hasNumber σ k x = some false := by
  unfold f_X4_hasNumber
  have hb2 := Fs_le V hs p (by omega)
  rw [Hs.2.2.1, if_pos]
  rw [Int32.lt_iff_toInt_lt] at hx ⊢
  rw [nI_toInt (by omega)]
  have : (0 : Int32).toInt = 0 := rfl
  omega
theorem c_press2 {σ : Me} {q s p v : Nat} {g rn : Nat → Nat} (E : SE σ q s g rn) (V : VB g) (hs : s < 3) (hp : p < g 22) (h1 : Fs g s p ≤ v) (h2 : v < Fs g s (p + 1)) : ∀ n i, i ≤ p → p - i < n → f_X3_pressOf_2 n σ q (nI v) (nI i) = some (nI p) := by
  have h4 := V.1
  have hb := Fs_le V hs (p + 1) (by omega)
  intro n
  induction n with
  | zero => intro i h1 h2; omega
  | succ n ih =>
    intro i h3 h4
    rw [f_X3_pressOf_2, E.1, if_le (by omega) (by omega), if_neg (by omega), gd_i (by omega) (by decide), nI_clamp (by omega), c_hasN (E.2.2.2.2 i (by omega)) V hs (by omega) (by omega), bs]
    by_cases h : i = p
    · subst h; rw [decide_eq_true ⟨h1, h2⟩, if_neg bIt]
    · have := Fs_mono g s (p := i + 1) (q := p) (by omega)
      rw [decide_eq_false (fun c => by omega), if_pos bIf, p1]
      exact ih (i + 1) (by omega) (by omega)
theorem c_press {σ : Me} {q s p v : Nat} {g rn : Nat → Nat} (E : SE σ q s g rn) (V : VB g) (hs : s < 3) (hp : p < g 22) (h1 : Fs g s p ≤ v) (h2 : v < Fs g s (p + 1)) : f_X3_pressOf σ q (nI v) = some (nI p) := by
  have h4 := V.1
  exact c_press2 E V hs hp h1 h2 1000 0 (by omega) (by omega)
theorem c_pressN2 {σ : Me} {q s : Nat} {x : Int32} {g rn : Nat → Nat} (E : SE σ q s g rn) (V : VB g) (hs : s < 3) (hx : ∀ p, p < g 22 → f_X4_hasNumber σ (q + 1 + 1 + p) x = some false) : ∀ n i, i ≤ g 22 → g 22 - i < n → f_X3_pressOf_2 n σ q x (nI i) = some (-4) := by
  have h4 := V.1
  intro n
  induction n with
  | zero => intro i h1 h2; omega
  | succ n ih =>
    intro i h1 h2
    rw [f_X3_pressOf_2, E.1, if_le (by omega) (by omega)]
    by_cases h : i = g 22
    · rw [if_pos (by omega)]
    · rw [if_neg (by omega), gd_i (by omega) (by decide), nI_clamp (by omega), hx i (by omega), bs, if_pos bIf, p1]
      exact ih (i + 1) (by omega) (by omega)
theorem c_pressN {σ : Me} {q s : Nat} {x : Int32} {g rn : Nat → Nat} (E : SE σ q s g rn) (V : VG g) (hs : s < g 23) (h : rng x 0 (nI (Fs g s (g 22)) - 1) = false) : f_X3_pressOf σ q x = some (-4) := by
  have h3 := V.1.2.1
  have h4 := V.1.1
  refine c_pressN2 E V.1 (by omega) (fun p hp => ?_) 1000 0 (by omega) (by omega)
  rcases pk_ix x (n := Fs g s (g 22)) (by have := (V.2 s hs).2; omega) with h1 | h1 | ⟨j, h1, rfl⟩
  · exact c_hasNneg (E.2.2.2.2 p hp) V.1 (by omega) (by omega) h1
  · have hx0 : ¬ x < 0 := by
      intro q
      rw [Int32.lt_iff_toInt_lt] at q
      rw [Int32.le_iff_toInt_le, nI_toInt (by have := (V.2 s hs).2; omega)] at h1
      have : (0 : Int32).toInt = 0 := rfl
      omega
    obtain ⟨j, hj, rfl⟩ := nI_of hx0
    rw [c_hasN (E.2.2.2.2 p hp) V.1 (by omega) (by omega) hj]
    have h2 := (nI_leI (by have := (V.2 s hs).2; omega) hj).mp h1
    have := Fs_mono g s (p := p + 1) (q := g 22) (by omega)
    rw [decide_eq_false (fun c => by omega)]
  · rw [rng_t h1 (by have := (V.2 s hs).2; omega)] at h; cases h
theorem c_sheetOf {σ : Me} {k s p v : Nat} {g rn : Nat → Nat} (Hs : HS σ k s p g rn) (V : VB g) (hs : s < 3) (hp : p < 4) (h1 : Fs g s p ≤ v) (h2 : v < Fs g s (p + 1)) : f_X4_sheetOf σ k (nI v) = some (nI ((v - Fs g s p) % g (6 + 6 * s + p))) := by
  have hb := Fs_le V hs (p + 1) (by omega)
  have hc := sh_pos h1 h2
  have hd := (V.2.2.2.2 s hs).2.2 p hp
  unfold f_X4_sheetOf
  rw [Hs.2.1, Hs.2.2.1, if_pos (show (1 : Int32) ≤ _ from nI_le (a := 1) hc (by omega)), gd_d (nI_ne0 hc (by omega)), pk_sub h1, pk_rem (by omega) hc (by omega)]
theorem c_placeOf {σ : Me} {k s p v : Nat} {g rn : Nat → Nat} (Hs : HS σ k s p g rn) (V : VB g) (hs : s < 3) (hp : p < 4) (h1 : Fs g s p ≤ v) (h2 : v < Fs g s (p + 1)) : f_X4_placeOf σ k (nI v) = some (nI ((v - Fs g s p) / g (6 + 6 * s + p))) := by
  have hb := Fs_le V hs (p + 1) (by omega)
  have hc := sh_pos h1 h2
  have hd := (V.2.2.2.2 s hs).2.2 p hp
  unfold f_X4_placeOf
  rw [Hs.2.1, Hs.2.2.1, if_pos (show (1 : Int32) ≤ _ from nI_le (a := 1) hc (by omega)), gd_d (nI_ne0 hc (by omega)), pk_sub h1, pk_div (by omega) hc (by omega)]
theorem c_isPr {σ : Me} {q s p v : Nat} {g h : Nat → Nat} (E : SE σ q s g h) (V : VB g) (hk : kd q = 12) (hs : s < 3) (hp : p < g 22) (h1 : Fs g s p ≤ v) (h2 : v < Fs g s (p + 1)) (hh : h (4 * s + p) < 2 ^ 31) : f_X3_isPrinted σ q (nI v) = some (prt g h s p v) := by
  have h4 := V.1
  have hc := sh_pos h1 h2
  have hd := (V.2.2.2.2 s hs).2.2 p (by omega)
  have hm : (v - Fs g s p) % g (6 + 6 * s + p) < g (6 + 6 * s + p) := Nat.mod_lt _ hc
  unfold f_X3_isPrinted prt
  rw [c_press E V hs hp h1 h2, bs, c_shAt E.1 V.1 hp, bs, oc_s, gd_d (kd_H hk (by omega)), c_sheetOf (E.2.2.2.2 p hp) V hs (by omega) h1 h2, bs, (E.2.2.2.2 p hp).2.2.2, if_le (by omega) (by omega), ifb]
  simp only [Nat.not_le]
