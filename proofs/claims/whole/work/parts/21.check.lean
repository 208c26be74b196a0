/-! the checks: class and reference answer ck -/
def tT (x : Nat) : Nat := ([1, 5, 7, 6, 2, 8, 3, 0, 9, 4] : List Nat).getD x 0
def mkN (a b : Nat) : Nat := if decide (a < 5) = decide (b < 5) then (if a < 5 then (a + b) % 5 else (a + 5 - b) % 5) else 5 + (if a < 5 then (a + b) % 5 else (a + 5 - b) % 5)
def cT (l x y z : Nat) : Nat := if mkN (mkN (mkN (l % 10) (tT x)) (tT (tT y))) (tT (tT (tT z))) < 5 then (5 - mkN (mkN (mkN (l % 10) (tT x)) (tT (tT y))) (tT (tT (tT z)))) % 5 else mkN (mkN (mkN (l % 10) (tT x)) (tT (tT y))) (tT (tT (tT z)))
def ck (k l x y z : Nat) : Nat := if k = 0 then (9 - (l + x + y + z) % 9) % 9 else if k = 1 then (11 - (5 * l + 4 * x + 3 * y + 2 * z) % 11) % 11 else cT l x y z
theorem tT_lt : ∀ x, x < 10 → tT x < 10 := by decide
theorem mkN_lt : ∀ a, a < 10 → ∀ b, b < 10 → mkN a b < 10 := by decide
theorem turn1 : ∀ x, x < 10 → f_X1_turned (nI x) 1 = some (nI (tT x)) := by decide +kernel
theorem turn2 : ∀ x, x < 10 → f_X1_turned (nI x) 2 = some (nI (tT (tT x))) := by decide +kernel
theorem turn3 : ∀ x, x < 10 → f_X1_turned (nI x) 3 = some (nI (tT (tT (tT x)))) := by decide +kernel
theorem make1 : ∀ a, a < 10 → ∀ b, b < 10 → f_X1_make (nI a) (nI b) = some (nI (mkN a b)) := by decide +kernel
theorem fin1 : ∀ r, r < 10 → (if (5 : Int32) ≤ nI r then (some (nI r)) else (some ((5 - nI r) - (5 - nI r) / 5 * 5))) = some (nI (if r < 5 then (5 - r) % 5 else r)) := by decide +kernel
theorem turn8 : ∀ x, x < 10 → f_X8_turned (nI x) = some (nI (tT x)) := by decide +kernel
theorem make8 : ∀ a, a < 10 → ∀ b, b < 10 → f_X8_make (nI a) (nI b) = some (nI (mkN a b)) := by decide +kernel
theorem fin8 : ∀ r, r < 10 → f_X8_checkOf_124 1000 (nI r) 0 = some (nI (if r < 5 then (5 - r) % 5 else r)) := by decide +kernel
theorem flm9 : ∀ s, s < 64 → f_J9_floorMod_7cf53 (-(nI s)) 9 = some (nI ((9 - s % 9) % 9)) := by decide +kernel
theorem flm11 : ∀ s, s < 256 → f_J9_floorMod_7cf53 (-(nI s)) 11 = some (nI ((11 - s % 11) % 11)) := by decide +kernel
theorem d100 {v : Nat} (h : v < 2 ^ 31) : nI v / 100 = nI (v / 100) := pk_div h (by decide) (by decide)
theorem d10 {v : Nat} (h : v < 2 ^ 31) : nI v / 10 = nI (v / 10) := pk_div h (by decide) (by decide)
theorem m10 {v : Nat} (h : v < 2 ^ 31) : nI v - nI v / 10 * 10 = nI (v % 10) := pk_rem h (by decide) (by decide)
theorem m9 {v : Nat} (h : v < 2 ^ 31) : nI v - nI v / 9 * 9 = nI (v % 9) := pk_rem h (by decide) (by decide)
theorem m11 {v : Nat} (h : v < 2 ^ 31) : nI v - nI v / 11 * 11 = nI (v % 11) := pk_rem h (by decide) (by decide)
theorem m1000 {v : Nat} (h : v < 2 ^ 31) : nI v - nI v / 1000 * 1000 = nI (v % 1000) := pk_rem h (by decide) (by decide)
theorem d1000 {v : Nat} (h : v < 2 ^ 31) : nI v / 1000 = nI (v / 1000) := pk_div h (by decide) (by decide)
theorem s9 {a : Nat} (h : a ≤ 9) : (9 : Int32) - nI a = nI (9 - a) := pk_sub h
theorem s11 {a : Nat} (h : a ≤ 11) : (11 : Int32) - nI a = nI (11 - a) := pk_sub h
theorem u2 (a : Nat) : (2 : Int32) * nI a = nI (2 * a) := pk_mul 2 a
theorem u3 (a : Nat) : (3 : Int32) * nI a = nI (3 * a) := pk_mul 3 a
theorem u4 (a : Nat) : (4 : Int32) * nI a = nI (4 * a) := pk_mul 4 a
theorem u5 (a : Nat) : (5 : Int32) * nI a = nI (5 * a) := pk_mul 5 a
theorem u6 (a : Nat) : (6 : Int32) * nI a = nI (6 * a) := pk_mul 6 a
theorem u10 (a : Nat) : (10 : Int32) * nI a = nI (10 * a) := pk_mul 10 a
theorem u100 (a : Nat) : (100 : Int32) * nI a = nI (100 * a) := pk_mul 100 a
theorem u1000 (a : Nat) : (1000 : Int32) * nI a = nI (1000 * a) := pk_mul 1000 a
theorem a4 (a : Nat) : (4 : Int32) + nI a = nI (4 + a) := nI_add 4 a
theorem a12 (a : Nat) : (12 : Int32) + nI a = nI (12 + a) := nI_add 12 a
theorem p2 (a : Nat) : nI a + (2 : Int32) = nI (a + 2) := nI_add a 2
theorem p1 (a : Nat) : nI a + (1 : Int32) = nI (a + 1) := nI_add a 1
theorem p10 (a : Nat) : nI a + (10 : Int32) = nI (a + 10) := nI_add a 10
theorem p0 (a : Nat) : nI a + (0 : Int32) = nI a := nI_add a 0
theorem ofFig {k l x y z : Nat} (hk : k ≤ 2) (hl : l ≤ 26) (hx : x < 10) (hy : y < 10) (hz : z < 10) : f_X1_ofFigures (nI k) (nI l) (nI x) (nI y) (nI z) = some (nI (ck k l x y z)) := by
  unfold f_X1_ofFigures ck
  rcases (show k = 0 ∨ k = 1 ∨ k = 2 by omega) with rfl | rfl | rfl
  · rw [if_pos (show nI 0 = 0 from rfl), if_pos rfl, nI_add, nI_add, nI_add, flm9 _ (by omega)]; rfl
  · rw [if_neg (show ¬ nI 1 = 0 by decide), if_pos (show nI 1 = 1 from rfl), if_neg (by decide), if_pos rfl, u5, u4, u3, u2, nI_add, nI_add, nI_add, flm11 _ (by omega)]; rfl
  · rw [if_neg (show ¬ nI 2 = 0 by decide), if_neg (show ¬ nI 2 = 1 by decide), if_neg (by decide), if_neg (by decide)]
    unfold f_X1_byTurns
    have b0 : l % 10 < 10 := Nat.mod_lt _ (by decide)
    have t1 := tT_lt x hx
    have t2 := tT_lt _ (tT_lt y hy)
    have t3 := tT_lt _ (tT_lt _ (tT_lt z hz))
    have r1 := mkN_lt _ b0 _ t1
    have r2 := mkN_lt _ r1 _ t2
    have r3 := mkN_lt _ r2 _ t3
    rw [turn1 x hx, bs, m10 (by omega), make1 _ b0 _ t1, bs, turn2 y hy, bs, make1 _ r1 _ t2, bs, turn3 z hz, bs, make1 _ r2 _ t3, bs, fin1 _ r3]
    rfl
theorem ofNum {k l v : Nat} (hk : k ≤ 2) (hl : l ≤ 26) (hv : v < 1000) : f_X1_ofNumber (nI k) (nI l) (nI v) = some (nI (ck k l (v / 100) (v / 10 % 10) (v % 10))) := by
  unfold f_X1_ofNumber
  rw [d100 (by omega), m10 (v := v) (by omega), d10 (by omega), m10 (by omega), ofFig hk hl (by omega) (Nat.mod_lt _ (by decide)) (Nat.mod_lt _ (by decide))]
  rfl
theorem ofStar {v : Nat} (hv : v < 1000) : f_X1_ofStar (nI v) = some (nI (ck 1 0 (v / 100) (v / 10 % 10) (v % 10))) := by
  unfold f_X1_ofStar
  have h := ofNum (k := 1) (l := 0) (v := v) (by decide) (by decide) hv
  rw [show (1 : Int32) = nI 1 from rfl, show (0 : Int32) = nI 0 from rfl, h]
  rfl
theorem chOf {k l v : Nat} (hk : k ≤ 2) (hl : l ≤ 26) (hv : v < 1000) : f_X8_checkOf (nI l) (nI k) (nI v) = some (nI (ck k l (v / 100) (v / 10 % 10) (v % 10))) := by
  unfold f_X8_checkOf ck
  rw [d100 (by omega), m10 (v := v) (by omega), d10 (by omega), m10 (by omega)]
  have hx : v / 100 < 10 := by omega
  have hy : v / 10 % 10 < 10 := Nat.mod_lt _ (by decide)
  have hz : v % 10 < 10 := Nat.mod_lt _ (by decide)
  generalize v / 100 = x at hx ⊢
  generalize v / 10 % 10 = y at hy ⊢
  generalize v % 10 = z at hz ⊢
  rcases (show k = 0 ∨ k = 1 ∨ k = 2 by omega) with rfl | rfl | rfl
  · rw [if_pos (show nI 0 = 0 from rfl), if_pos rfl, nI_add, nI_add, nI_add, m9 (by omega), s9 (by omega), m9 (by omega)]
  · rw [if_neg (show ¬ nI 1 = 0 by decide), if_pos (show nI 1 = 1 from rfl), if_neg (by decide), if_pos rfl, u5, u4, u3, u2, nI_add, nI_add, nI_add, m11 (by omega), s11 (by omega), m11 (by omega)]
  · rw [if_neg (show ¬ nI 2 = 0 by decide), if_neg (show ¬ nI 2 = 1 by decide), if_neg (by decide), if_neg (by decide)]
    have b0 : l % 10 < 10 := Nat.mod_lt _ (by decide)
    have t1 := tT_lt x hx
    have t2 := tT_lt _ (tT_lt y hy)
    have t3 := tT_lt _ (tT_lt _ (tT_lt z hz))
    have r1 := mkN_lt _ b0 _ t1
    have r2 := mkN_lt _ r1 _ t2
    have r3 := mkN_lt _ r2 _ t3
    rw [turn8 x hx, bs, m10 (by omega), make8 _ b0 _ t1, bs, turn8 y hy, bs, turn8 _ (tT_lt y hy), bs, make8 _ r1 _ t2, bs, turn8 z hz, bs, turn8 _ (tT_lt z hz), bs, turn8 _ (tT_lt _ (tT_lt z hz)), bs, make8 _ r2 _ t3, bs, fin8 _ r3]
    rfl
theorem ck_lt {k l x y z : Nat} (hk : k ≤ 2) (hx : x < 10) (hy : y < 10) (hz : z < 10) : ck k l x y z < 11 := by
  unfold ck
  have b0 : l % 10 < 10 := Nat.mod_lt _ (by decide)
  have t1 := tT_lt x hx
  have t2 := tT_lt _ (tT_lt y hy)
  have t3 := tT_lt _ (tT_lt _ (tT_lt z hz))
  have r1 := mkN_lt _ b0 _ t1
  have r2 := mkN_lt _ r1 _ t2
  have r3 := mkN_lt _ r2 _ t3
  by_cases h0 : k = 0
  · rw [if_pos h0]; omega
  · rw [if_neg h0]
    by_cases h1 : k = 1
    · rw [if_pos h1]; omega
    · rw [if_neg h1]
      unfold cT
      by_cases h2 : mkN (mkN (mkN (l % 10) (tT x)) (tT (tT y))) (tT (tT (tT z))) < 5
      · rw [if_pos h2]; omega
      · rw [if_neg h2]; omega
/-- how many below n -/
def cnt (P : Nat → Bool) : Nat → Nat
  | 0 => 0
  | n + 1 => cnt P n + (if P n then 1 else 0)
theorem cnt_le (P : Nat → Bool) (n : Nat) : cnt P n ≤ n := by
  induction n with
  | zero => exact Nat.le_refl _
  | succ n ih => show cnt P n + _ ≤ n + 1; split <;> omega
def Px (k l x y z : Nat) (f : Nat) : Bool := decide (f ≠ x) && decide (ck k l f y z = ck k l x y z)
def Py (k l x y z : Nat) (f : Nat) : Bool := decide (f ≠ y) && decide (ck k l x f z = ck k l x y z)
def Pz (k l x y z : Nat) (f : Nat) : Bool := decide (f ≠ z) && decide (ck k l x y f = ck k l x y z)
theorem if_eq {α : Type} {a b : Nat} {u v : α} (ha : a < 2 ^ 31) (hb : b < 2 ^ 31) : (if nI a = nI b then u else v) = if a = b then u else v := by
  by_cases h : a = b
  · rw [if_pos h, if_pos ((nI_eq ha hb).mpr h)]
  · rw [if_neg h, if_neg (fun q => h ((nI_eq ha hb).mp q))]
theorem if_le {α : Type} {a b : Nat} {u v : α} (ha : a < 2 ^ 31) (hb : b < 2 ^ 31) : (if nI a ≤ nI b then u else v) = if a ≤ b then u else v := by
  by_cases h : a ≤ b
  · rw [if_pos h, if_pos ((nI_leI ha hb).mpr h)]
  · rw [if_neg h, if_neg (fun q => h ((nI_leI ha hb).mp q))]
theorem if_lt {α : Type} {a b : Nat} {u v : α} (ha : a < 2 ^ 31) (hb : b < 2 ^ 31) : (if nI a < nI b then u else v) = if a < b then u else v := by
  by_cases h : a < b
  · rw [if_pos h, if_pos ((nI_ltI ha hb).mpr h)]
  · rw [if_neg h, if_neg (fun q => h ((nI_ltI ha hb).mp q))]
theorem mF95 {K : Int32 → Int32 → Int32 → Int32 → Int32 → Int32 → Int32 → Int32 → Option Int32} {k l x y z c i : Nat} (hk : k ≤ 2) (hl : l ≤ 26) (hx : x < 10) (hy : y < 10) (hz : z < 10) (hi : i < 10) :
    f_X1_missedFigures_95 K (nI k) (nI l) (nI x) (nI y) (nI z) (nI (ck k l x y z)) (nI c) (nI i) = K (nI k) (nI l) (nI x) (nI y) (nI z) (nI (ck k l x y z)) (nI (c + (if Pz k l x y z i then 1 else 0))) (nI (i + 1)) := by
  unfold f_X1_missedFigures_95 Pz
  have h1 := ck_lt (l := l) hk hx hy hz
  have h2 := ck_lt (l := l) hk hx hy hi
  rw [ofFig hk hl hx hy hi, bs, p1, p1, if_eq (by omega) (by omega), if_eq (by omega) (by omega)]
  by_cases e1 : i = z
  · simp [e1]
  · by_cases e2 : ck k l x y i = ck k l x y z <;> simp [e1, e2]
theorem mF70 {K : Int32 → Int32 → Int32 → Int32 → Int32 → Int32 → Int32 → Int32 → Option Int32} {k l x y z c i : Nat} (hk : k ≤ 2) (hl : l ≤ 26) (hx : x < 10) (hy : y < 10) (hz : z < 10) (hi : i < 10) :
    f_X1_missedFigures_70 K (nI k) (nI l) (nI x) (nI y) (nI z) (nI (ck k l x y z)) (nI c) (nI i) = K (nI k) (nI l) (nI x) (nI y) (nI z) (nI (ck k l x y z)) (nI (c + (if Py k l x y z i then 1 else 0) + (if Pz k l x y z i then 1 else 0))) (nI (i + 1)) := by
  unfold f_X1_missedFigures_70
  have h1 := ck_lt (l := l) hk hx hy hz
  have h2 := ck_lt (l := l) hk hx hi hz
  rw [ofFig hk hl hx hi hz, bs, p1, if_eq (by omega) (by omega), if_eq (by omega) (by omega), mF95 hk hl hx hy hz hi, mF95 hk hl hx hy hz hi]
  unfold Py
  by_cases e1 : i = y
  · simp [e1]
  · by_cases e2 : ck k l x i z = ck k l x y z <;> simp [e1, e2]
theorem mF38 {k l x y z : Nat} (hk : k ≤ 2) (hl : l ≤ 26) (hx : x < 10) (hy : y < 10) (hz : z < 10) : ∀ (n i : Nat), i ≤ 10 → 10 - i < n →
    f_X1_missedFigures_38 n (nI k) (nI l) (nI x) (nI y) (nI z) (nI (ck k l x y z)) (nI (cnt (Px k l x y z) i + cnt (Py k l x y z) i + cnt (Pz k l x y z) i)) (nI i) = some (nI (cnt (Px k l x y z) 10 + cnt (Py k l x y z) 10 + cnt (Pz k l x y z) 10)) := by
  intro n
  induction n with
  | zero => intro i h1 h2; omega
  | succ n ih =>
    intro i h1 h2
    rw [f_X1_missedFigures_38]
    by_cases h3 : i = 10
    · subst h3
      rw [if_pos (show (9 : Int32) < nI 10 by decide)]
    · have hi : i < 10 := by omega
      have h9 := ck_lt (l := l) hk hx hy hz
      have h10 := ck_lt (l := l) hk hi hy hz
      rw [if_neg (show ¬ ((9 : Int32) < nI i) from nI_nlt (a := 9) (b := i) (by omega) (by omega)), ofFig hk hl hi hy hz, bs, p1, if_eq (by omega) (by omega), if_eq (by omega) (by omega), mF70 hk hl hx hy hz hi, mF70 hk hl hx hy hz hi]
      have e : cnt (Px k l x y z) i + cnt (Py k l x y z) i + cnt (Pz k l x y z) i + (if Px k l x y z i then 1 else 0) + (if Py k l x y z i then 1 else 0) + (if Pz k l x y z i then 1 else 0) = cnt (Px k l x y z) (i + 1) + cnt (Py k l x y z) (i + 1) + cnt (Pz k l x y z) (i + 1) := by
        show _ = (cnt (Px k l x y z) i + _) + (cnt (Py k l x y z) i + _) + (cnt (Pz k l x y z) i + _)
        omega
      have fin := ih (i + 1) (by omega) (by omega)
      rw [← e] at fin
      by_cases e1 : i = x
      · rw [if_pos e1]
        have : Px k l x y z i = false := by simp [Px, e1]
        rw [this] at fin
        simpa using fin
      · rw [if_neg e1]
        by_cases e2 : ck k l i y z = ck k l x y z
        · rw [if_pos e2]
          have : Px k l x y z i = true := by simp [Px, e1, e2]
          rw [this] at fin
          simpa using fin
        · rw [if_neg e2]
          have : Px k l x y z i = false := by simp [Px, e2]
          rw [this] at fin
          simpa using fin
theorem missF {k l v : Nat} (hk : k ≤ 2) (hl : l ≤ 26) (hv : v < 1000) : f_X1_missedFigures (nI k) (nI l) (nI v) = some (nI (cnt (Px k l (v / 100) (v / 10 % 10) (v % 10)) 10 + cnt (Py k l (v / 100) (v / 10 % 10) (v % 10)) 10 + cnt (Pz k l (v / 100) (v / 10 % 10) (v % 10)) 10)) := by
  unfold f_X1_missedFigures
  have hx : v / 100 < 10 := by omega
  have hy : v / 10 % 10 < 10 := Nat.mod_lt _ (by decide)
  have hz : v % 10 < 10 := Nat.mod_lt _ (by decide)
  rw [d100 (by omega), m10 (v := v) (by omega), d10 (by omega), m10 (by omega), ofFig hk hl hx hy hz, bs]
  exact mF38 hk hl hx hy hz 1000 0 (by decide) (by decide)
def sw (k l x y z : Nat) : Nat := (if x ≠ y ∧ ck k l y x z = ck k l x y z then 1 else 0) + (if y ≠ z ∧ ck k l x z y = ck k l x y z then 1 else 0)
theorem mS59 {k l x y z c : Nat} (hk : k ≤ 2) (hl : l ≤ 26) (hx : x < 10) (hy : y < 10) (hz : z < 10) :
    f_X1_missedSwaps_59 (nI k) (nI l) (nI x) (nI y) (nI z) (nI (ck k l x y z)) (nI c) = some (nI (c + (if y ≠ z ∧ ck k l x z y = ck k l x y z then 1 else 0))) := by
  unfold f_X1_missedSwaps_59
  have h1 := ck_lt (l := l) hk hx hy hz
  have h2 := ck_lt (l := l) hk hx hz hy
  rw [ofFig hk hl hx hz hy, bs, p1, if_eq (by omega) (by omega), if_eq (by omega) (by omega)]
  by_cases e1 : y = z
  · simp [e1]
  · by_cases e2 : ck k l x z y = ck k l x y z <;> simp [e1, e2]
theorem missS {k l v : Nat} (hk : k ≤ 2) (hl : l ≤ 26) (hv : v < 1000) : f_X1_missedSwaps (nI k) (nI l) (nI v) = some (nI (sw k l (v / 100) (v / 10 % 10) (v % 10))) := by
  unfold f_X1_missedSwaps
  have hx : v / 100 < 10 := by omega
  have hy : v / 10 % 10 < 10 := Nat.mod_lt _ (by decide)
  have hz : v % 10 < 10 := Nat.mod_lt _ (by decide)
  rw [d100 (by omega), m10 (v := v) (by omega), d10 (by omega), m10 (by omega)]
  generalize v / 100 = x at hx ⊢
  generalize v / 10 % 10 = y at hy ⊢
  generalize v % 10 = z at hz ⊢
  have h1 := ck_lt (l := l) hk hx hy hz
  have h2 := ck_lt (l := l) hk hy hx hz
  rw [ofFig hk hl hx hy hz, bs, ofFig hk hl hy hx hz, bs, if_eq (by omega) (by omega), if_eq (by omega) (by omega), show (0 : Int32) + 1 = nI 1 from rfl, show (0 : Int32) = nI 0 from rfl, mS59 hk hl hx hy hz, mS59 hk hl hx hy hz]
  unfold sw
  by_cases e1 : x = y
  · simp [e1]
  · by_cases e2 : ck k l y x z = ck k l x y z <;> simp [e1, e2]
