/-! numbers, ranges, small functions -/
theorem gd_t {α : Type} {o : Option α} : gd true o = o := rfl
theorem gd_d {α : Type} {o : Option α} {c : Prop} {i : Decidable c} (h : c) : gd (@decide c i) o = o := by rw [decide_eq_true h]; rfl
theorem gd_i {α : Type} {o : Option α} {j n : Nat} (h : j < n) (hn : n < 2 ^ 31) : gd (inb (nI j) n) o = o := by
  have e : inb (nI j) n = true := by
    unfold inb
    rw [nI_clamp (Nat.lt_trans h hn)]
    simp [nI_pos (Nat.lt_trans h hn), Nat.not_le.mpr h]
  rw [e]; rfl
theorem bs {α β : Type} {a : α} {k : α → Option β} : (some a).bind k = k a := rfl
theorem bI0 (b : Bool) : (bI b = 0) ↔ b = false := by cases b <;> simp [bI]
theorem bIt : ¬ (bI true = 0) := by simp [bI]
theorem bIf : bI false = 0 := rfl
def rng (x y z : Int32) : Bool := decide (y ≤ x) && decide (x ≤ z)
theorem ft (x y z : Int32) : f_X7_isFromTo x y z = some (rng x y z) := by
  unfold f_X7_isFromTo rng
  by_cases h1 : x < y
  · rw [if_pos h1, decide_eq_false (Int32.not_le.mpr h1)]; rfl
  · rw [if_neg h1, decide_eq_true (Int32.not_lt.mp h1)]
    by_cases h2 : z < x
    · rw [if_pos h2, decide_eq_false (Int32.not_le.mpr h2)]; rfl
    · rw [if_neg h2, decide_eq_true (Int32.not_lt.mp h2)]; rfl
theorem lgc_lt (x y : Int64) : lg_cmp x y < 0 ↔ x < y := by
  unfold lg_cmp
  by_cases h1 : x > y
  · rw [if_pos h1]
    constructor
    · intro h; exact absurd h (by decide)
    · intro h
      have h1 := Int64.lt_iff_toInt_lt.mp h1
      have h := Int64.lt_iff_toInt_lt.mp h
      omega
  · rw [if_neg h1]
    by_cases h2 : x = y
    · rw [if_pos h2]
      subst h2
      constructor
      · intro h; exact absurd h (by decide)
      · intro h
        have h := Int64.lt_iff_toInt_lt.mp h
        omega
    · rw [if_neg h2]
      constructor
      · intro _
        have h1 : ¬ (y.toInt < x.toInt) := fun q => h1 (Int64.lt_iff_toInt_lt.mpr q)
        have h2 : ¬ (x.toInt = y.toInt) := fun q => h2 (Int64.toInt_inj.mp q)
        exact Int64.lt_iff_toInt_lt.mpr (by omega)
      · intro _; decide
theorem lgc_gt (x y : Int64) : 0 < lg_cmp x y ↔ y < x := by
  unfold lg_cmp
  by_cases h1 : x > y
  · rw [if_pos h1]
    exact ⟨fun _ => h1, fun _ => by decide⟩
  · rw [if_neg h1]
    by_cases h2 : x = y
    · rw [if_pos h2]
      exact ⟨fun h => absurd h (by decide), fun h => absurd h h1⟩
    · rw [if_neg h2]
      exact ⟨fun h => absurd h (by decide), fun h => absurd h h1⟩
theorem fi (x y z : Int32) {L H : Int64} (hL : y.toInt64 = L) (hH : z.toInt64 = H) : f_X8_in x.toInt64 L H = some (rng x y z) := by
  subst hL; subst hH
  unfold f_X8_in rng
  by_cases h1 : x < y
  · rw [if_pos ((lgc_lt _ _).mpr (Int32.toInt64_lt.mpr h1)), decide_eq_false (Int32.not_le.mpr h1)]; rfl
  · rw [if_neg (fun q => h1 (Int32.toInt64_lt.mp ((lgc_lt _ _).mp q))), decide_eq_true (Int32.not_lt.mp h1)]
    by_cases h2 : z < x
    · rw [if_pos ((lgc_gt _ _).mpr (Int32.toInt64_lt.mpr h2)), decide_eq_false (Int32.not_le.mpr h2)]; rfl
    · rw [if_neg (fun q => h2 (Int32.toInt64_lt.mp ((lgc_gt _ _).mp q))), decide_eq_true (Int32.not_lt.mp h2)]; rfl
theorem nI_lit (n : Nat) : Int32.ofNat n = nI n := rfl
theorem pred_toInt {n : Nat} (h : n < 2 ^ 30) : (nI n - 1).toInt = (n : Int) - 1 := by
  have := pk_sub_toInt (a := n) (b := 1) h (by decide)
  exact this
theorem rng_t {j n : Nat} (h : j < n) (hn : n < 2 ^ 30) : rng (nI j) 0 (nI n - 1) = true := by
  unfold rng
  have h1 : (0 : Int32) ≤ nI j := nI_pos' (by omega)
  have h2 : nI j ≤ nI n - 1 := by
    rw [Int32.le_iff_toInt_le, pred_toInt hn, nI_toInt (by omega)]; omega
  simp [h1, h2]
theorem rng_ex {x : Int32} {n : Nat} (hn : n < 2 ^ 30) (h : rng x 0 (nI n - 1) = true) : ∃ j, j < n ∧ x = nI j := by
  unfold rng at h
  simp only [Bool.and_eq_true, decide_eq_true_eq] at h
  obtain ⟨h1, h2⟩ := h
  rw [Int32.le_iff_toInt_le, pred_toInt hn] at h2
  have h1 := Int32.le_iff_toInt_le.mp h1
  have e0 : (0 : Int32).toInt = 0 := rfl
  rw [e0] at h1
  refine ⟨x.toInt.toNat, by omega, ?_⟩
  apply Int32.toInt_inj.mp
  rw [nI_toInt (by omega)]; omega
theorem rng_tl {j a b : Nat} {y z : Int32} (hy : y = nI a) (hz : z = nI b) (h1 : a ≤ j) (h2 : j ≤ b) (hb : b < 2 ^ 30) : rng (nI j) y z = true := by
  unfold rng
  rw [hy, hz]
  have h1 : nI a ≤ nI j := nI_le h1 (by omega)
  have h2 : nI j ≤ nI b := nI_le h2 (by omega)
  simp [h1, h2]
theorem rng_el {x : Int32} {a b : Nat} {y z : Int32} (hy : y = nI a) (hz : z = nI b) (ha : a < 2 ^ 30) (hb : b < 2 ^ 30) (h : rng x y z = true) : ∃ j, a ≤ j ∧ j ≤ b ∧ x = nI j := by
  unfold rng at h
  simp only [Bool.and_eq_true, decide_eq_true_eq] at h
  obtain ⟨h1, h2⟩ := h
  rw [hy] at h1; rw [hz] at h2
  have h1 := Int32.le_iff_toInt_le.mp h1
  have h2 := Int32.le_iff_toInt_le.mp h2
  rw [nI_toInt (by omega)] at h1 h2
  refine ⟨x.toInt.toNat, by omega, by omega, ?_⟩
  apply Int32.toInt_inj.mp
  rw [nI_toInt (by omega)]; omega
theorem f_min {a b : Nat} (ha : a < 2 ^ 31) (hb : b < 2 ^ 31) : f_J9_min_7cf53 (nI a) (nI b) = some (nI (min a b)) := by
  unfold f_J9_min_7cf53
  by_cases h : b < a
  · rw [if_pos (nI_lt h (by omega))]; rw [Nat.min_eq_right (by omega)]
  · rw [if_neg (nI_nlt (by omega) (by omega))]; rw [Nat.min_eq_left (by omega)]
theorem f_max0 {a b : Nat} (h : b ≤ a) (ha : a < 2 ^ 31) : f_J9_max_7cf53 (nI a - nI b) 0 = some (nI (a - b)) := by
  rw [pk_sub h]
  unfold f_J9_max_7cf53
  rw [if_neg]
  exact nI_pos (by omega)
/-- sums over a series' shares -/
def Fs (g : Nat → Nat) (s : Nat) : Nat → Nat
  | 0 => 0
  | p + 1 => Fs g s p + g p * g (6 + 6 * s + p)
theorem Fs_mono (g : Nat → Nat) (s : Nat) {p q : Nat} (h : p ≤ q) : Fs g s p ≤ Fs g s q := by
  induction q with
  | zero => have : p = 0 := by omega
            subst this; exact Nat.le_refl _
  | succ q ih =>
    by_cases h1 : p = q + 1
    · subst h1; exact Nat.le_refl _
    · exact Nat.le_trans (ih (by omega)) (Nat.le_add_right _ _)
theorem Fs_ex (g : Nat → Nat) (s : Nat) {n v : Nat} (h : v < Fs g s n) : ∃ p, p < n ∧ Fs g s p ≤ v ∧ v < Fs g s (p + 1) := by
  induction n with
  | zero => exact absurd h (Nat.not_lt_zero _)
  | succ n ih =>
    by_cases h1 : v < Fs g s n
    · obtain ⟨p, h2, h3⟩ := ih h1
      exact ⟨p, by omega, h3⟩
    · exact ⟨n, by omega, by omega, h⟩
