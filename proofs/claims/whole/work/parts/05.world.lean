/-- a memory: object's name, place in it -/
abbrev Me : Type := Nat → Nat → Int32
def up (σ : Me) (k j : Nat) (v : Int32) : Me := fun k' => if k' = k then upd (σ k) j v else σ k'
theorem up_row (σ : Me) (k j : Nat) (v : Int32) : up σ k j v k = upd (σ k) j v := by simp [up]
theorem up_oth (σ : Me) {k k' : Nat} (j : Nat) (v : Int32) (h : k' ≠ k) : up σ k j v k' = σ k' := by simp [up, h]
theorem up_eq (σ : Me) (k j : Nat) (v : Int32) : up σ k j v k j = v := by simp [up, upd]
theorem up_ne (σ : Me) {k j k' j' : Nat} (v : Int32) (h : ¬ (k' = k ∧ j' = j)) : up σ k j v k' j' = σ k' j' := by
  by_cases h1 : k' = k
  · subst h1
    have h2 : ¬ j' = j := fun e => h ⟨rfl, e⟩
    simp [up, upd, h2]
  · simp [up, h1]
/-- a name as a number, and back -/
def rf (x : Int32) : Option Nat := if x < 0 then none else some x.toNatClampNeg
def ro (r : Option Nat) : Int32 := match r with | none => -1 | some k => nI k
theorem rf_none : rf (-1) = none := by decide
theorem rf_some {k : Nat} (h : k < 2 ^ 31) : rf (nI k) = some k := by
  unfold rf
  rw [if_neg (nI_pos h), nI_clamp h]
/-- the kinds of the class's 51 cells, by their names -/
def kd (k : Nat) : Nat := if k < 9 then k else if 51 ≤ k then 99 else if (k - 9) % 21 < 3 then 9 + (k - 9) % 21 else if ((k - 9) % 21 - 3) % 6 < 2 then 12 + ((k - 9) % 21 - 3) % 6 else 14
theorem kd_lt {k j : Nat} (h : kd k = j) (hj : j < 99) : k < 51 := by
  unfold kd at h
  by_cases h1 : k < 9
  · omega
  · rw [if_neg h1] at h
    by_cases h2 : 51 ≤ k
    · rw [if_pos h2] at h; omega
    · omega
def aQ (f : Nat → Option Nat) (n : Nat) (cA : ClassId) : va_E := .inl (cA, n, .inr (.inr (.inr (.inr f))))
def ce (cI cH cE : ClassId) (a : Nat → Nat) (row : Nat → Int32) (k : Nat) : va_E := match kd k with
  | 0 => .inr (6, [.ref (a 1), .ref (a 3), .ref (a 6), .ref (a (row 3).toNatClampNeg), .ref (a (row 4).toNatClampNeg)])
  | 1 => .inr (5, [.ref (a 2), .int (row 1), .int (row 2)])
  | 2 => .inl (cI, 200, .inl row)
  | 3 => .inr (4, [.ref (a 4), .ref (a 5), .int (row 2), .int (row 3)])
  | 4 => .inl (cI, 99, .inl row)
  | 5 => .inl (cI, 99, .inl row)
  | 6 => .inr (0, [.ref (a 7), .ref (a 8), .int (row 2)])
  | 7 => .inl (cH, 6, .inr (.inr (.inr (.inr (fun i => (rf (row i)).map a)))))
  | 8 => .inl (cI, 6, .inl row)
  | 9 => .inr (1, [.ref (a (k + 1)), .ref (a (k + 2)), .int (row 2), .int (row 3), .int (row 4)])
  | 10 => .inl (cI, 4, .inl row)
  | 11 => .inl (cE, 3, .inr (.inr (.inr (.inr (fun i => some (a (k + 1 + 6 * i)))))))
  | 12 => .inr (2, [.ref (a (k + 1)), .int (row 1), .int (row 2), .int (row 3), .int (row 4)])
  | 13 => .inl (cH, 4, .inr (.inr (.inr (.inr (fun i => some (a (k + 1 + i)))))))
  | _ => .inr (3, [.int (row 0), .int (row 1), .int (row 2), .int (row 3)])
def wc (cI cH cE : ClassId) (a : Nat → Nat) (σ : Me) : va_W := (List.range 51).map (fun k => (a k, ce cI cH cE a (σ k) k))
def tyc (cI cH cE cJ : ClassId) : List (ClassId × FieldType) := [(cI, .int), (cH, .object "NotePress$Share"), (cE, .object "NotePress$Series"), (cJ, .int)]
def Pc (a : Nat → Nat) : Nat → Prop := fun q => ∃ k, k < 51 ∧ q = a k
def wm (cJ : ClassId) (b : Nat → Nat) (τ : Me) : va_W := [(b 0, .inr (7, [.int (τ 0 0), .ref (b 1), .int (τ 0 2), .ref (b 2), .ref (b 3), .ref (b 4), .ref (b 5), .int (τ 0 7)])), (b 1, .inl (cJ, 200, .inl (τ 1))), (b 2, .inl (cJ, 25, .inl (τ 2))), (b 3, .inl (cJ, 25, .inl (τ 3))), (b 4, .inl (cJ, 112, .inl (τ 4))), (b 5, .inl (cJ, 672, .inl (τ 5)))]
def Pm (b : Nat → Nat) : Nat → Prop := fun q => ∃ k, k < 6 ∧ q = b k
section WL
variable {cI cH cE cJ : ClassId} {a b : Nat → Nat} {σ τ : Me}
theorem wc_at {k : Nat} (h : k < 51) : (wc cI cH cE a σ)[k]? = some (a k, ce cI cH cE a (σ k) k) := by
  simp [wc, List.getElem?_map, List.getElem?_range h]
theorem wc_ge {k : Nat} (h : ¬ k < 51) : (wc cI cH cE a σ)[k]? = none := by
  simp only [wc, List.getElem?_eq_none_iff, List.length_map, List.length_range]; omega
theorem wc_D (inj : ∀ i j, i < 51 → j < 51 → a i = a j → i = j) : ∀ σ, va_D (Pc a) (wc cI cH cE a σ) := by
  intro σ
  refine ⟨fun i j p q hi hj hpq => ?_, fun k q hk => ?_⟩
  · by_cases h1 : i < 51
    · by_cases h2 : j < 51
      · rw [wc_at h1] at hi; rw [wc_at h2] at hj
        cases hi; cases hj
        exact inj i j h1 h2 hpq
      · rw [wc_ge h2] at hj; cases hj
    · rw [wc_ge h1] at hi; cases hi
  · by_cases h1 : k < 51
    · rw [wc_at h1] at hk; cases hk
      exact ⟨k, h1, rfl⟩
    · rw [wc_ge h1] at hk; cases hk
theorem wc_set {k j : Nat} {v : Int32} {e : va_E} (hk : k < 51) (he : e = ce cI cH cE a (upd (σ k) j v) k) : (wc cI cH cE a σ).set k (a k, e) = wc cI cH cE a (up σ k j v) := by
  apply List.ext_getElem?
  intro i
  by_cases hi : i < 51
  · rw [wc_at hi]
    by_cases h : i = k
    · subst h
      rw [List.getElem?_set_self (by simpa [wc] using hi), up_row, he]
    · rw [List.getElem?_set_ne (Ne.symm h), wc_at hi, up_oth _ _ _ h]
  · rw [wc_ge hi]
    rw [List.getElem?_eq_none_iff, List.length_set]
    simp only [wc, List.length_map, List.length_range]; omega
theorem wc_0 : (wc cI cH cE a σ)[0]? = some (a 0, .inr (6, [.ref (a 1), .ref (a 3), .ref (a 6), .ref (a (σ 0 3).toNatClampNeg), .ref (a (σ 0 4).toNatClampNeg)])) := wc_at (by decide)
theorem wc_1 : (wc cI cH cE a σ)[1]? = some (a 1, .inr (5, [.ref (a 2), .int (σ 1 1), .int (σ 1 2)])) := wc_at (by decide)
theorem wc_2 : (wc cI cH cE a σ)[2]? = some (a 2, .inl (cI, 200, .inl (σ 2))) := wc_at (by decide)
theorem wc_3 : (wc cI cH cE a σ)[3]? = some (a 3, .inr (4, [.ref (a 4), .ref (a 5), .int (σ 3 2), .int (σ 3 3)])) := wc_at (by decide)
theorem wc_4 : (wc cI cH cE a σ)[4]? = some (a 4, .inl (cI, 99, .inl (σ 4))) := wc_at (by decide)
theorem wc_5 : (wc cI cH cE a σ)[5]? = some (a 5, .inl (cI, 99, .inl (σ 5))) := wc_at (by decide)
theorem wc_6 : (wc cI cH cE a σ)[6]? = some (a 6, .inr (0, [.ref (a 7), .ref (a 8), .int (σ 6 2)])) := wc_at (by decide)
theorem wc_7 : (wc cI cH cE a σ)[7]? = some (a 7, .inl (cH, 6, .inr (.inr (.inr (.inr (fun i => (rf (σ 7 i)).map a)))))) := wc_at (by decide)
theorem wc_8 : (wc cI cH cE a σ)[8]? = some (a 8, .inl (cI, 6, .inl (σ 8))) := wc_at (by decide)
theorem wc_9 {k : Nat} (h : kd k = 9) : (wc cI cH cE a σ)[k]? = some (a k, .inr (1, [.ref (a (k + 1)), .ref (a (k + 2)), .int (σ k 2), .int (σ k 3), .int (σ k 4)])) := by
  rw [wc_at (kd_lt h (by decide))]; simp only [ce, h]
theorem wc_10 {k : Nat} (h : kd k = 10) : (wc cI cH cE a σ)[k]? = some (a k, .inl (cI, 4, .inl (σ k))) := by
  rw [wc_at (kd_lt h (by decide))]; simp only [ce, h]
theorem wc_11 {k : Nat} (h : kd k = 11) : (wc cI cH cE a σ)[k]? = some (a k, .inl (cE, 3, .inr (.inr (.inr (.inr (fun i => some (a (k + 1 + 6 * i)))))))) := by
  rw [wc_at (kd_lt h (by decide))]; simp only [ce, h]
theorem wc_12 {k : Nat} (h : kd k = 12) : (wc cI cH cE a σ)[k]? = some (a k, .inr (2, [.ref (a (k + 1)), .int (σ k 1), .int (σ k 2), .int (σ k 3), .int (σ k 4)])) := by
  rw [wc_at (kd_lt h (by decide))]; simp only [ce, h]
theorem wc_13 {k : Nat} (h : kd k = 13) : (wc cI cH cE a σ)[k]? = some (a k, .inl (cH, 4, .inr (.inr (.inr (.inr (fun i => some (a (k + 1 + i)))))))) := by
  rw [wc_at (kd_lt h (by decide))]; simp only [ce, h]
theorem wc_14 {k : Nat} (h : kd k = 14) : (wc cI cH cE a σ)[k]? = some (a k, .inr (3, [.int (σ k 0), .int (σ k 1), .int (σ k 2), .int (σ k 3)])) := by
  rw [wc_at (kd_lt h (by decide))]; simp only [ce, h]
theorem wp_1_1 {v : Int32} : (wc cI cH cE a σ).set 1 (a 1, .inr (5, ([.ref (a 2), .int (σ 1 1), .int (σ 1 2)] : List Value).set 1 (.int v))) = wc cI cH cE a (up σ 1 1 v) := wc_set (by decide) rfl
theorem wp_1_2 {v : Int32} : (wc cI cH cE a σ).set 1 (a 1, .inr (5, ([.ref (a 2), .int (σ 1 1), .int (σ 1 2)] : List Value).set 2 (.int v))) = wc cI cH cE a (up σ 1 2 v) := wc_set (by decide) rfl
theorem wp_3_2 {v : Int32} : (wc cI cH cE a σ).set 3 (a 3, .inr (4, ([.ref (a 4), .ref (a 5), .int (σ 3 2), .int (σ 3 3)] : List Value).set 2 (.int v))) = wc cI cH cE a (up σ 3 2 v) := wc_set (by decide) rfl
theorem wp_3_3 {v : Int32} : (wc cI cH cE a σ).set 3 (a 3, .inr (4, ([.ref (a 4), .ref (a 5), .int (σ 3 2), .int (σ 3 3)] : List Value).set 3 (.int v))) = wc cI cH cE a (up σ 3 3 v) := wc_set (by decide) rfl
theorem wp_6_2 {v : Int32} : (wc cI cH cE a σ).set 6 (a 6, .inr (0, ([.ref (a 7), .ref (a 8), .int (σ 6 2)] : List Value).set 2 (.int v))) = wc cI cH cE a (up σ 6 2 v) := wc_set (by decide) rfl
theorem wp_0_3 {x : Nat} (hx : x < 2 ^ 31) : (wc cI cH cE a σ).set 0 (a 0, .inr (6, ([.ref (a 1), .ref (a 3), .ref (a 6), .ref (a (σ 0 3).toNatClampNeg), .ref (a (σ 0 4).toNatClampNeg)] : List Value).set 3 (.ref (a x)))) = wc cI cH cE a (up σ 0 3 (nI x)) := wc_set (by decide) (by simp [ce, kd, upd, nI_clamp hx])
theorem wp_0_4 {x : Nat} (hx : x < 2 ^ 31) : (wc cI cH cE a σ).set 0 (a 0, .inr (6, ([.ref (a 1), .ref (a 3), .ref (a 6), .ref (a (σ 0 3).toNatClampNeg), .ref (a (σ 0 4).toNatClampNeg)] : List Value).set 4 (.ref (a x)))) = wc cI cH cE a (up σ 0 4 (nI x)) := wc_set (by decide) (by simp [ce, kd, upd, nI_clamp hx])
theorem wa_2 {i : Nat} {v : Int32} : (wc cI cH cE a σ).set 2 (a 2, .inl (cI, 200, .inl (upd (σ 2) i v))) = wc cI cH cE a (up σ 2 i v) := wc_set (by decide) rfl
theorem wa_4 {i : Nat} {v : Int32} : (wc cI cH cE a σ).set 4 (a 4, .inl (cI, 99, .inl (upd (σ 4) i v))) = wc cI cH cE a (up σ 4 i v) := wc_set (by decide) rfl
theorem wa_5 {i : Nat} {v : Int32} : (wc cI cH cE a σ).set 5 (a 5, .inl (cI, 99, .inl (upd (σ 5) i v))) = wc cI cH cE a (up σ 5 i v) := wc_set (by decide) rfl
theorem wa_8 {i : Nat} {v : Int32} : (wc cI cH cE a σ).set 8 (a 8, .inl (cI, 6, .inl (upd (σ 8) i v))) = wc cI cH cE a (up σ 8 i v) := wc_set (by decide) rfl
theorem wa_7n {i : Nat} : (wc cI cH cE a σ).set 7 (a 7, .inl (cH, 6, .inr (.inr (.inr (.inr (va_up (fun i => (rf (σ 7 i)).map a) i none)))))) = wc cI cH cE a (up σ 7 i (-1)) := wc_set (by decide) (by
  simp only [ce, show kd 7 = 7 from rfl]
  congr 7
  funext q
  by_cases h : q = i
  · simp [va_up, upd, h, rf_none]
  · simp [va_up, upd, h])
theorem wa_7s {i x : Nat} (hx : x < 2 ^ 31) : (wc cI cH cE a σ).set 7 (a 7, .inl (cH, 6, .inr (.inr (.inr (.inr (va_up (fun i => (rf (σ 7 i)).map a) i (some (a x))))))))= wc cI cH cE a (up σ 7 i (nI x)) := wc_set (by decide) (by
  simp only [ce, show kd 7 = 7 from rfl]
  congr 7
  funext q
  by_cases h : q = i
  · simp [va_up, upd, h, rf_some hx]
  · simp [va_up, upd, h])
theorem wp_9_2 {k : Nat} (h : kd k = 9) {v : Int32} : (wc cI cH cE a σ).set k (a k, .inr (1, ([.ref (a (k + 1)), .ref (a (k + 2)), .int (σ k 2), .int (σ k 3), .int (σ k 4)] : List Value).set 2 (.int v))) = wc cI cH cE a (up σ k 2 v) := wc_set (kd_lt h (by decide)) (by simp [ce, h, upd])
theorem wp_9_3 {k : Nat} (h : kd k = 9) {v : Int32} : (wc cI cH cE a σ).set k (a k, .inr (1, ([.ref (a (k + 1)), .ref (a (k + 2)), .int (σ k 2), .int (σ k 3), .int (σ k 4)] : List Value).set 3 (.int v))) = wc cI cH cE a (up σ k 3 v) := wc_set (kd_lt h (by decide)) (by simp [ce, h, upd])
theorem wp_9_4 {k : Nat} (h : kd k = 9) {v : Int32} : (wc cI cH cE a σ).set k (a k, .inr (1, ([.ref (a (k + 1)), .ref (a (k + 2)), .int (σ k 2), .int (σ k 3), .int (σ k 4)] : List Value).set 4 (.int v))) = wc cI cH cE a (up σ k 4 v) := wc_set (kd_lt h (by decide)) (by simp [ce, h, upd])
theorem wp_12_1 {k : Nat} (h : kd k = 12) {v : Int32} : (wc cI cH cE a σ).set k (a k, .inr (2, ([.ref (a (k + 1)), .int (σ k 1), .int (σ k 2), .int (σ k 3), .int (σ k 4)] : List Value).set 1 (.int v))) = wc cI cH cE a (up σ k 1 v) := wc_set (kd_lt h (by decide)) (by simp [ce, h, upd])
theorem wp_12_2 {k : Nat} (h : kd k = 12) {v : Int32} : (wc cI cH cE a σ).set k (a k, .inr (2, ([.ref (a (k + 1)), .int (σ k 1), .int (σ k 2), .int (σ k 3), .int (σ k 4)] : List Value).set 2 (.int v))) = wc cI cH cE a (up σ k 2 v) := wc_set (kd_lt h (by decide)) (by simp [ce, h, upd])
theorem wp_12_3 {k : Nat} (h : kd k = 12) {v : Int32} : (wc cI cH cE a σ).set k (a k, .inr (2, ([.ref (a (k + 1)), .int (σ k 1), .int (σ k 2), .int (σ k 3), .int (σ k 4)] : List Value).set 3 (.int v))) = wc cI cH cE a (up σ k 3 v) := wc_set (kd_lt h (by decide)) (by simp [ce, h, upd])
theorem wp_12_4 {k : Nat} (h : kd k = 12) {v : Int32} : (wc cI cH cE a σ).set k (a k, .inr (2, ([.ref (a (k + 1)), .int (σ k 1), .int (σ k 2), .int (σ k 3), .int (σ k 4)] : List Value).set 4 (.int v))) = wc cI cH cE a (up σ k 4 v) := wc_set (kd_lt h (by decide)) (by simp [ce, h, upd])
theorem wp_14_0 {k : Nat} (h : kd k = 14) {v : Int32} : (wc cI cH cE a σ).set k (a k, .inr (3, ([.int (σ k 0), .int (σ k 1), .int (σ k 2), .int (σ k 3)] : List Value).set 0 (.int v))) = wc cI cH cE a (up σ k 0 v) := wc_set (kd_lt h (by decide)) (by simp [ce, h, upd])
theorem wp_14_1 {k : Nat} (h : kd k = 14) {v : Int32} : (wc cI cH cE a σ).set k (a k, .inr (3, ([.int (σ k 0), .int (σ k 1), .int (σ k 2), .int (σ k 3)] : List Value).set 1 (.int v))) = wc cI cH cE a (up σ k 1 v) := wc_set (kd_lt h (by decide)) (by simp [ce, h, upd])
theorem wp_14_2 {k : Nat} (h : kd k = 14) {v : Int32} : (wc cI cH cE a σ).set k (a k, .inr (3, ([.int (σ k 0), .int (σ k 1), .int (σ k 2), .int (σ k 3)] : List Value).set 2 (.int v))) = wc cI cH cE a (up σ k 2 v) := wc_set (kd_lt h (by decide)) (by simp [ce, h, upd])
theorem wp_14_3 {k : Nat} (h : kd k = 14) {v : Int32} : (wc cI cH cE a σ).set k (a k, .inr (3, ([.int (σ k 0), .int (σ k 1), .int (σ k 2), .int (σ k 3)] : List Value).set 3 (.int v))) = wc cI cH cE a (up σ k 3 v) := wc_set (kd_lt h (by decide)) (by simp [ce, h, upd])
theorem wa_10 {k : Nat} (h : kd k = 10) {i : Nat} {v : Int32} : (wc cI cH cE a σ).set k (a k, .inl (cI, 4, .inl (upd (σ k) i v))) = wc cI cH cE a (up σ k i v) := wc_set (kd_lt h (by decide)) (by simp [ce, h])
theorem mp_0 {v : Int32} : (wm cJ b τ).set 0 (b 0, .inr (7, ([.int (τ 0 0), .ref (b 1), .int (τ 0 2), .ref (b 2), .ref (b 3), .ref (b 4), .ref (b 5), .int (τ 0 7)] : List Value).set 0 (.int v))) = wm cJ b (up τ 0 0 v) := by simp [wm, up, upd]
theorem mp_2 {v : Int32} : (wm cJ b τ).set 0 (b 0, .inr (7, ([.int (τ 0 0), .ref (b 1), .int (τ 0 2), .ref (b 2), .ref (b 3), .ref (b 4), .ref (b 5), .int (τ 0 7)] : List Value).set 2 (.int v))) = wm cJ b (up τ 0 2 v) := by simp [wm, up, upd]
theorem mp_7 {v : Int32} : (wm cJ b τ).set 0 (b 0, .inr (7, ([.int (τ 0 0), .ref (b 1), .int (τ 0 2), .ref (b 2), .ref (b 3), .ref (b 4), .ref (b 5), .int (τ 0 7)] : List Value).set 7 (.int v))) = wm cJ b (up τ 0 7 v) := by simp [wm, up, upd]
theorem ma_1 {i : Nat} {v : Int32} : (wm cJ b τ).set 1 (b 1, .inl (cJ, 200, .inl (upd (τ 1) i v))) = wm cJ b (up τ 1 i v) := by simp [wm, up]
theorem ma_2 {i : Nat} {v : Int32} : (wm cJ b τ).set 2 (b 2, .inl (cJ, 25, .inl (upd (τ 2) i v))) = wm cJ b (up τ 2 i v) := by simp [wm, up]
theorem ma_3 {i : Nat} {v : Int32} : (wm cJ b τ).set 3 (b 3, .inl (cJ, 25, .inl (upd (τ 3) i v))) = wm cJ b (up τ 3 i v) := by simp [wm, up]
theorem ma_4 {i : Nat} {v : Int32} : (wm cJ b τ).set 4 (b 4, .inl (cJ, 112, .inl (upd (τ 4) i v))) = wm cJ b (up τ 4 i v) := by simp [wm, up]
theorem ma_5 {i : Nat} {v : Int32} : (wm cJ b τ).set 5 (b 5, .inl (cJ, 672, .inl (upd (τ 5) i v))) = wm cJ b (up τ 5 i v) := by simp [wm, up]
theorem wm_D (inj : ∀ i j, i < 6 → j < 6 → b i = b j → i = j) : ∀ τ, va_D (Pm b) (wm cJ b τ) := by
  intro τ
  have hl : (wm cJ b τ).length = 6 := rfl
  have key : ∀ (k : Nat) (q : Nat × va_E), (wm cJ b τ)[k]? = some q → k < 6 ∧ q.1 = b k := by
    intro k q hk
    have h6 : k < 6 := by rw [← hl]; exact (List.getElem?_eq_some_iff.mp hk).1
    refine ⟨h6, ?_⟩
    match k, h6, hk with
    | 0, _, hk => cases hk; rfl
    | 1, _, hk => cases hk; rfl
    | 2, _, hk => cases hk; rfl
    | 3, _, hk => cases hk; rfl
    | 4, _, hk => cases hk; rfl
    | 5, _, hk => cases hk; rfl
    | k + 6, h, _ => omega
  refine ⟨fun i j p q hi hj hpq => ?_, fun k q hk => ?_⟩
  · obtain ⟨h1, e1⟩ := key i p hi
    obtain ⟨h2, e2⟩ := key j q hj
    exact inj i j h1 h2 (by rw [← e1, ← e2, hpq])
  · obtain ⟨h1, e1⟩ := key k q hk
    exact ⟨k, h1, e1⟩
theorem kd_9_1 {k : Nat} (h : kd k = 9) : kd (k + 1) = 10 := (show ∀ k, k < 51 → kd k = 9 → kd (k + 1) = 10 by decide) k (kd_lt h (by decide)) h
theorem kd_9_2 {k : Nat} (h : kd k = 9) : kd (k + 2) = 11 := (show ∀ k, k < 51 → kd k = 9 → kd (k + 2) = 11 by decide) k (kd_lt h (by decide)) h
theorem kd_11_s {k i : Nat} (h : kd k = 11) (hi : i < 3) : kd (k + 1 + 6 * i) = 12 := (show ∀ k, k < 51 → ∀ i, i < 3 → kd k = 11 → kd (k + 1 + 6 * i) = 12 by decide) k (kd_lt h (by decide)) i hi h
theorem kd_12_1 {k : Nat} (h : kd k = 12) : kd (k + 1) = 13 := (show ∀ k, k < 51 → kd k = 12 → kd (k + 1) = 13 by decide) k (kd_lt h (by decide)) h
theorem kd_13_s {k i : Nat} (h : kd k = 13) (hi : i < 4) : kd (k + 1 + i) = 14 := (show ∀ k, k < 51 → ∀ i, i < 4 → kd k = 13 → kd (k + 1 + i) = 14 by decide) k (kd_lt h (by decide)) i hi h
theorem inb_lt {i : Int32} {n : Nat} (h : inb i n = true) : i.toNatClampNeg < n := by
  unfold inb at h
  rcases Nat.lt_or_ge i.toNatClampNeg n with q | q
  · exact q
  · simp [q] at h
theorem kd_bd {k : Nat} (h : kd k < 99) : k < 2 ^ 31 := Nat.lt_trans (kd_lt rfl h) (by decide)
end WL
