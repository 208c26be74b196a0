/-! reading letters: class and reference -/
def TC (σ : Me) (len : Nat) (tx : Nat → Nat) : Prop := len ≤ 200 ∧ σ 1 1 = nI len ∧ ∀ j, j < len → σ 2 j = nI (tx j) ∧ tx j ≤ 126
def TM (τ : Me) (len : Nat) (tx : Nat → Nat) : Prop := len ≤ 200 ∧ τ 0 0 = nI len ∧ ∀ j, j < len → τ 1 j = nI (tx j) ∧ 32 ≤ tx j ∧ tx j ≤ 126
def FC (σ σ' : Me) (D : Nat) : Prop := (∀ k, k ≠ 1 → (k < D ∨ D + 21 ≤ k) → σ' k = σ k) ∧ ∀ j, j ≠ 2 → σ' 1 j = σ 1 j
def FM (τ τ' : Me) : Prop := (∀ k, k ≠ 0 → k ≠ 3 → τ' k = τ k) ∧ ∀ j, j ≠ 2 → τ' 0 j = τ 0 j
theorem FC.rf {σ : Me} {D : Nat} : FC σ σ D := ⟨fun _ _ _ => rfl, fun _ _ => rfl⟩
theorem FM.rf {τ : Me} : FM τ τ := ⟨fun _ _ _ => rfl, fun _ _ => rfl⟩
theorem FC.tr {σ σ' σ2 : Me} {D : Nat} (h : FC σ σ' D) (h2 : FC σ' σ2 D) : FC σ σ2 D := ⟨fun k a b => (h2.1 k a b).trans (h.1 k a b), fun j a => (h2.2 j a).trans (h.2 j a)⟩
theorem FM.tr {τ τ' τ2 : Me} (h : FM τ τ') (h2 : FM τ' τ2) : FM τ τ2 := ⟨fun k a b => (h2.1 k a b).trans (h.1 k a b), fun j a => (h2.2 j a).trans (h.2 j a)⟩
theorem FC.at {σ : Me} {D : Nat} (v : Int32) (hD : 9 ≤ D) : FC σ (up σ 1 2 v) D := ⟨fun k a _ => up_oth _ _ _ a, fun j a => up_ne _ _ (by omega)⟩
theorem FC.pl {σ : Me} {D k : Nat} (j : Nat) (v : Int32) (h1 : D ≤ k) (h2 : k < D + 21) (hD : 9 ≤ D) : FC σ (up σ k j v) D := ⟨fun k' _ b => up_oth _ _ _ (by omega), fun j' _ => up_ne _ _ (by omega)⟩
theorem FM.sp {τ : Me} (v : Int32) : FM τ (up τ 0 2 v) := ⟨fun k a _ => up_oth _ _ _ a, fun j a => up_ne _ _ (by omega)⟩
theorem FM.rd {τ : Me} (j : Nat) (v : Int32) : FM τ (up τ 3 j v) := ⟨fun k _ b => up_oth _ _ _ b, fun j' _ => up_ne _ _ (by omega)⟩
theorem TC.cg {σ σ' : Me} {D len : Nat} {tx : Nat → Nat} (h : TC σ len tx) (f : FC σ σ' D) (hD : 9 ≤ D) : TC σ' len tx := ⟨h.1, by rw [f.2 1 (by decide)]; exact h.2.1, fun j hj => by rw [f.1 2 (by decide) (by omega)]; exact h.2.2 j hj⟩
theorem TM.cg {τ τ' : Me} {len : Nat} {tx : Nat → Nat} (h : TM τ len tx) (f : FM τ τ') : TM τ' len tx := ⟨h.1, by rw [f.2 0 (by decide)]; exact h.2.1, fun j hj => by rw [f.1 1 (by decide) (by decide)]; exact h.2.2 j hj⟩
theorem up_up (σ : Me) (k j : Nat) (a b : Int32) : up (up σ k j a) k j b = up σ k j b := by
  funext k' j'
  by_cases h : k' = k ∧ j' = j
  · obtain ⟨rfl, rfl⟩ := h; rw [up_eq, up_eq]
  · rw [up_ne _ _ h, up_ne _ _ h, up_ne _ _ h]
def dg (tx : Nat → Nat) (len i : Nat) : Prop := i < len ∧ 48 ≤ tx i ∧ tx i ≤ 57
def nm (tx : Nat → Nat) (len i : Nat) : Option (Nat × Nat) := if i < len ∧ 48 ≤ tx i ∧ tx i ≤ 57 then (if i + 1 < len ∧ 48 ≤ tx (i + 1) ∧ tx (i + 1) ≤ 57 then some (10 * (tx i - 48) + (tx (i + 1) - 48), i + 2) else some (tx i - 48, i + 1)) else none
theorem nm_some {tx : Nat → Nat} {len i v j : Nat} (h : nm tx len i = some (v, j)) : v ≤ 99 ∧ i < j ∧ j ≤ len := by
  unfold nm at h
  by_cases e : i < len ∧ 48 ≤ tx i ∧ tx i ≤ 57
  · rw [if_pos e] at h
    by_cases e2 : i + 1 < len ∧ 48 ≤ tx (i + 1) ∧ tx (i + 1) ≤ 57
    · rw [if_pos e2] at h; cases h; omega
    · rw [if_neg e2] at h; cases h; omega
  · rw [if_neg e] at h; cases h
section RT
variable {σ τ : Me} {len i : Nat} {tx : Nat → Nat}
theorem c_skT (T : TC σ len tx) (hi : σ 1 2 = nI i) (h : i < len) {c : Nat} (e : tx i = c) : f_X6_skip σ (nI c) = some (up σ 1 2 (nI (i + 1)), true) := by
  have hl := T.1
  unfold f_X6_skip
  rw [T.2.1, hi, if_neg (show ¬ (nI len ≤ nI i) from fun q => by have := (nI_leI (by omega) (by omega)).mp q; omega), gd_i (by omega) (by decide), nI_clamp (by omega), (T.2.2 i h).1, e, if_pos rfl, p1]
theorem c_skF (T : TC σ len tx) (hi : σ 1 2 = nI i) (hil : i ≤ len) {c : Nat} (hc : c ≤ 126) (h : ¬ (i < len ∧ tx i = c)) : f_X6_skip σ (nI c) = some (σ, false) := by
  have hl := T.1
  unfold f_X6_skip
  rw [T.2.1, hi, if_le (by omega) (by omega)]
  by_cases e : i < len
  · have := (T.2.2 i e).2
    rw [if_neg (by omega), gd_i (by omega) (by decide), nI_clamp (by omega), (T.2.2 i e).1, if_eq (by omega) (by omega), if_neg (fun q => h ⟨e, q⟩)]
  · rw [if_pos (by omega)]
theorem l48 {a : Nat} (h : 48 ≤ a) : nI a - 48 = nI (a - 48) := pk_sub h
theorem l97 {a : Nat} (h : 97 ≤ a) : nI a - 97 = nI (a - 97) := pk_sub h
theorem l96 {a : Nat} (h : 96 ≤ a) : nI a - 96 = nI (a - 96) := pk_sub h
theorem c_figT (T : TC σ len tx) (hi : σ 1 2 = nI i) (h : i < len ∧ 48 ≤ tx i ∧ tx i ≤ 57) : f_X6_readFigure σ = some (up σ 1 2 (nI (i + 1)), nI (tx i - 48)) := by
  have hl := T.1
  unfold f_X6_readFigure
  rw [T.2.1, hi, if_neg (show ¬ (nI len ≤ nI i) from fun q => by have := (nI_leI (by omega) (by omega)).mp q; omega), gd_i (by omega) (by decide), nI_clamp (by omega), (T.2.2 i h.1).1, if_neg (show ¬ (nI (tx i) < (48 : Int32)) from nI_nlt (a := tx i) (b := 48) h.2.1 (by omega)), gd_i (by omega) (by decide), if_pos (show nI (tx i) ≤ (57 : Int32) from nI_le (b := 57) h.2.2 (by decide)), p1, up_eq, show nI (i + 1) - 1 = nI i from pk_sub (a := i + 1) (b := 1) (by omega), gd_i (by omega) (by decide), nI_clamp (by omega), up_oth _ _ _ (by decide), (T.2.2 i h.1).1, l48 h.2.1]
theorem c_figF (T : TC σ len tx) (hi : σ 1 2 = nI i) (hil : i ≤ len) (h : ¬ (i < len ∧ 48 ≤ tx i ∧ tx i ≤ 57)) : f_X6_readFigure σ = some (σ, -4) := by
  have hl := T.1
  unfold f_X6_readFigure
  rw [T.2.1, hi, if_le (by omega) (by omega)]
  by_cases e : i < len
  · have hb := (T.2.2 i e).2
    rw [if_neg (by omega), gd_i (by omega) (by decide), nI_clamp (by omega), (T.2.2 i e).1]
    by_cases e2 : 48 ≤ tx i
    · rw [if_neg (show ¬ (nI (tx i) < (48 : Int32)) from nI_nlt (a := tx i) (b := 48) e2 (by omega)), gd_i (by omega) (by decide), if_neg (show ¬ (nI (tx i) ≤ (57 : Int32)) from fun q => by have := (nI_leI (b := 57) (by omega) (by decide)).mp q; omega)]
    · rw [if_pos (show nI (tx i) < (48 : Int32) from nI_lt (b := 48) (by omega) (by decide))]
  · rw [if_pos (by omega)]
theorem c_letT (T : TC σ len tx) (hi : σ 1 2 = nI i) (h : i < len ∧ 97 ≤ tx i ∧ tx i ≤ 122) : f_X6_readLetter σ = some (up σ 1 2 (nI (i + 1)), nI (tx i - 96)) := by
  have hl := T.1
  unfold f_X6_readLetter
  rw [T.2.1, hi, if_neg (show ¬ (nI len ≤ nI i) from fun q => by have := (nI_leI (by omega) (by omega)).mp q; omega), gd_i (by omega) (by decide), nI_clamp (by omega), (T.2.2 i h.1).1, if_neg (show ¬ (nI (tx i) < (97 : Int32)) from nI_nlt (a := tx i) (b := 97) h.2.1 (by omega)), gd_i (by omega) (by decide), if_pos (show nI (tx i) ≤ (122 : Int32) from nI_le (b := 122) h.2.2 (by decide)), p1, up_eq, show nI (i + 1) - 1 = nI i from pk_sub (a := i + 1) (b := 1) (by omega), gd_i (by omega) (by decide), nI_clamp (by omega), up_oth _ _ _ (by decide), (T.2.2 i h.1).1, l97 h.2.1, p1, show tx i - 97 + 1 = tx i - 96 by omega]
theorem c_letF (T : TC σ len tx) (hi : σ 1 2 = nI i) (hil : i ≤ len) (h : ¬ (i < len ∧ 97 ≤ tx i ∧ tx i ≤ 122)) : f_X6_readLetter σ = some (σ, -4) := by
  have hl := T.1
  unfold f_X6_readLetter
  rw [T.2.1, hi, if_le (by omega) (by omega)]
  by_cases e : i < len
  · have hb := (T.2.2 i e).2
    rw [if_neg (by omega), gd_i (by omega) (by decide), nI_clamp (by omega), (T.2.2 i e).1]
    by_cases e2 : 97 ≤ tx i
    · rw [if_neg (show ¬ (nI (tx i) < (97 : Int32)) from nI_nlt (a := tx i) (b := 97) e2 (by omega)), gd_i (by omega) (by decide), if_neg (show ¬ (nI (tx i) ≤ (122 : Int32)) from fun q => by have := (nI_leI (b := 122) (by omega) (by decide)).mp q; omega)]
    · rw [if_pos (show nI (tx i) < (97 : Int32) from nI_lt (b := 97) (by omega) (by decide))]
  · rw [if_pos (by omega)]
theorem c_numS (T : TC σ len tx) (hi : σ 1 2 = nI i) {v j : Nat} (h : nm tx len i = some (v, j)) : f_X6_readNumber σ = some (up σ 1 2 (nI j), nI v) := by
  have hl := T.1
  unfold nm at h
  unfold f_X6_readNumber
  by_cases e : i < len ∧ 48 ≤ tx i ∧ tx i ≤ 57
  · rw [if_pos e] at h
    rw [c_figT T hi e, bs, if_neg (nI_m4 (by omega))]
    have T2 : TC (up σ 1 2 (nI (i + 1))) len tx := T.cg (FC.at (D := 9) _ (by decide)) (by decide)
    by_cases e2 : i + 1 < len ∧ 48 ≤ tx (i + 1) ∧ tx (i + 1) ≤ 57
    · rw [if_pos e2] at h
      cases h
      rw [c_figT T2 (up_eq _ _ _ _) e2, bs, if_neg (nI_m4 (by omega)), up_up, u10, nI_add]
    · rw [if_neg e2] at h
      cases h
      rw [c_figF T2 (up_eq _ _ _ _) (by omega) e2, bs, if_pos rfl]
  · rw [if_neg e] at h; cases h
theorem c_numN (T : TC σ len tx) (hi : σ 1 2 = nI i) (hil : i ≤ len) (h : nm tx len i = none) : f_X6_readNumber σ = some (σ, -4) := by
  unfold nm at h
  unfold f_X6_readNumber
  by_cases e : i < len ∧ 48 ≤ tx i ∧ tx i ≤ 57
  · rw [if_pos e] at h
    by_cases e2 : i + 1 < len ∧ 48 ≤ tx (i + 1) ∧ tx (i + 1) ≤ 57
    · rw [if_pos e2] at h; cases h
    · rw [if_neg e2] at h; cases h
  · rw [c_figF T hi hil e, bs, if_pos rfl]
theorem m_byte (T : TM τ len tx) (hil : i ≤ 300) : f_X8_byteAt τ (nI i) = some (if i < len then nI (tx i) else 0) := by
  have hl := T.1
  unfold f_X8_byteAt
  rw [T.2.1, if_le (by omega) (by omega)]
  by_cases e : i < len
  · rw [if_neg (by omega), gd_i (by omega) (by decide), nI_clamp (by omega), (T.2.2 i e).1, if_pos e]
  · rw [if_pos (by omega), if_neg e]
theorem m_gone (T : TM τ len tx) (hi : τ 0 2 = nI i) (hil : i ≤ 300) {c : Nat} (hc : c ≤ 126) (hc0 : 1 ≤ c) : f_X8_gone τ (nI c) = some (up τ 0 2 (nI (i + 1)), decide (i < len ∧ tx i = c)) := by
  unfold f_X8_gone
  rw [hi, m_byte T hil, bs, p1]
  by_cases e : i < len
  · have hb := (T.2.2 i e).2
    rw [if_pos e, if_eq (by omega) (by omega)]
    by_cases e2 : tx i = c
    · rw [if_pos e2, decide_eq_true ⟨e, e2⟩]
    · rw [if_neg e2, decide_eq_false (fun q => e2 q.2)]
  · rw [if_neg e, if_neg (show ¬ ((0 : Int32) = nI c) from fun q => nI_ne0 hc0 (by omega) q.symm), decide_eq_false (fun q => e q.1)]
theorem m_dig (T : TM τ len tx) (hil : i ≤ 300) : (f_X8_in (if i < len then nI (tx i) else 0).toInt64 48 57) = some (decide (i < len ∧ 48 ≤ tx i ∧ tx i ≤ 57)) := by
  rw [fi _ 48 57 (by decide) (by decide)]
  by_cases e : i < len
  · have hb := (T.2.2 i e).2
    rw [if_pos e]
    by_cases e2 : 48 ≤ tx i ∧ tx i ≤ 57
    · rw [rng_tl (y := 48) (z := 57) (a := 48) (b := 57) rfl rfl e2.1 e2.2 (by decide), decide_eq_true ⟨e, e2⟩]
    · rw [decide_eq_false (fun q => e2 q.2)]
      cases hq : rng (nI (tx i)) 48 57 with
      | false => rfl
      | true =>
        obtain ⟨j, h1, h2, h3⟩ := rng_el (a := 48) (b := 57) rfl rfl (by decide) (by decide) hq
        have := (nI_eq (by omega) (by omega)).mp h3
        exact absurd ⟨by omega, by omega⟩ e2
  · rw [if_neg e, decide_eq_false (fun q => e q.1)]; decide
theorem n68 (τ : Me) {to : Nat} (hto : to < 25) (lo hi : Int32) (v : Int32) {n : Nat} (h1 : 1 ≤ n) (h2 : n < 2 ^ 31) : f_X8_number2_68 τ (nI to) lo hi v (nI n) = some (up τ 3 to v, rng v lo hi) := by
  unfold f_X8_number2_68
  rw [gd_i hto (by decide), nI_clamp (by omega), if_neg (show ¬ (nI n ≤ (0 : Int32)) from nI_nle h1 h2), fi v lo hi rfl rfl, bs]
  cases rng v lo hi with
  | false => rw [if_pos bIf]
  | true => rw [if_neg bIt]
theorem m_numN (T : TM τ len tx) (hi : τ 0 2 = nI i) (hil : i ≤ len) {to : Nat} (hto : to < 25) (lo hi' : Int32) (h : nm tx len i = none) : f_X8_number2 τ (nI to) lo hi' = some (up τ 3 to 0, false) := by
  have hl := T.1
  unfold nm at h
  have e : ¬ (i < len ∧ 48 ≤ tx i ∧ tx i ≤ 57) := by
    intro e
    rw [if_pos e] at h
    by_cases e2 : i + 1 < len ∧ 48 ≤ tx (i + 1) ∧ tx (i + 1) ≤ 57
    · rw [if_pos e2] at h; cases h
    · rw [if_neg e2] at h; cases h
  have key : ∀ n, f_X8_number2_6 (n + 1) τ (nI to) lo hi' 0 0 = some (up τ 3 to 0, false) := by
    intro n
    rw [f_X8_number2_6, if_neg (show ¬ ((2 : Int32) ≤ 0) by decide), hi, m_byte T (by omega), bs, m_dig T (by omega), bs, decide_eq_false e, if_pos bIf]
    unfold f_X8_number2_68
    rw [gd_i hto (by decide), nI_clamp (by omega), if_pos (show (0 : Int32) ≤ 0 by decide)]
  exact key 999
theorem m_numS (T : TM τ len tx) (hi : τ 0 2 = nI i) {to : Nat} (hto : to < 25) (lo hi' : Int32) {v j : Nat} (h : nm tx len i = some (v, j)) : f_X8_number2 τ (nI to) lo hi' = some (up (up τ 0 2 (nI j)) 3 to (nI v), rng (nI v) lo hi') := by
  have hl := T.1
  have hn := nm_some h
  unfold nm at h
  by_cases e : i < len ∧ 48 ≤ tx i ∧ tx i ≤ 57
  · rw [if_pos e] at h
    have T2 : TM (up τ 0 2 (nI (i + 1))) len tx := T.cg (FM.sp _)
    have key : ∀ n, f_X8_number2_6 (n + 3) τ (nI to) lo hi' 0 0 = some (up (up τ 0 2 (nI j)) 3 to (nI v), rng (nI v) lo hi') := by
      intro n
      rw [f_X8_number2_6, if_neg (show ¬ ((2 : Int32) ≤ 0) by decide), hi, m_byte T (by omega), bs, m_dig T (by omega), bs, decide_eq_true e, if_neg bIt, bs, if_pos e.1, p1, show (10 : Int32) * 0 + nI (tx i) - 48 = nI (tx i - 48) from by rw [show (10 : Int32) * 0 = nI 0 from rfl, nI_add, Nat.zero_add, l48 e.2.1], show (0 : Int32) + 1 = nI 1 from rfl, f_X8_number2_6, if_neg (show ¬ ((2 : Int32) ≤ nI 1) by decide), up_eq, m_byte T2 (by omega), bs, m_dig T2 (by omega), bs]
      by_cases e2 : i + 1 < len ∧ 48 ≤ tx (i + 1) ∧ tx (i + 1) ≤ 57
      · rw [if_pos e2] at h
        cases h
        rw [decide_eq_true e2, if_neg bIt, bs, if_pos e2.1, p1, up_up, u10, nI_add, l48 (by omega), p1, f_X8_number2_6, if_pos (show (2 : Int32) ≤ nI (1 + 1) by decide), n68 _ hto _ _ _ (by decide) (by decide), show 10 * (tx i - 48) + tx (i + 1) - 48 = 10 * (tx i - 48) + (tx (i + 1) - 48) by omega]
      · rw [if_neg e2] at h
        cases h
        rw [decide_eq_false e2, if_pos bIf, n68 _ hto _ _ _ (by decide) (by decide)]
    exact key 997
  · rw [if_neg e] at h; cases h
end RT
