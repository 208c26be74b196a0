def tw0 : Me := fun k j => if k = 0 then (if j = 0 then 38 else 0) else if k = 1 then ftB.getD j 0 else 0
def tg0 : List Int32 := [4, 2, 0, 0, 1, 0, 10, 5, 0, 0, 3, 1, 3, 9, 0, 0, 5, 2, 6, 0, 0, 0, 2, 3, 12]
set_option maxRecDepth 100000 in
theorem ev_lay : (f_X8_lay tw0).map (fun p => (p.2, (List.range 25).map (p.1 2), (List.range 112).map (p.1 4), p.1 0 7, p.1 0 0)) = some (3, tg0, List.replicate 112 0, 0, 38) := by decide +kernel
/-- the reference's first memory -/
def mz : Me := fun _ _ => 0
def m1 : Me := up (up mz 2 0 4) 2 1 2
def m2 : Me := (f_X8_adds m1 1 0 10 5).getD mz
def m3 : Me := (f_X8_adds m2 3 1 3 9).getD mz
def m4 : Me := (f_X8_adds m3 5 2 6 0).getD mz
def m5 : Me := up (up m4 2 22 2) 2 24 12
theorem is_get {α : Type} {o : Option α} {d : α} (h : o.isSome = true) : o = some (o.getD d) := by
  cases o with
  | none => cases h
  | some a => rfl
theorem e_m2 : f_X8_adds m1 1 0 10 5 = some m2 := is_get (by decide +kernel)
theorem e_m3 : f_X8_adds m2 3 1 3 9 = some m3 := is_get (by decide +kernel)
theorem e_m4 : f_X8_adds m3 5 2 6 0 = some m4 := is_get (by decide +kernel)
set_option maxRecDepth 100000 in
theorem ev_m5 : ((List.range 25).map (m5 2), (List.range 112).map (m5 4), m5 0 7, m5 0 0) = (tg0, List.replicate 112 0, 0, 0) := by decide +kernel
theorem ran_at {n : Nat} {f g : Nat → Int32} (h : (List.range n).map f = (List.range n).map g) {j : Nat} (hj : j < n) : f j = g j := by
  have h1 := congrArg (fun l => l[j]?) h
  simp only [List.getElem?_map, List.getElem?_range hj, Option.map_some] at h1
  exact Option.some.inj h1
theorem Inv.cgT {σ τ τ' : Me} (I : Inv σ τ) (h0 : τ 0 0 = 0) (h0' : τ' 0 0 = 0) (h7 : τ 0 7 = 0) (h7' : τ' 0 7 = 0) (h2 : ∀ j, j < 25 → τ' 2 j = τ 2 j) (h4 : ∀ j, j < 112 → τ' 4 j = τ 4 j) : Inv σ τ' := by
  obtain ⟨P, Dd, g, kept, hs, len, tx, hD, hPD, h04, Q, Ih, It⟩ := I
  obtain ⟨hk, h03, V, H, T, S, L, R⟩ := Q
  have k0 : kept = 0 := by
    by_cases e : kept = 0
    · exact e
    · exact absurd (Ih.2.2.1.symm.trans h7) (nI_ne0 (by omega) (by have := Ih.1; omega))
  have l0 : len = 0 := by
    by_cases e : len = 0
    · exact e
    · exact absurd (It.2.2.1.symm.trans h0) (nI_ne0 (by omega) (by have := It.1; omega))
  subst k0; subst l0
  refine ⟨P, Dd, g, 0, hs, 0, tx, hD, hPD, h04, ⟨hk, h03, V, H, fun j hj => ?_, fun j hj => ?_, L, R⟩, ⟨Ih.1, Ih.2.1, h7', Ih.2.2.2.1, fun j hj => absurd hj (Nat.not_lt_zero j), fun j hj => absurd hj (Nat.not_lt_zero j)⟩, It.1, It.2.1, h0', fun i hi => absurd hi (Nat.not_lt_zero i)⟩
  · rw [h2 j hj]; exact T j hj
  · rw [h4 j hj]; exact S j hj
/-- the class's first memory, before the first text is read -/
def sz0 : Me := fun k j => if k = 0 then (if j = 3 then 9 else if j = 4 then 30 else 0) else if k = 7 then -1 else 0
def LI (i : Nat) (σ : Me) : Prop := σ 1 1 = nI i ∧ (∀ j, j < i → σ 2 j = ftB.getD j 0) ∧ ∀ k, k ≠ 1 → k ≠ 2 → σ k = sz0 k
theorem LI.zero : LI 0 sz0 := ⟨rfl, fun j hj => absurd hj (Nat.not_lt_zero j), fun _ _ _ => rfl⟩
theorem ft_and : ∀ i, i < 38 → ftB.getD i 0 &&& 255 = ftB.getD i 0 := by decide +kernel
theorem ft_nI : ∀ i, i < 38 → ftB.getD i 0 = nI (ftB.getD i 0).toNatClampNeg ∧ 32 ≤ (ftB.getD i 0).toNatClampNeg ∧ (ftB.getD i 0).toNatClampNeg ≤ 126 := by decide +kernel
theorem LI.step {i : Nat} {σ : Me} (h : LI i σ) (hi : i < 38) : ∃ σ', f_X6_append σ (ftB.getD i 0 &&& 255) = some (σ', true) ∧ LI (i + 1) σ' := by
  obtain ⟨h1, h2, h3⟩ := h
  unfold f_X6_append
  rw [if_pos (show σ 1 1 < 200 by rw [h1]; exact nI_lt (b := 200) (by omega) (by decide)), h1, gd_i (by omega) (by decide), nI_clamp (by omega)]
  refine ⟨_, rfl, ?_, fun j hj => ?_, fun k k1 k2 => ?_⟩
  · rw [up_eq, up_ne _ _ (by omega), h1, ← nI_succ]
  · rw [up_oth _ _ _ (by decide)]
    by_cases e : j = i
    · rw [e, up_eq, ft_and i hi]
    · rw [up_ne _ _ (by omega)]; exact h2 j (by omega)
  · rw [up_oth _ _ _ k1, up_oth _ _ _ k2]; exact h3 k k1 k2
theorem LI.inv {σ : Me} (h : LI 38 σ) : Inv σ tw0 := by
  obtain ⟨h1, h2, h3⟩ := h
  have hz : ∀ k, k ≠ 0 → k ≠ 1 → k ≠ 2 → k ≠ 7 → ∀ j, σ k j = 0 := fun k a b c d j => by
    rw [h3 k b c]; unfold sz0; rw [if_neg a, if_neg d]
  refine ⟨9, 30, fun _ => 0, 0, fun _ _ => 0, 38, fun i => (ftB.getD i 0).toNatClampNeg, by decide, by decide, ?_, ⟨by decide, ?_, ⟨⟨by decide, by decide, by decide, fun p _ => Nat.zero_le _, fun s _ => ⟨Nat.zero_le _, Nat.zero_le _, fun p _ => Nat.zero_le _⟩⟩, fun s hs => absurd hs (Nat.not_lt_zero s)⟩, ⟨Nat.zero_le _, fun s _ p _ => Nat.zero_le _, fun s _ p _ _ => rfl, fun i hi => absurd hi (Nat.not_lt_zero i)⟩, fun j _ => rfl, fun j _ => rfl, ⟨?_, ?_, ?_, fun p hp => absurd hp (Nat.not_lt_zero p), fun s hs => absurd hs (Nat.not_lt_zero s)⟩, ⟨?_, ?_, fun i hi => absurd hi (Nat.not_lt_zero i)⟩⟩, ⟨by decide, ?_, rfl, fun j _ => ⟨Nat.zero_le _, fun s _ p _ => Nat.zero_le _, fun s _ p _ _ => rfl, fun i hi => absurd hi (Nat.not_lt_zero i)⟩, fun j hj => absurd hj (Nat.not_lt_zero j), fun j hj => absurd hj (Nat.not_lt_zero j)⟩, by decide, h1, rfl, fun i hi => ?_⟩
  · rw [h3 0 (by decide) (by decide)]; rfl
  · rw [h3 0 (by decide) (by decide)]; rfl
  · exact hz 9 (by decide) (by decide) (by decide) (by decide) 2
  · exact hz 9 (by decide) (by decide) (by decide) (by decide) 3
  · exact hz 9 (by decide) (by decide) (by decide) (by decide) 4
  · exact hz 3 (by decide) (by decide) (by decide) (by decide) 2
  · exact hz 3 (by decide) (by decide) (by decide) (by decide) 3
  · exact hz 6 (by decide) (by decide) (by decide) (by decide) 2
  · have q := ft_nI i hi
    exact ⟨(h2 i hi).trans q.1, q.1, q.2.1, q.2.2⟩
/-- the first text, laid; then the text wiped: beside the reference's first memory -/
theorem first_lay {σ : Me} (h : LI 38 σ) : ∃ σ', f_X7_layText σ = some (σ', true) ∧ Inv (up σ' 1 1 0) m5 := by
  obtain ⟨σ', τ', r, h1, h2, I⟩ := s_lay h.inv
  have ev := ev_lay
  rw [h2] at ev
  have e1 : (r, (List.range 25).map (τ' 2), (List.range 112).map (τ' 4), τ' 0 7, τ' 0 0) = ((3 : Int32), tg0, List.replicate 112 (0 : Int32), (0 : Int32), (38 : Int32)) := Option.some.inj ev
  have er : r = 3 := congrArg (fun x => x.1) e1
  have e2 : (List.range 25).map (τ' 2) = tg0 := congrArg (fun x => x.2.1) e1
  have e4 : (List.range 112).map (τ' 4) = List.replicate 112 (0 : Int32) := congrArg (fun x => x.2.2.1) e1
  have e7 : τ' 0 7 = 0 := congrArg (fun x => x.2.2.2.1) e1
  have f2 : (List.range 25).map (m5 2) = tg0 := congrArg (fun x => x.1) ev_m5
  have f4 : (List.range 112).map (m5 4) = List.replicate 112 (0 : Int32) := congrArg (fun x => x.2.1) ev_m5
  have f7 : m5 0 7 = 0 := congrArg (fun x => x.2.2.1) ev_m5
  have f0 : m5 0 0 = 0 := congrArg (fun x => x.2.2.2) ev_m5
  obtain ⟨σ2, τ2, r2, w1, w2, I2⟩ := s_wipe I
  have w2' : τ2 = up τ' 0 0 0 := (congrArg Prod.fst (Option.some.inj (w2.symm.trans (show f_X8_wipe τ' = some (up τ' 0 0 0, τ' 0 0) from rfl))))
  subst w2'
  have J := I2.cgT (τ' := m5) (up_eq _ _ _ _) f0 (by rw [up_ne _ _ (by decide)]; exact e7) f7 (fun j hj => by rw [up_oth _ _ _ (by decide)]; exact ran_at (f2.trans e2.symm) hj) (fun j hj => by rw [up_oth _ _ _ (by decide)]; exact ran_at (f4.trans e4.symm) hj)
  unfold f_X7_lay at h1
  obtain ⟨a, b, k1, k2⟩ := bd2_some h1
  cases b with
  | false =>
    rw [if_pos bIf] at k2
    have : (-2 : Int32) = r := congrArg Prod.snd (Option.some.inj k2)
    rw [er] at this
    exact absurd this (by decide)
  | true =>
    rw [if_neg bIt] at k2
    have k3 := (gd_some k2).2
    have ea : a = σ' := congrArg Prod.fst (Option.some.inj k3)
    subst ea
    refine ⟨a, k1, ?_⟩
    have u1 : f_X7_wipe a = some (up a 1 1 0, a 1 1) := rfl
    have ew : σ2 = up a 1 1 0 := congrArg Prod.fst (Option.some.inj (w1.symm.trans u1))
    rw [← ew]
    exact J
