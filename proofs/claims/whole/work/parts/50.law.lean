def wz (cI cH cE cJ : ClassId) (a b : Nat → Nat) (z : Me × Me) : va_W := wc cI cH cE a z.1 ++ wm cJ b z.2
theorem wc_len {cI cH cE : ClassId} {a : Nat → Nat} {σ : Me} : (wc cI cH cE a σ).length = 51 := by simp [wc]
theorem wz_0 {cI cH cE cJ : ClassId} {a b : Nat → Nat} {σ τ : Me} : (wz cI cH cE cJ a b (σ, τ))[0]? = some (a 0, .inr (6, [.ref (a 1), .ref (a 3), .ref (a 6), .ref (a (σ 0 3).toNatClampNeg), .ref (a (σ 0 4).toNatClampNeg)])) := by
  unfold wz
  rw [List.getElem?_append_left (by rw [wc_len]; decide)]
  exact wc_0
theorem wz_51 {cI cH cE cJ : ClassId} {a b : Nat → Nat} {σ τ : Me} : (wz cI cH cE cJ a b (σ, τ))[51]? = some (b 0, .inr (7, [.int (τ 0 0), .ref (b 1), .int (τ 0 2), .ref (b 2), .ref (b 3), .ref (b 4), .ref (b 5), .int (τ 0 7)])) := by
  unfold wz
  rw [List.getElem?_append_right (by rw [wc_len]; decide), wc_len]
  exact wm_0
def LV (a b : Nat → Nat) (sb i : Nat) : List (Nat × Value) := [(3, .int (nI i)), (2, .ref (b 0)), (1, .ref (a 0)), (0, .ref sb)]
def xa (xs : Nat → Int32) (i : Nat) (v : Int32) : Int32 := xs (nI i + v).toNatClampNeg
section LW
variable {p : Program} {l : Launch} {e : Env} {s : State} {m : MethodId} {args : Array Value} {below : List Frame} {meth : Method} {c : Code} {D : va_G} {cI cH cE cJ : ClassId} {a b : Nat → Nat} {nc ns : Nat} {Q : State → Prop} {σ σ1 τ τ1 : Me} {sb L i : Nat} {xs : Nat → Int32} {pc : Nat} {st : List Value} {z : Me × Me} {lv : List (Nat × Value)}
/-- what the law's walk stands on -/
def LX (p : Program) (s : State) (m : MethodId) (args : Array Value) (meth : Method) (c : Code) (D : va_G) (cI cH cE cJ : ClassId) (a b : Nat → Nat) (sb L : Nat) (xs : Nat → Int32) (nc ns : Nat) : Prop :=
  Cx p s m args meth c cL_law 4 "NotePressLaw" D (tyc cI cH cE cJ) P0 (wz cI cH cE cJ a b) ∧ (∀ σ, va_D (Pc a) (wc cI cH cE a σ)) ∧ (∀ τ, va_D (Pm b) (wm cJ b τ)) ∧ (∀ i j, i < 51 → j < 6 → a i ≠ b j) ∧ (∀ x, Pc a x → fR P0 s.heap.size x) ∧ (∀ x, Pm b x → fR P0 s.heap.size x) ∧ (va_X sb L xs s s.heap ∧ sb < s.heap.size ∧ L ≤ 2560) ∧ nc ≤ room_1.cells ∧ ns ≤ room_1.slots
theorem jc (hw : ∀ τ, va_D (Pm b) (wm cJ b τ)) (hd : ∀ i j, i < 51 → j < 6 → a i ≠ b j) {A : Nat → Prop} (hA : ∀ x, Pc a x → A x) : jW D (wz cI cH cE cJ a b) (wc cI cH cE a) (Pc a) A (σ, τ) (σ1, τ) σ σ1 := by
  unfold jW
  refine ⟨fun H h => (P_pre h).1, fun H H1 h h1 hk => ?_, hA⟩
  refine va_P.app h1 ((P_pre h).2.kept (fun k q hq => ?_))
  have hl := ((P_pre h).2 k q hq).lt
  refine hk q.1 hl (fun hz => ?_)
  rcases hz with hz | hz
  · obtain ⟨i, hi, ei⟩ := hz
    obtain ⟨j, hj, ej⟩ := (hw τ).2 k q hq
    exact hd i j hi hj (ei.symm.trans ej)
  · omega
theorem jm (hw : ∀ σ, va_D (Pc a) (wc cI cH cE a σ)) (hd : ∀ i j, i < 51 → j < 6 → a i ≠ b j) {A : Nat → Prop} (hA : ∀ x, Pm b x → A x) : jW D (wz cI cH cE cJ a b) (wm cJ b) (Pm b) A (σ, τ) (σ, τ1) τ τ1 := by
  unfold jW
  refine ⟨fun H h => (P_pre h).2, fun H H1 h h1 hk => ?_, hA⟩
  refine va_P.app ((P_pre h).1.kept (fun k q hq => ?_)) h1
  have hl := ((P_pre h).1 k q hq).lt
  refine hk q.1 hl (fun hz => ?_)
  rcases hz with hz | hz
  · obtain ⟨j, hj, ej⟩ := hz
    obtain ⟨i, hi, ei⟩ := (hw σ).2 k q hq
    exact hd i j hi hj (ei.symm.trans ej)
  · omega
theorem g_sld (X : LX p s m args meth c D cI cH cE cJ a b sb L xs nc ns) {j : Int32} (hin : vp_in j L) (d : decode cL_law pc = .ok (.iaload, 1)) (k : Gg p l e room_1 s m args below meth c D P0 (wz cI cH cE cJ a b) 4 nc ns Q z lv (pc + 1) (.int (xs j.toNatClampNeg) :: st)) : Gg p l e room_1 s m args below meth c D P0 (wz cI cH cE cJ a b) 4 nc ns Q z lv pc (.int j :: .ref sb :: st) := fun H locs ls hP hS hl =>
  va_sld X.1.1.1 X.1.1.2.1 X.2.2.2.2.2.2.1.1 X.2.2.2.2.2.2.1.2.1 (fun h => by
    rcases h with h | h
    · exact False.elim h
    · have := X.2.2.2.2.2.2.1.2.1; omega) hS hin d (k H locs ls hP hS hl)
theorem g_slen (X : LX p s m args meth c D cI cH cE cJ a b sb L xs nc ns) (d : decode cL_law pc = .ok (.arraylength, 1)) (k : Gg p l e room_1 s m args below meth c D P0 (wz cI cH cE cJ a b) 4 nc ns Q z lv (pc + 1) (.int (nI L) :: st)) : Gg p l e room_1 s m args below meth c D P0 (wz cI cH cE cJ a b) 4 nc ns Q z lv pc (.ref sb :: st) := fun H locs ls hP hS hl =>
  va_slen X.1.1.1 X.1.1.2.1 X.2.2.2.2.2.2.1.1 X.2.2.2.2.2.2.1.2.1 (fun h => by
    rcases h with h | h
    · exact False.elim h
    · have := X.2.2.2.2.2.2.1.2.1; omega) hS d (k H locs ls hP hS hl)
theorem vin {k : Nat} (h : i + k < L) (hL : L ≤ 2560) : vp_in (nI i + nI k) L := by
  rw [nI_add (a := i) (b := k)]
  exact vp_in_nI h (by omega)
theorem g_arg (X : LX p s m args meth c D cI cH cE cJ a b sb L xs nc ns) {n : Int} (k0 : Nat) (d0 : decode cL_law pc = .ok (.aload_n 0, 1)) (d1 : decode cL_law (pc + 1) = .ok (.iload_n 3, 1)) (d2 : decode cL_law (pc + 2) = .ok (.iconst n, 1)) (hv : Int32.ofInt n = nI k0) (d3 : decode cL_law (pc + 3) = .ok (.iadd, 1)) (d4 : decode cL_law (pc + 4) = .ok (.iaload, 1)) (h : i + k0 < L) (k : Gg p l e room_1 s m args below meth c D P0 (wz cI cH cE cJ a b) 4 nc ns Q z (LV a b sb i) (pc + 5) (.int (xa xs i (nI k0)) :: st)) : Gg p l e room_1 s m args below meth c D P0 (wz cI cH cE cJ a b) 4 nc ns Q z (LV a b sb i) pc st := by
  refine g_aload_n X.1 d0 3 rfl rfl ?_
  refine g_iload_n X.1 d1 0 rfl rfl ?_
  refine g_iconst X.1 d2 hv ?_
  refine g_iadd X.1 d3 ?_
  exact g_sld X (vin h X.2.2.2.2.2.2.1.2.2) d4 k
end LW
