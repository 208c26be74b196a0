/-- a world that grows -/
def SW (A : Nat → Prop) : Type := { ws : va_W // va_D A ws }
def swv {A : Nat → Prop} (x : SW A) : va_W := x.1
def rmc (d k n : Nat) : Room := { frames := d, cells := k, slots := n, locals := 40 * d }
def pq (q : Nat) : Nat → Prop := fun x => x = q
def qN (D : va_G) (Wn : (Nat → Nat) → va_W) (q sz : Nat) : Array Value → State → Outcome → State → Prop := va_Qv (fun (_ : Nat → Nat) => True) (fun a t => va_P D vwCl (Wn a) t.heap ∧ va_D (fR (pq q) sz) (Wn a)) (fR (pq q) sz)
/-- a constructor's contract: from a fresh object at q to a world Wn a -/
def Nq (l : Launch) (D : va_G) (tys : List (ClassId × FieldType)) (y : MethodName) (cc : ByteArray) (nL d mc ms q : Nat) (e0 : va_E) (Wn : (Nat → Nat) → va_W) : Prop :=
  ∀ sz : Nat, Met l y (Cond.code y cc nL none :: tB) (rmc d mc ms) (va_Pc [.ref q] (pR D tys (fun _ : Unit => [(q, e0)]) (pq q) () sz)) (qN D Wn q sz) mc ms (fR (pq q) sz)
theorem one_D {A : Nat → Prop} {q : Nat} {e0 : va_E} (h : A q) : va_D A [(q, e0)] := by
  refine ⟨fun i j x y hi hj _ => ?_, fun k x hk => ?_⟩
  · have h1 : i < 1 := (List.getElem?_eq_some_iff.mp hi).1
    have h2 : j < 1 := (List.getElem?_eq_some_iff.mp hj).1
    omega
  · have h1 : k < 1 := (List.getElem?_eq_some_iff.mp hk).1
    obtain rfl : k = 0 := by omega
    cases hk
    exact h
theorem nOf {l : Launch} {D : va_G} {tys : List (ClassId × FieldType)} {y : MethodName} {cc : ByteArray} {nL d mc ms q : Nat} {e0 : va_E} {Wn : (Nat → Nat) → va_W} (hy : plainFor y = true) (hyn : y.name = "<init>") (hn : 1 ≤ nL)
    (body : ∀ (p : Program) (e : Env) (s : State) (m : MethodId) (args : Array Value) (below : List Frame) (meth : Method) (c : Code) (σ : SW (fR (pq q) s.heap.size)), swv σ = [(q, e0)] → Cx p s m args meth c cc nL y.cls D tys (pq q) (swv (A := fR (pq q) s.heap.size)) → meth.name = "<init>" → meth.sig.returnType = none → Gg p l e (rmc d mc ms) s m args below meth c D (pq q) swv nL 0 0 (MQ below (qN D Wn q s.heap.size) args s mc ms (fR (pq q) s.heap.size)) σ [(0, .ref q)] 0 []) : Nq l D tys y cc nL d mc ms q e0 Wn := by
  intro sz
  refine va_MetF (cc := cc) (maxL := nL) (ret := none) hy rfl ?_
  intro p e s m args below meth c s₁ B hml hv
  obtain ⟨rfl, hsz, hP, hK, hN, hT⟩ := hv
  subst hsz
  have hts := atoms_spec (ws := Cond.code y cc nL none :: tB) B.pre
  have C : Cx p s m ([Value.ref q]).toArray meth c cc nL y.cls D tys (pq q) (swv (A := fR (pq q) s.heap.size)) := ⟨⟨B.exec, B.bytes, hml, findClass_of_methodNamed B.named, fun w h => hts w (List.mem_cons_of_mem _ h)⟩, hK, fun σ => σ.2, B.notSynchronized, hN, hT⟩
  have hl := lv_entry [Value.ref q] (n := nL) hn
  rw [lg_entry_eq]
  exact body p e s m _ below meth c ⟨[(q, e0)], one_D (Or.inl rfl)⟩ rfl C ((name_of_methodNamed B.named B.method).1.trans hyn) B.returns s.heap [] _ hP va_S.rf hl
theorem D_pre {A : Nat → Prop} {u v : va_W} (h : va_D A (u ++ v)) : va_D A u := by
  have key : ∀ (k : Nat) (x : Nat × va_E), u[k]? = some x → (u ++ v)[k]? = some x := fun k x hk => by
    rw [List.getElem?_append_left (List.getElem?_eq_some_iff.mp hk).1]; exact hk
  exact ⟨fun i j x y hi hj e => h.1 i j x y (key i x hi) (key j y hj) e, fun k x hk => h.2 k x (key k x hk)⟩
theorem P_pre {D : va_G} {u v : va_W} {H : Heap} (h : va_P D vwCl (u ++ v) H) : va_P D vwCl u H ∧ va_P D vwCl v H := by
  refine ⟨fun k x hk => ?_, fun k x hk => ?_⟩
  · exact h k x (by rw [List.getElem?_append_left (List.getElem?_eq_some_iff.mp hk).1]; exact hk)
  · exact h (u.length + k) x (by rw [List.getElem?_append_right (by omega), show u.length + k - u.length = k by omega]; exact hk)
/-- the cells before the last are apart from it and from what is made later -/
theorem pre_out {A : Nat → Prop} {D : va_G} {u : va_W} {q : Nat} {e0 : va_E} {H : Heap} (hD : va_D A (u ++ [(q, e0)])) (hP : va_P D vwCl (u ++ [(q, e0)]) H) : ∀ (k : Nat) (x : Nat × va_E), u[k]? = some x → x.1 < H.size ∧ ¬ fR (pq q) H.size x.1 := by
  intro k x hk
  have h1 := (List.getElem?_eq_some_iff.mp hk).1
  have h2 : (u ++ [(q, e0)])[k]? = some x := by rw [List.getElem?_append_left h1]; exact hk
  have h3 := (hP k x h2).lt
  refine ⟨h3, fun h => ?_⟩
  rcases h with h | h
  · have h4 : (u ++ [(q, e0)])[u.length]? = some (q, e0) := by rw [List.getElem?_append_right (Nat.le_refl _)]; simp
    have := hD.1 k u.length x (q, e0) h2 h4 h
    omega
  · omega
theorem con_join {A : Nat → Prop} {D : va_G} {u v : va_W} {q : Nat} {e0 : va_E} {H H1 : Heap} (hD : va_D A (u ++ [(q, e0)])) (hP : va_P D vwCl (u ++ [(q, e0)]) H) (hk : ∀ x : Nat, x < H.size → ¬ fR (pq q) H.size x → H1[x]? = H[x]?) (hv : va_P D vwCl v H1) (hDv : va_D (fR (pq q) H.size) v) (hF : ∀ x, fR (pq q) H.size x → A x) : va_D A (u ++ v) ∧ va_P D vwCl (u ++ v) H1 := by
  have o := pre_out hD hP
  exact ⟨va_D.app (D_pre hD) (hDv.weaken (fun _ x _ h => hF x.1 h)) (fun i j x y hx hy e => (o i x hx).2 (by rw [e]; exact hDv.2 j y hy)), va_P.app ((P_pre hP).1.kept (fun k x hx => hk x.1 (o k x hx).1 (o k x hx).2)) hv⟩
section CN
variable {p : Program} {l : Launch} {e : Env} {R : Room} {s : State} {m : MethodId} {args : Array Value} {below : List Frame} {meth : Method} {c : Code} {D : va_G} {tys : List (ClassId × FieldType)} {P : Nat → Prop} {nL nc ns : Nat} {Q : State → Prop} {σ : SW (fR P s.heap.size)} {lv : List (Nat × Value)} {pc : Nat} {st : List Value} {cc : ByteArray} {own : String}
theorem s_obj (C : Cx p s m args meth c cc nL own D tys P (swv (A := fR P s.heap.size))) {index a : Nat} (hk : Cond.methodLink own index Lib.objectInit ∈ tB) (d : decode cc pc = .ok (.invokespecial index, 3)) (hf : 1 ≤ R.frames) (hlo : (st.map fun v => v.category).sum + 12 ≤ R.locals) (k : Gg p l e R s m args below meth c D P swv nL nc ns Q σ lv (pc + 3) st) : Gg p l e R s m args below meth c D P swv nL nc ns Q σ lv pc (.ref a :: st) := fun H locs ls hP hS hl =>
  W.objInit C.1.1 C.1.2.1 C.1.2.2.2.1 (C.1.2.2.2.2 _ hk) (C.1.2.2.2.2 _ tw_21) (C.1.2.2.2.2 _ tw_22) rfl (by rw [C.1.2.2.1]; exact hl.1) rfl d hf (by rw [show (F0 m pc ls (Value.ref a :: st)).monitorRoom = 0 from rfl, Nat.mul_zero, Nat.zero_add]; exact hlo) (W.eq (g2 := F0 m (pc + 3) ls st) rfl (k H locs ls hP hS hl))
theorem s_new (C : Cx p s m args meth c cc nL own D tys P (swv (A := fR P s.heap.size))) {C0 : String} {T : u_T} {N ci index : Nat} (fs : List Value) (hin : ∀ w ∈ u_ws C0 T N, w ∈ tB) {ty : Nat → FieldType} (hty : ∀ k, k < N → parseFieldDescriptor (T k).2.2.1 = some (ty k)) (hcl : Cond.classLink own index C0 ∈ tB) (hinst : Cond.instantiable C0 N ∈ tB) (hini : Cond.initialized C0 ∈ tB) (hc : vwCl[ci]? = some (C0, T, N)) (hfs : ∀ j, j < N → defaultValue (ty j) = vp_V fs j) (hcells : nc + 1 ≤ R.cells) (hslots : ns + N ≤ R.slots) (d : decode cc pc = .ok (.new index, 3))
    (k : ∀ (q : Nat) (σ1 : SW (fR P s.heap.size)), swv σ1 = swv σ ++ [(q, .inr (ci, fs))] → Gg p l e R s m args below meth c D P swv nL (nc + 1) (ns + N) Q σ1 lv (pc + 3) (.ref q :: st)) : Gg p l e R s m args below meth c D P swv nL nc ns Q σ lv pc st := fun H locs ls hP hS hl =>
  va_new C.1.1 C.1.2.1 C.1.2.2.2.2 hin ty hty C.1.2.2.2.1 (C.1.2.2.2.2 _ hcl) (C.1.2.2.2.2 _ hinst) (C.1.2.2.2.2 _ hini) C.2.1 hP σ.2 hS (fun q h => Or.inr h) hc hfs hcells hslots d (fun q H hP hD hS => k q ⟨_, hD⟩ rfl H locs ls hP hS hl)
theorem s_newi (C : Cx p s m args meth c cc nL own D tys P (swv (A := fR P s.heap.size))) {cI : ClassId} {n : Int32} (t0 N : Nat) (ht : tys[t0]? = some (cI, .int)) (hn : ¬ n < 0) (hN : n.toNatClampNeg = N) (hb : N * 4 ≤ 536870912) (hcells : nc + 1 ≤ R.cells) (hslots : ns + N ≤ R.slots) (d : decode cc pc = .ok (.newarray .int, 2))
    (k : ∀ (q : Nat) (σ1 : SW (fR P s.heap.size)), swv σ1 = swv σ ++ [(q, .inl (cI, N, .inl (fun _ => 0)))] → Gg p l e R s m args below meth c D P swv nL (nc + 1) (ns + N) Q σ1 lv (pc + 2) (.ref q :: st)) : Gg p l e R s m args below meth c D P swv nL nc ns Q σ lv pc (.int n :: st) := fun H locs ls hP hS hl =>
  va_newa (atype := .int) (ty := .int) (a0 := (N, .inl (fun _ => 0))) C.1.1 C.1.2.1 (C.1.2.2.2.2 _ tw_40) rfl C.2.1 hP σ.2 hS (fun q h => Or.inr h) (fun cA => by rw [vp_cell_i]; rfl) hn hN hb hcells hslots d (fun q cA H hK hP hD hS => by
    have h1 : s.vm.findClass ("[" ++ FieldType.int.toString) = some cI := (C.2.1.2 t0 _ ht).2
    have h2 : s.vm.findClass ("[" ++ FieldType.int.toString) = some cA := (hK.2 tys.length (cA, .int) (by rw [List.getElem?_append_right (Nat.le_refl _)]; simp)).2
    obtain rfl : cA = cI := Option.some.inj (h2.symm.trans h1)
    exact k q ⟨_, hD⟩ rfl H locs ls hP hS hl)
theorem s_newq (C : Cx p s m args meth c cc nL own D tys P (swv (A := fR P s.heap.size))) {cH : ClassId} {C1 : String} {index : Nat} {n : Int32} (t0 N : Nat) (ht : tys[t0]? = some (cH, .object C1)) (hcl : Cond.classLink own index C1 ∈ tB) (hao : va_AO C1 s) (hn : ¬ n < 0) (hN : n.toNatClampNeg = N) (hb : N * 4 ≤ 536870912) (hcells : nc + 1 ≤ R.cells) (hslots : ns + N ≤ R.slots) (d : decode cc pc = .ok (.anewarray index, 3))
    (k : ∀ (q : Nat) (σ1 : SW (fR P s.heap.size)), swv σ1 = swv σ ++ [(q, .inl (cH, N, .inr (.inr (.inr (.inr (fun _ => none))))))] → Gg p l e R s m args below meth c D P swv nL (nc + 1) (ns + N) Q σ1 lv (pc + 3) (.ref q :: st)) : Gg p l e R s m args below meth c D P swv nL nc ns Q σ lv pc (.int n :: st) := fun H locs ls hP hS hl =>
  va_newq C.1.1 C.1.2.1 C.1.2.2.2.1 (C.1.2.2.2.2 _ hcl) hao C.2.1 hP σ.2 hS (fun q h => Or.inr h) hn hN hb hcells hslots d (fun q cA H hK hP hD hS => by
    obtain ⟨_, _, _, _, _, h1⟩ := (C.2.1.2 t0 _ ht).2
    obtain ⟨_, _, _, _, _, h2⟩ := (hK.2 tys.length (cA, .object C1) (by rw [List.getElem?_append_right (Nat.le_refl _)]; simp)).2
    obtain rfl : cA = cH := Option.some.inj (h2.symm.trans h1)
    exact k q ⟨_, hD⟩ rfl H locs ls hP hS hl)
theorem s_putF (C : Cx p s m args meth c cc nL own D tys P (swv (A := fR P s.heap.size))) (hmn : meth.name = "<init>") {C0 : String} {T : u_T} {N ci index a q0 : Nat} {fs : List Value} (hin : ∀ w ∈ u_ws C0 T N, w ∈ tB) (ty0 : Nat → FieldType) (hty : ∀ k, k < N → parseFieldDescriptor (T k).2.2.1 = some (ty0 k)) (hnm : ∀ a, a < N → ∀ b, b < N → a ≠ b → (T a).2.1 ≠ (T b).2.1) (he : (swv σ)[q0]? = some (a, .inr (ci, fs))) (hc : vwCl[ci]? = some (C0, T, N)) (j : Nat) (hj : j < N) (hk : Cond.fieldLink own index (T j).1 (T j).2.1 (T j).2.2.1 ∈ tB) (hf : (T j).2.2.2 = true) (hdecl : (T j).1 = own) {v : Value} (hn : narrow (ty0 j) v = v) (hfit : fits (ty0 j) v = true) (hl1 : j < fs.length) (d : decode cc pc = .ok (.putfield index, 3))
    (k : ∀ σ1 : SW (fR P s.heap.size), swv σ1 = (swv σ).set q0 (a, .inr (ci, fs.set j v)) → Gg p l e R s m args below meth c D P swv nL nc ns Q σ1 lv (pc + 3) st) : Gg p l e R s m args below meth c D P swv nL nc ns Q σ lv pc (v :: .ref a :: st) := fun H locs ls hP hS hl =>
  va_putF C.1.1 C.1.2.1 C.1.2.2.2.2 hin ty0 hty hnm C.1.2.2.2.1 C.2.1 hP σ.2 hS q0 he hc j hj (C.1.2.2.2.2 _ hk) (fun _ h => h) hf hmn hdecl (hty j hj) hn hfit hl1 d (fun H locs hP hD hS => k ⟨_, hD⟩ rfl H locs ls hP hS hl)
theorem s_aast (C : Cx p s m args meth c cc nL own D tys P (swv (A := fR P s.heap.size))) {q0 a n qk ci v : Nat} {cA : ClassId} {r : vw_C} {vs : List Value} {f : Nat → Option Nat} {i : Int32} (t0 : Nat) (he : (swv σ)[q0]? = some (a, .inl (cA, n, .inr (.inr (.inr (.inr f)))))) (ht : tys[t0]? = some (cA, .object r.1)) (hv : (swv σ)[qk]? = some (v, .inr (ci, vs))) (hc : vwCl[ci]? = some r) (hin : inb i n = true) (d : decode cc pc = .ok (.aastore, 1))
    (k : ∀ σ1 : SW (fR P s.heap.size), swv σ1 = (swv σ).set q0 (a, .inl (cA, n, .inr (.inr (.inr (.inr (va_up f i.toNatClampNeg (some v))))))) → Gg p l e R s m args below meth c D P swv nL nc ns Q σ1 lv (pc + 1) st) : Gg p l e R s m args below meth c D P swv nL nc ns Q σ lv pc (.ref v :: .int i :: .ref a :: st) := fun H locs ls hP hS hl => va_astq C.1.1 C.1.2.1 C.2.1 hP σ.2 hS q0 t0 qk ci he ht hv hc (inb_in hin) d (fun H locs hP hD hS => k ⟨_, hD⟩ rfl H locs ls hP hS hl)
theorem s_vret (C : Cx p s m args meth c cc nL own D tys P (swv (A := fR P s.heap.size))) {q mc ms : Nat} {Wn : (Nat → Nat) → va_W} (a : Nat → Nat) (hPq : P = pq q) (hw : swv σ = Wn a) (hc : nc = mc) (hs : ns = ms) (hr : meth.sig.returnType = none) (d : decode cc pc = .ok (.return_, 1)) : Gg p l e R s m args below meth c D P swv nL nc ns (MQ below (qN D Wn q s.heap.size) args s mc ms (fR (pq q) s.heap.size)) σ lv pc [] := fun H locs ls hP hS hl => by
  subst hPq; subst hc; subst hs
  exact W.vret C.1.1 C.1.2.1 hr (fun t ht hW => ⟨⟨a, rfl, trivial, by rw [ht, ← hw]; exact hP, by rw [← hw]; exact σ.2⟩, hS.F ht⟩) hS.2.2 d C.2.2.2.1
theorem con_free {H : Heap} {locs : List Loc} (hS : va_S (fR P s.heap.size) s.heap H locs) {q : Nat} (hq : fR P s.heap.size q) : ∀ x, fR (pq q) H.size x → fR P s.heap.size x := by
  intro x h
  rcases h with h | h
  · rw [show x = q from h]; exact hq
  · exact Or.inr (Nat.le_trans hS.1 h)
theorem con_pre (C : Cx p s m args meth c cc nL own D tys P (swv (A := fR P s.heap.size))) {u : va_W} {q : Nat} {e0 : va_E} {H : Heap} {locs : List Loc} (hq : fR P s.heap.size q) (hP : va_P D vwCl (u ++ [(q, e0)]) H) (hS : va_S (fR P s.heap.size) s.heap H locs) (U : State) (hU : U.heap = H) (hW : s.WarmedH U.vm) : pR D tys (fun _ : Unit => [(q, e0)]) (pq q) () H.size U :=
  ⟨by rw [hU], by rw [hU]; exact (P_pre hP).2, va_K.moved hW.alike C.2.1, C.2.2.2.2.1.warm hW, C.2.2.2.2.2.go hS hU hW.alike (fun h => vk_R.warm hW h) (con_free hS hq)⟩
theorem last_A {A : Nat → Prop} {u : va_W} {q : Nat} {e0 : va_E} (h : va_D A (u ++ [(q, e0)])) : A q := h.2 u.length (q, e0) (by rw [List.getElem?_append_right (Nat.le_refl _)]; simp)
theorem s_conI (C : Cx p s m args meth c cc nL own D tys P (swv (A := fR P s.heap.size))) {y : MethodName} {cc' : ByteArray} {nL' d' mc ms q index : Nat} {e0 : va_E} {Wn : (Nat → Nat) → va_W} (u : va_W) (hσ : swv σ = u ++ [(q, e0)]) (hM : Nq l D tys y cc' nL' d' mc ms q e0 Wn) (hcode : Cond.code y cc' nL' none ∈ tB) (hini : Cond.initialized y.cls ∈ tB) (hk : Cond.methodLink own index y ∈ tB) (hin : Cond.instanceMethod y ∈ tB) (hyn : y.name = "<init>") (hd : y.cls ≠ "java/lang/invoke/MethodHandle" ∧ y.cls ≠ "java/lang/invoke/VarHandle" ∧ (parseMethodDescriptor y.desc).map (fun d => d.parameters.length) = some 0) (hR : d' + 1 ≤ R.frames ∧ 8 + (nL' + 11) + 40 * d' ≤ R.locals) (hc : nc + mc ≤ R.cells ∧ ns + ms ≤ R.slots) (hroom : (st.map fun v => v.category).sum ≤ 8) (d : decode cc pc = .ok (.invokespecial index, 3))
    (k : ∀ (a : Nat → Nat) (σ1 : SW (fR P s.heap.size)), swv σ1 = u ++ Wn a → Gg p l e R s m args below meth c D P swv nL (nc + mc) (ns + ms) Q σ1 lv (pc + 3) st) : Gg p l e R s m args below meth c D P swv nL nc ns Q σ lv pc (.ref q :: st) := fun H locs ls hP hS hl => by
  have hD := σ.2
  rw [show σ.1 = u ++ [(q, e0)] from hσ] at hD
  rw [hσ] at hP
  have hq := last_A hD
  exact va_callv (va_runI (As := []) (rest := st) C.1 (hM H.size) (cwI 0 C.1.2.2.2.2 (tB_GC hcode) rfl rfl rfl (C.1.2.2.2.2 _ hini) (C.1.2.2.2.2 _ hk) (C.1.2.2.2.2 _ hin) hyn hd hR) ⟨pR_blind, fun U hU hW => ⟨rfl, con_pre C hq hP hS U hU hW⟩⟩ rfl rfl hl.1 rfl (lv_room hroom) d hc) hS (fun x _ h => con_free hS hq x h) (con_free hS hq) (fun a t H1 locs1 ht hvm _ hB hz hk hS1 => by
    rw [ht] at hB
    have J := con_join hD hP hk hB.1 hB.2 (con_free hS hq)
    exact k a ⟨_, J.1⟩ rfl H1 locs1 ls J.2 hS1 hl)
theorem s_conN (C : Cx p s m args meth c cc nL own D tys P (swv (A := fR P s.heap.size))) {y : MethodName} {cc' : ByteArray} {nL' d' mc ms q index : Nat} {e0 : va_E} {host : String} {Wn : (Nat → Nat) → va_W} (u : va_W) (hσ : swv σ = u ++ [(q, e0)]) (hM : Nq l D tys y cc' nL' d' mc ms q e0 Wn) (hcode : Cond.code y cc' nL' none ∈ tB) (hini : Cond.initialized y.cls ∈ tB) (hk : Cond.methodLinkNest own index y host ∈ nW) (hin : Cond.instanceMethod y ∈ tB) (hyn : y.name = "<init>") (hd : y.cls ≠ "java/lang/invoke/MethodHandle" ∧ y.cls ≠ "java/lang/invoke/VarHandle" ∧ (parseMethodDescriptor y.desc).map (fun d => d.parameters.length) = some 0) (hR : d' + 1 ≤ R.frames ∧ 8 + (nL' + 11) + 40 * d' ≤ R.locals) (hc : nc + mc ≤ R.cells ∧ ns + ms ≤ R.slots) (hroom : (st.map fun v => v.category).sum ≤ 8) (d : decode cc pc = .ok (.invokespecial index, 3))
    (k : ∀ (a : Nat → Nat) (σ1 : SW (fR P s.heap.size)), swv σ1 = u ++ Wn a → Gg p l e R s m args below meth c D P swv nL (nc + mc) (ns + ms) Q σ1 lv (pc + 3) st) : Gg p l e R s m args below meth c D P swv nL nc ns Q σ lv pc (.ref q :: st) := fun H locs ls hP hS hl => by
  have hD := σ.2
  rw [show σ.1 = u ++ [(q, e0)] from hσ] at hD
  rw [hσ] at hP
  have hq := last_A hD
  exact va_callv (va_runIN (As := []) (rest := st) C.1 (hM H.size) ⟨va_cnB 0 C.1.2.2.2.2 (tB_GC hcode) rfl rfl rfl (C.2.2.2.2.1.1 _ hk) (C.1.2.2.2.2 _ hini) hd hR, hyn, C.1.2.2.2.2 _ hin⟩ ⟨pR_blind, fun U hU hW => ⟨rfl, con_pre C hq hP hS U hU hW⟩⟩ rfl rfl hl.1 rfl (lv_room hroom) d hc) hS (fun x _ h => con_free hS hq x h) (con_free hS hq) (fun a t H1 locs1 ht hvm _ hB hz hk hS1 => by
    rw [ht] at hB
    have J := con_join hD hP hk hB.1 hB.2 (con_free hS hq)
    exact k a ⟨_, J.1⟩ rfl H1 locs1 ls J.2 hS1 hl)
end CN
