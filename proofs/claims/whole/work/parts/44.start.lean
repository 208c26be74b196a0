def qa (q : Nat) (a : Nat → Nat) : Nat → Nat := fun k => if k = 0 then q else a k
theorem rD {A : Nat → Prop} {u : va_W} {a : Nat → Nat} {n : Nat} (h : va_D A u) (e : u.map Prod.fst = (List.range n).map a) : (∀ i j, i < n → j < n → a i = a j → i = j) ∧ ∀ i, i < n → A (a i) := by
  have at' : ∀ i, i < n → ∃ x, u[i]? = some x ∧ x.1 = a i := by
    intro i hi
    have h1 : (u.map Prod.fst)[i]? = some (a i) := by rw [e, List.getElem?_map, List.getElem?_range hi]; rfl
    rw [List.getElem?_map] at h1
    cases hu : u[i]? with
    | none => rw [hu] at h1; cases h1
    | some x => rw [hu] at h1; exact ⟨x, rfl, Option.some.inj h1⟩
  refine ⟨fun i j hi hj eij => ?_, fun i hi => ?_⟩
  · obtain ⟨x, hx, ex⟩ := at' i hi
    obtain ⟨y, hy, ey⟩ := at' j hj
    exact h.1 i j x y hx hy (ex.trans (eij.trans ey.symm))
  · obtain ⟨x, hx, ex⟩ := at' i hi
    rw [← ex]; exact h.2 i x hx
theorem of_rD {A : Nat → Prop} {u : va_W} {a : Nat → Nat} {n : Nat} (e : u.map Prod.fst = (List.range n).map a) (h1 : ∀ i j, i < n → j < n → a i = a j → i = j) (h2 : ∀ i, i < n → A (a i)) : va_D A u := by
  have at' : ∀ i x, u[i]? = some x → i < n ∧ x.1 = a i := by
    intro i x hx
    have h3 : (u.map Prod.fst)[i]? = some x.1 := by rw [List.getElem?_map, hx]; rfl
    rw [e, List.getElem?_map] at h3
    by_cases hi : i < n
    · rw [List.getElem?_range hi] at h3
      exact ⟨hi, (Option.some.inj h3).symm⟩
    · rw [List.getElem?_eq_none_iff.mpr (by rw [List.length_range]; omega)] at h3
      cases h3
  refine ⟨fun i j x y hx hy exy => ?_, fun k x hx => ?_⟩
  · obtain ⟨hi, ex⟩ := at' i x hx
    obtain ⟨hj, ey⟩ := at' j y hy
    exact h1 i j hi hj (ex.symm.trans (exy.trans ey))
  · obtain ⟨hi, ex⟩ := at' k x hx
    rw [ex]; exact h2 k hi
theorem wc_fst {cI cH cE : ClassId} {a : Nat → Nat} {σ : Me} : (wc cI cH cE a σ).map Prod.fst = (List.range 51).map a := by
  unfold wc
  rw [List.map_map]
  rfl
theorem wm_fst {cJ : ClassId} {b : Nat → Nat} {τ : Me} : (wm cJ b τ).map Prod.fst = (List.range 6).map b := rfl
section TO
variable {M : Type} {p : Program} {l : Launch} {e : Env} {R : Room} {s : State} {m : MethodId} {args : Array Value} {below : List Frame} {meth : Method} {c : Code} {D : va_G} {tys : List (ClassId × FieldType)} {P : Nat → Prop} {w : M → va_W} {nL nc ns : Nat} {Q : State → Prop} {σ : SW (fR P s.heap.size)} {τ : M} {lv : List (Nat × Value)} {pc : Nat} {st : List Value} {cc : ByteArray} {own : String}
theorem s_put (C : Cx p s m args meth c cc nL own D tys P (swv (A := fR P s.heap.size))) {C0 : String} {T : u_T} {N ci index a q0 : Nat} {fs : List Value} (hin : ∀ w ∈ u_ws C0 T N, w ∈ tB) (ty0 : Nat → FieldType) (hty : ∀ k, k < N → parseFieldDescriptor (T k).2.2.1 = some (ty0 k)) (hnm : ∀ a, a < N → ∀ b, b < N → a ≠ b → (T a).2.1 ≠ (T b).2.1) (he : (swv σ)[q0]? = some (a, .inr (ci, fs))) (hc : vwCl[ci]? = some (C0, T, N)) (j : Nat) (hj : j < N) (hk : Cond.fieldLink own index (T j).1 (T j).2.1 (T j).2.2.1 ∈ tB) (hf : (T j).2.2.2 = false) {v : Value} (hn : narrow (ty0 j) v = v) (hfit : fits (ty0 j) v = true) (hl1 : j < fs.length) (d : decode cc pc = .ok (.putfield index, 3))
    (k : ∀ σ1 : SW (fR P s.heap.size), swv σ1 = (swv σ).set q0 (a, .inr (ci, fs.set j v)) → Gg p l e R s m args below meth c D P swv nL nc ns Q σ1 lv (pc + 3) st) : Gg p l e R s m args below meth c D P swv nL nc ns Q σ lv pc (v :: .ref a :: st) :=
  g_put C (σ1 := ⟨(swv σ).set q0 (a, .inr (ci, fs.set j v)), va_D.set σ.2 he⟩) hin ty0 hty hnm he hc j hj hk hf hn hfit hl1 rfl d (k _ rfl)
/-- another name for the same world -/
theorem s_to (h : ∀ H, va_P D vwCl (swv σ) H → va_P D vwCl (w τ) H) (k : Gg p l e R s m args below meth c D P w nL nc ns Q τ lv pc st) : Gg p l e R s m args below meth c D P swv nL nc ns Q σ lv pc st := fun H locs ls hP hS hl => k H locs ls (h H hP) hS hl
theorem s_vretW (C : Cx p s m args meth c cc nL own D tys P w) {q mc ms : Nat} {Wn : (Nat → Nat) → va_W} (a : Nat → Nat) (hPq : P = pq q) (hw : w τ = Wn a) (hc : nc = mc) (hs : ns = ms) (hr : meth.sig.returnType = none) (d : decode cc pc = .ok (.return_, 1)) : Gg p l e R s m args below meth c D P w nL nc ns (MQ below (qN D Wn q s.heap.size) args s mc ms (fR (pq q) s.heap.size)) τ lv pc [] := fun H locs ls hP hS hl => by
  subst hPq; subst hc; subst hs
  exact W.vret C.1.1 C.1.2.1 hr (fun t ht hW => ⟨⟨a, rfl, trivial, by rw [ht, ← hw]; exact hP, by rw [← hw]; exact C.2.2.1 τ⟩, hS.F ht⟩) hS.2.2 d C.2.2.2.1
end TO
theorem jW.own {M : Type} {D : va_G} {w : M → va_W} {P' A : Nat → Prop} {σ σ1 : M} (h : ∀ q, P' q → A q) : jW D w w P' A σ σ1 σ σ1 := ⟨fun _ h => h, fun _ _ _ h _ => h, h⟩
theorem sp_672 : (Int16.ofInt 672).toInt32 = 672 := by decide
set_option maxHeartbeats 4000000 in
theorem c_X8_init (l : Launch) (D : va_G) {cI cH cE cJ : ClassId} {q : Nat} : Nq l D (tyc cI cH cE cJ) yX8_init cX8_init 1 1 5 1034 q (.inr (7, [.int 0, .null, .int 0, .null, .null, .null, .null, .int 0])) (fun b => wm cJ (qa q b) m5) := by
  refine nOf (plainFor_of_name (by decide)) rfl (by decide) ?_
  intro p e s m args below meth c σ0 e0 C hmn hr
  refine g_aload_n (pc := 0) C dX8_init_0 0 rfl rfl ?_
  refine s_obj (pc := 1) C tw_617 dX8_init_1 (Nat.le_of_ble_eq_true rfl) (Nat.le_of_ble_eq_true rfl) ?_
  refine g_aload_n (pc := 4) C dX8_init_4 0 rfl rfl ?_
  refine g_sipush (pc := 5) C dX8_init_5 sp_200 ?_
  refine s_newi (pc := 8) C 3 200 rfl (by decide) (by decide) (Nat.le_of_ble_eq_true rfl) (Nat.le_of_ble_eq_true rfl) (Nat.le_of_ble_eq_true rfl) dX8_init_8 (fun r1 σ1 e1 => ?_)
  replace e1 : swv σ1 = [(q, .inr (7, [.int 0, .null, .int 0, .null, .null, .null, .null, .int 0])), (r1, .inl (cJ, 200, .inl (fun _ => 0)))] := by rw [e1, e0]; rfl
  refine s_putF (pc := 10) C hmn (q0 := 0) (fs := [.int 0, .null, .int 0, .null, .null, .null, .null, .int 0]) in_X8 tyX8 tyX8_ok nmX8 (by rw [e1]; rfl) cl_X8 1 (by decide) tw_623 rfl rfl rfl rfl (Nat.le_of_ble_eq_true rfl) dX8_init_10 (fun σ2 e2 => ?_)
  replace e2 : swv σ2 = [(q, .inr (7, [.int 0, .ref r1, .int 0, .null, .null, .null, .null, .int 0])), (r1, .inl (cJ, 200, .inl (fun _ => 0)))] := by rw [e2, e1]; rfl
  refine g_aload_n (pc := 13) C dX8_init_13 0 rfl rfl ?_
  refine g_bipush (pc := 14) C dX8_init_14 bp_25 ?_
  refine s_newi (pc := 16) C 3 25 rfl (by decide) (by decide) (Nat.le_of_ble_eq_true rfl) (Nat.le_of_ble_eq_true rfl) (Nat.le_of_ble_eq_true rfl) dX8_init_16 (fun r3 σ3 e3 => ?_)
  replace e3 : swv σ3 = [(q, .inr (7, [.int 0, .ref r1, .int 0, .null, .null, .null, .null, .int 0])), (r1, .inl (cJ, 200, .inl (fun _ => 0))), (r3, .inl (cJ, 25, .inl (fun _ => 0)))] := by rw [e3, e2]; rfl
  refine s_putF (pc := 18) C hmn (q0 := 0) (fs := [.int 0, .ref r1, .int 0, .null, .null, .null, .null, .int 0]) in_X8 tyX8 tyX8_ok nmX8 (by rw [e3]; rfl) cl_X8 3 (by decide) tw_625 rfl rfl rfl rfl (Nat.le_of_ble_eq_true rfl) dX8_init_18 (fun σ4 e4 => ?_)
  replace e4 : swv σ4 = [(q, .inr (7, [.int 0, .ref r1, .int 0, .ref r3, .null, .null, .null, .int 0])), (r1, .inl (cJ, 200, .inl (fun _ => 0))), (r3, .inl (cJ, 25, .inl (fun _ => 0)))] := by rw [e4, e3]; rfl
  refine g_aload_n (pc := 21) C dX8_init_21 0 rfl rfl ?_
  refine g_bipush (pc := 22) C dX8_init_22 bp_25 ?_
  refine s_newi (pc := 24) C 3 25 rfl (by decide) (by decide) (Nat.le_of_ble_eq_true rfl) (Nat.le_of_ble_eq_true rfl) (Nat.le_of_ble_eq_true rfl) dX8_init_24 (fun r5 σ5 e5 => ?_)
  replace e5 : swv σ5 = [(q, .inr (7, [.int 0, .ref r1, .int 0, .ref r3, .null, .null, .null, .int 0])), (r1, .inl (cJ, 200, .inl (fun _ => 0))), (r3, .inl (cJ, 25, .inl (fun _ => 0))), (r5, .inl (cJ, 25, .inl (fun _ => 0)))] := by rw [e5, e4]; rfl
  refine s_putF (pc := 26) C hmn (q0 := 0) (fs := [.int 0, .ref r1, .int 0, .ref r3, .null, .null, .null, .int 0]) in_X8 tyX8 tyX8_ok nmX8 (by rw [e5]; rfl) cl_X8 4 (by decide) tw_626 rfl rfl rfl rfl (Nat.le_of_ble_eq_true rfl) dX8_init_26 (fun σ6 e6 => ?_)
  replace e6 : swv σ6 = [(q, .inr (7, [.int 0, .ref r1, .int 0, .ref r3, .ref r5, .null, .null, .int 0])), (r1, .inl (cJ, 200, .inl (fun _ => 0))), (r3, .inl (cJ, 25, .inl (fun _ => 0))), (r5, .inl (cJ, 25, .inl (fun _ => 0)))] := by rw [e6, e5]; rfl
  refine g_aload_n (pc := 29) C dX8_init_29 0 rfl rfl ?_
  refine g_bipush (pc := 30) C dX8_init_30 bp_112 ?_
  refine s_newi (pc := 32) C 3 112 rfl (by decide) (by decide) (Nat.le_of_ble_eq_true rfl) (Nat.le_of_ble_eq_true rfl) (Nat.le_of_ble_eq_true rfl) dX8_init_32 (fun r7 σ7 e7 => ?_)
  replace e7 : swv σ7 = [(q, .inr (7, [.int 0, .ref r1, .int 0, .ref r3, .ref r5, .null, .null, .int 0])), (r1, .inl (cJ, 200, .inl (fun _ => 0))), (r3, .inl (cJ, 25, .inl (fun _ => 0))), (r5, .inl (cJ, 25, .inl (fun _ => 0))), (r7, .inl (cJ, 112, .inl (fun _ => 0)))] := by rw [e7, e6]; rfl
  refine s_putF (pc := 34) C hmn (q0 := 0) (fs := [.int 0, .ref r1, .int 0, .ref r3, .ref r5, .null, .null, .int 0]) in_X8 tyX8 tyX8_ok nmX8 (by rw [e7]; rfl) cl_X8 5 (by decide) tw_627 rfl rfl rfl rfl (Nat.le_of_ble_eq_true rfl) dX8_init_34 (fun σ8 e8 => ?_)
  replace e8 : swv σ8 = [(q, .inr (7, [.int 0, .ref r1, .int 0, .ref r3, .ref r5, .ref r7, .null, .int 0])), (r1, .inl (cJ, 200, .inl (fun _ => 0))), (r3, .inl (cJ, 25, .inl (fun _ => 0))), (r5, .inl (cJ, 25, .inl (fun _ => 0))), (r7, .inl (cJ, 112, .inl (fun _ => 0)))] := by rw [e8, e7]; rfl
  refine g_aload_n (pc := 37) C dX8_init_37 0 rfl rfl ?_
  refine g_sipush (pc := 38) C dX8_init_38 sp_672 ?_
  refine s_newi (pc := 41) C 3 672 rfl (by decide) (by decide) (Nat.le_of_ble_eq_true rfl) (Nat.le_of_ble_eq_true rfl) (Nat.le_of_ble_eq_true rfl) dX8_init_41 (fun r9 σ9 e9 => ?_)
  replace e9 : swv σ9 = [(q, .inr (7, [.int 0, .ref r1, .int 0, .ref r3, .ref r5, .ref r7, .null, .int 0])), (r1, .inl (cJ, 200, .inl (fun _ => 0))), (r3, .inl (cJ, 25, .inl (fun _ => 0))), (r5, .inl (cJ, 25, .inl (fun _ => 0))), (r7, .inl (cJ, 112, .inl (fun _ => 0))), (r9, .inl (cJ, 672, .inl (fun _ => 0)))] := by rw [e9, e8]; rfl
  refine s_putF (pc := 43) C hmn (q0 := 0) (fs := [.int 0, .ref r1, .int 0, .ref r3, .ref r5, .ref r7, .null, .int 0]) in_X8 tyX8 tyX8_ok nmX8 (by rw [e9]; rfl) cl_X8 6 (by decide) tw_628 rfl rfl rfl rfl (Nat.le_of_ble_eq_true rfl) dX8_init_43 (fun σ10 e10 => ?_)
  replace e10 : swv σ10 = [(q, .inr (7, [.int 0, .ref r1, .int 0, .ref r3, .ref r5, .ref r7, .ref r9, .int 0])), (r1, .inl (cJ, 200, .inl (fun _ => 0))), (r3, .inl (cJ, 25, .inl (fun _ => 0))), (r5, .inl (cJ, 25, .inl (fun _ => 0))), (r7, .inl (cJ, 112, .inl (fun _ => 0))), (r9, .inl (cJ, 672, .inl (fun _ => 0)))] := by rw [e10, e9]; rfl
  have hb : (swv σ10).map Prod.fst = (List.range 6).map (ad [q, r1, r3, r5, r7, r9]) := by rw [e10]; rfl
  have r0 := rD σ10.2 hb
  have hw : ∀ τ, va_D (Pm (ad [q, r1, r3, r5, r7, r9])) (wm cJ (ad [q, r1, r3, r5, r7, r9]) τ) := wm_D r0.1
  have C1 : Cx p s m args meth c cX8_init 1 "NotePressModel" D (tyc cI cH cE cJ) (pq q) (wm cJ (ad [q, r1, r3, r5, r7, r9])) := ⟨C.1, C.2.1, fun τ => of_rD wm_fst r0.1 r0.2, C.2.2.2⟩
  have hJ : ∀ x, Pm (ad [q, r1, r3, r5, r7, r9]) x → fR (pq q) s.heap.size x := fun x h => by obtain ⟨k, hk, rfl⟩ := h; exact r0.2 k hk
  refine s_to (w := wm cJ (ad [q, r1, r3, r5, r7, r9])) (τ := mz) (fun H hP => by rw [e10] at hP; exact hP) ?_
  refine g_aload_n (pc := 46) C1 dX8_init_46 0 rfl rfl ?_
  refine g_get (pc := 47) C1 in_X8 wm_0 cl_X8 3 (by decide) tw_625 rfl dX8_init_47 ?_
  refine g_iconst (pc := 50) C1 dX8_init_50 ic_0 ?_
  refine g_iconst (pc := 51) C1 dX8_init_51 ic_4 ?_
  refine g_iast (pc := 52) C1 (j := 0) 3 wm_2 rfl (by decide) (by decide) ma_2 dX8_init_52 ?_
  refine g_aload_n (pc := 53) C1 dX8_init_53 0 rfl rfl ?_
  refine g_get (pc := 54) C1 in_X8 wm_0 cl_X8 3 (by decide) tw_625 rfl dX8_init_54 ?_
  refine g_iconst (pc := 57) C1 dX8_init_57 ic_1 ?_
  refine g_iconst (pc := 58) C1 dX8_init_58 ic_2 ?_
  refine g_iast (pc := 59) C1 (j := 1) 3 wm_2 rfl (by decide) (by decide) ma_2 dX8_init_59 ?_
  refine g_aload_n (pc := 60) C1 dX8_init_60 0 rfl rfl ?_
  refine g_iconst (pc := 61) C1 dX8_init_61 ic_1 ?_
  refine g_iconst (pc := 62) C1 dX8_init_62 ic_0 ?_
  refine g_bipush (pc := 63) C1 dX8_init_63 bp_10 ?_
  refine g_iconst (pc := 65) C1 dX8_init_65 ic_5 ?_
  refine g_cVv (pc := 66) C1 (st := []) (As := [.int 1, .int 0, .int 10, .int 5]) (jW.own hJ) (c_X8_adds l D hw e_m2) y_X8_adds tw_618 rfl ⟨by decide, by decide⟩ ⟨Nat.le_of_ble_eq_true rfl, Nat.le_of_ble_eq_true rfl⟩ (Nat.le_of_ble_eq_true rfl) wm_0 cl_X8 rfl dX8_init_66 rfl ?_
  refine g_aload_n (pc := 69) C1 dX8_init_69 0 rfl rfl ?_
  refine g_iconst (pc := 70) C1 dX8_init_70 ic_3 ?_
  refine g_iconst (pc := 71) C1 dX8_init_71 ic_1 ?_
  refine g_iconst (pc := 72) C1 dX8_init_72 ic_3 ?_
  refine g_bipush (pc := 73) C1 dX8_init_73 bp_9 ?_
  refine g_cVv (pc := 75) C1 (st := []) (As := [.int 3, .int 1, .int 3, .int 9]) (jW.own hJ) (c_X8_adds l D hw e_m3) y_X8_adds tw_618 rfl ⟨by decide, by decide⟩ ⟨Nat.le_of_ble_eq_true rfl, Nat.le_of_ble_eq_true rfl⟩ (Nat.le_of_ble_eq_true rfl) wm_0 cl_X8 rfl dX8_init_75 rfl ?_
  refine g_aload_n (pc := 78) C1 dX8_init_78 0 rfl rfl ?_
  refine g_iconst (pc := 79) C1 dX8_init_79 ic_5 ?_
  refine g_iconst (pc := 80) C1 dX8_init_80 ic_2 ?_
  refine g_bipush (pc := 81) C1 dX8_init_81 bp_6 ?_
  refine g_iconst (pc := 83) C1 dX8_init_83 ic_0 ?_
  refine g_cVv (pc := 84) C1 (st := []) (As := [.int 5, .int 2, .int 6, .int 0]) (jW.own hJ) (c_X8_adds l D hw e_m4) y_X8_adds tw_618 rfl ⟨by decide, by decide⟩ ⟨Nat.le_of_ble_eq_true rfl, Nat.le_of_ble_eq_true rfl⟩ (Nat.le_of_ble_eq_true rfl) wm_0 cl_X8 rfl dX8_init_84 rfl ?_
  refine g_aload_n (pc := 87) C1 dX8_init_87 0 rfl rfl ?_
  refine g_get (pc := 88) C1 in_X8 wm_0 cl_X8 3 (by decide) tw_625 rfl dX8_init_88 ?_
  refine g_bipush (pc := 91) C1 dX8_init_91 bp_22 ?_
  refine g_iconst (pc := 93) C1 dX8_init_93 ic_2 ?_
  refine g_iast (pc := 94) C1 (j := 22) 3 wm_2 rfl (by decide) (by decide) ma_2 dX8_init_94 ?_
  refine g_aload_n (pc := 95) C1 dX8_init_95 0 rfl rfl ?_
  refine g_get (pc := 96) C1 in_X8 wm_0 cl_X8 3 (by decide) tw_625 rfl dX8_init_96 ?_
  refine g_bipush (pc := 99) C1 dX8_init_99 bp_24 ?_
  refine g_bipush (pc := 101) C1 dX8_init_101 bp_12 ?_
  refine g_iast (pc := 103) C1 (j := 24) 3 wm_2 rfl (by decide) (by decide) ma_2 dX8_init_103 ?_
  exact s_vretW (pc := 104) C1 (ad [q, r1, r3, r5, r7, r9]) rfl rfl rfl rfl hr dX8_init_104
def sAp : Nat → Me
  | 0 => sz0
  | i + 1 => ((f_X6_append (sAp i) (ftB.getD i 0 &&& 255)).map Prod.fst).getD sz0
theorem sAp_LI : ∀ i, i ≤ 38 → LI i (sAp i) := by
  intro i
  induction i with
  | zero => intro _; exact LI.zero
  | succ i ih =>
    intro hi
    obtain ⟨σ', h1, h2⟩ := (ih (by omega)).step (by omega)
    rw [sAp, h1]
    exact h2
theorem sAp_ap {i : Nat} (hi : i < 38) : f_X6_append (sAp i) (ftB.getD i 0 &&& 255) = some (sAp (i + 1), true) := by
  obtain ⟨σ', h1, h2⟩ := (sAp_LI i (by omega)).step hi
  rw [sAp, h1]
  rfl
def sLd : Me := ((f_X7_layText (sAp 38)).map Prod.fst).getD sz0
def sFt : Me := up sLd 1 1 0
theorem sLd_lay : f_X7_layText (sAp 38) = some (sLd, true) ∧ Inv sFt m5 := by
  obtain ⟨σ', h1, h2⟩ := first_lay (sAp_LI 38 (Nat.le_refl _))
  have e : sLd = σ' := by unfold sLd; rw [h1]; rfl
  unfold sFt
  rw [e]
  exact ⟨h1, h2⟩
section X7R
variable {p : Program} {l : Launch} {e : Env} {R : Room} {s : State} {m : MethodId} {args : Array Value} {below : List Frame} {meth : Method} {c : Code} {D : va_G} {cI cH cE cJ : ClassId} {P : Nat → Prop} {a : Nat → Nat} {nc ns : Nat} {Q : State → Prop}
theorem x7_end (C : Cx p s m args meth c cX7_init 2 "NotePress" D (tyc cI cH cE cJ) P (wc cI cH cE a)) (hw : ∀ σ, va_D (Pc a) (wc cI cH cE a σ)) (hJ : ∀ x, Pc a x → fR P s.heap.size x) (hR : 6 ≤ R.frames ∧ 240 ≤ R.locals) (hc : nc ≤ R.cells ∧ ns ≤ R.slots) {lv : List (Nat × Value)} (hlv : lv[1]? = some (0, .ref (a 0))) (k : Gg p l e R s m args below meth c D P (wc cI cH cE a) 2 nc ns Q sFt lv 102 []) : Gg p l e R s m args below meth c D P (wc cI cH cE a) 2 nc ns Q (sAp 38) lv 90 [] := by
  refine g_aload_n (pc := 90) C dX7_init_90 1 rfl hlv ?_
  refine g_cVi (pc := 91) C (st := []) (jW.own hJ) (c_X7_layText l D hw sLd_lay.1) y_X7_layText tw_215 rfl ⟨by omega, by omega⟩ hc (Nat.le_of_ble_eq_true rfl) wc_0 cl_X7 rfl dX7_init_91 rfl ?_
  refine g_pop (pc := 94) C dX7_init_94 rfl ?_
  refine g_aload_n (pc := 95) C dX7_init_95 1 rfl hlv ?_
  refine g_get (pc := 96) C in_X7 wc_0 cl_X7 0 (by decide) tw_305 rfl dX7_init_96 ?_
  exact g_cVv (pc := 99) C (st := []) (jW.own hJ) (c_X6_clear l D hw (show f_X6_clear sLd = some sFt from rfl)) y_X6_clear tw_301 rfl ⟨by omega, by omega⟩ hc (Nat.le_of_ble_eq_true rfl) wc_1 cl_X6 rfl dX7_init_99 rfl k
theorem x7_loop (C : Cx p s m args meth c cX7_init 2 "NotePress" D (tyc cI cH cE cJ) P (wc cI cH cE a)) (hw : ∀ σ, va_D (Pc a) (wc cI cH cE a σ)) (hJ : ∀ x, Pc a x → fR P s.heap.size x) (hR : 6 ≤ R.frames ∧ 240 ≤ R.locals) (hc : nc ≤ R.cells ∧ ns ≤ R.slots) (k : Gg p l e R s m args below meth c D P (wc cI cH cE a) 2 nc ns Q sFt [(1, .int (nI 38)), (0, .ref (a 0))] 102 []) : ∀ n i, i ≤ 38 → 38 - i = n → Gg p l e R s m args below meth c D P (wc cI cH cE a) 2 nc ns Q (sAp i) [(1, .int (nI i)), (0, .ref (a 0))] 61 [] := by
  intro n
  induction n with
  | zero =>
    intro i hi hn
    obtain rfl : i = 38 := by omega
    refine g_iload_n (pc := 61) C dX7_init_61 0 rfl rfl ?_
    refine g_ldcS (pc := 62) C dX7_init_62 ?_
    refine g_cKi (pc := 64) C (st := [.int (nI 38)]) (kS_of C).1 (c_J0_length l D) y_J0_length tw_163 rfl ⟨by omega, by omega⟩ hc (Nat.le_of_ble_eq_true rfl) dX7_init_64 rfl ?_
    refine g_icmp_ge (pc := 67) C 90 dX7_init_67 (by decide) (fun _ => ?_) (fun z => absurd (show (38 : Int32) ≤ nI 38 by decide) z)
    exact x7_end C hw hJ hR hc rfl k
  | succ n ih =>
    intro i hi hn
    refine g_iload_n (pc := 61) C dX7_init_61 0 rfl rfl ?_
    refine g_ldcS (pc := 62) C dX7_init_62 ?_
    refine g_cKi (pc := 64) C (st := [.int (nI i)]) (kS_of C).1 (c_J0_length l D) y_J0_length tw_163 rfl ⟨by omega, by omega⟩ hc (Nat.le_of_ble_eq_true rfl) dX7_init_64 rfl ?_
    refine g_icmp_ge (pc := 67) C 90 dX7_init_67 (by decide) (fun z => ?_) (fun _ => ?_)
    · have := (nI_leI (a := 38) (by decide) (by omega)).mp z
      omega
    refine g_aload_n (pc := 70) C dX7_init_70 1 rfl rfl ?_
    refine g_get (pc := 71) C in_X7 wc_0 cl_X7 0 (by decide) tw_305 rfl dX7_init_71 ?_
    refine g_ldcS (pc := 74) C dX7_init_74 ?_
    refine g_iload_n (pc := 76) C dX7_init_76 0 rfl rfl ?_
    refine g_cKi (pc := 77) C (st := [.ref (a 1)]) (As := [.int (nI i)]) (kS_of C).1 (c_J0_charAt l D (k := i) (by omega)) y_J0_charAt tw_173 rfl ⟨by omega, by omega⟩ hc (Nat.le_of_ble_eq_true rfl) dX7_init_77 rfl ?_
    refine g_cVi (pc := 80) C (st := []) (As := [.int (ftB.getD i 0 &&& 255)]) (jW.own hJ) (c_X6_append l D hw (sAp_ap (i := i) (by omega))) y_X6_append tw_211 rfl ⟨by omega, by omega⟩ hc (Nat.le_of_ble_eq_true rfl) wc_1 cl_X6 rfl dX7_init_80 rfl ?_
    refine g_pop (pc := 83) C dX7_init_83 rfl ?_
    refine g_iinc (pc := 84) C [(1, .int (nI i + 1)), (0, .ref (a 0))] 0 dX7_init_84 rfl ic_1 (by decide) rfl ?_
    refine g_goto (pc := 87) C 61 dX7_init_87 (by decide) ?_
    rw [← nI_succ]
    exact ih (i + 1) (by omega) (by omega)
end X7R
set_option maxHeartbeats 8000000 in
set_option maxRecDepth 100000 in
theorem c_X7_init (l : Launch) (D : va_G) {cI cH cE cJ : ClassId} {q : Nat} : Nq l D (tyc cI cH cE cJ) yX7_init cX7_init 2 6 50 594 q (.inr (6, [.null, .null, .null, .null, .null])) (fun a => wc cI cH cE (qa q a) sFt) := by
  refine nOf (plainFor_of_name (by decide)) rfl (by decide) ?_
  intro p e s m args below meth c σ0 e0 C hmn hr
  refine g_aload_n (pc := 0) C dX7_init_0 0 rfl rfl ?_
  refine s_obj (pc := 1) C tw_20 dX7_init_1 (Nat.le_of_ble_eq_true rfl) (Nat.le_of_ble_eq_true rfl) ?_
  refine g_aload_n (pc := 4) C dX7_init_4 0 rfl rfl ?_
  refine s_new (pc := 5) C [.null, .int 0, .int 0] in_X6 tyX6_ok tw_23 tw_24 tw_2 cl_X6 (fun j hj => by match j, hj with | 0, _ => rfl | 1, _ => rfl | 2, _ => rfl) (Nat.le_of_ble_eq_true rfl) (Nat.le_of_ble_eq_true rfl) dX7_init_5 (fun r1 σ1 e1 => ?_)
  replace e1 : swv σ1 = [(q, .inr (6, [.null, .null, .null, .null, .null])), (r1, .inr (5, [.null, .int 0, .int 0]))] := by rw [e1, e0]; rfl
  refine g_dup (pc := 8) C dX7_init_8 rfl ?_
  refine s_conN (pc := 9) C [(q, .inr (6, [.null, .null, .null, .null, .null]))] e1 (c_X6_init l D (cI := cI) (cH := cH) (cE := cE) (cJ := cJ)) tw_27 tw_2 tn_0 tw_26 rfl ⟨by decide, by decide, by decide⟩ ⟨by decide, by decide⟩ ⟨(Nat.le_of_ble_eq_true rfl), (Nat.le_of_ble_eq_true rfl)⟩ (Nat.le_of_ble_eq_true rfl) dX7_init_9 (fun a2 σ2 e2 => ?_)
  replace e2 : swv σ2 = [(q, .inr (6, [.null, .null, .null, .null, .null])), (r1, .inr (5, [.ref (a2 0), .int 0, .int 0])), (a2 0, .inl (cI, 200, .inl (fun _ => 0)))] := by rw [e2]; rfl
  refine s_putF (pc := 12) C hmn (q0 := 0) (fs := [.null, .null, .null, .null, .null]) in_X7 tyX7 tyX7_ok nmX7 (by rw [e2]; rfl) cl_X7 0 (by decide) tw_305 rfl rfl rfl rfl (Nat.le_of_ble_eq_true rfl) dX7_init_12 (fun σ3 e3 => ?_)
  replace e3 : swv σ3 = [(q, .inr (6, [.ref r1, .null, .null, .null, .null])), (r1, .inr (5, [.ref (a2 0), .int 0, .int 0])), (a2 0, .inl (cI, 200, .inl (fun _ => 0)))] := by rw [e3, e2]; rfl
  refine g_aload_n (pc := 15) C dX7_init_15 0 rfl rfl ?_
  refine s_new (pc := 16) C [.null, .null, .int 0, .int 0] in_X5 tyX5_ok tw_41 tw_42 tw_3 cl_X5 (fun j hj => by match j, hj with | 0, _ => rfl | 1, _ => rfl | 2, _ => rfl | 3, _ => rfl) (Nat.le_of_ble_eq_true rfl) (Nat.le_of_ble_eq_true rfl) dX7_init_16 (fun r4 σ4 e4 => ?_)
  replace e4 : swv σ4 = [(q, .inr (6, [.ref r1, .null, .null, .null, .null])), (r1, .inr (5, [.ref (a2 0), .int 0, .int 0])), (a2 0, .inl (cI, 200, .inl (fun _ => 0))), (r4, .inr (4, [.null, .null, .int 0, .int 0]))] := by rw [e4, e3]; rfl
  refine g_dup (pc := 19) C dX7_init_19 rfl ?_
  refine s_conN (pc := 20) C [(q, .inr (6, [.ref r1, .null, .null, .null, .null])), (r1, .inr (5, [.ref (a2 0), .int 0, .int 0])), (a2 0, .inl (cI, 200, .inl (fun _ => 0)))] e4 (c_X5_init l D (cI := cI) (cH := cH) (cE := cE) (cJ := cJ)) tw_45 tw_3 tn_2 tw_44 rfl ⟨by decide, by decide, by decide⟩ ⟨by decide, by decide⟩ ⟨(Nat.le_of_ble_eq_true rfl), (Nat.le_of_ble_eq_true rfl)⟩ (Nat.le_of_ble_eq_true rfl) dX7_init_20 (fun a5 σ5 e5 => ?_)
  replace e5 : swv σ5 = [(q, .inr (6, [.ref r1, .null, .null, .null, .null])), (r1, .inr (5, [.ref (a2 0), .int 0, .int 0])), (a2 0, .inl (cI, 200, .inl (fun _ => 0))), (r4, .inr (4, [.ref (a5 0), .ref (a5 1), .int 0, .int 0])), (a5 0, .inl (cI, 99, .inl (fun _ => 0))), (a5 1, .inl (cI, 99, .inl (fun _ => 0)))] := by rw [e5]; rfl
  refine s_putF (pc := 23) C hmn (q0 := 0) (fs := [.ref r1, .null, .null, .null, .null]) in_X7 tyX7 tyX7_ok nmX7 (by rw [e5]; rfl) cl_X7 1 (by decide) tw_306 rfl rfl rfl rfl (Nat.le_of_ble_eq_true rfl) dX7_init_23 (fun σ6 e6 => ?_)
  replace e6 : swv σ6 = [(q, .inr (6, [.ref r1, .ref r4, .null, .null, .null])), (r1, .inr (5, [.ref (a2 0), .int 0, .int 0])), (a2 0, .inl (cI, 200, .inl (fun _ => 0))), (r4, .inr (4, [.ref (a5 0), .ref (a5 1), .int 0, .int 0])), (a5 0, .inl (cI, 99, .inl (fun _ => 0))), (a5 1, .inl (cI, 99, .inl (fun _ => 0)))] := by rw [e6, e5]; rfl
  refine g_aload_n (pc := 26) C dX7_init_26 0 rfl rfl ?_
  refine s_new (pc := 27) C [.null, .null, .int 0] in_X0 tyX0_ok tw_62 tw_63 tw_4 cl_X0 (fun j hj => by match j, hj with | 0, _ => rfl | 1, _ => rfl | 2, _ => rfl) (Nat.le_of_ble_eq_true rfl) (Nat.le_of_ble_eq_true rfl) dX7_init_27 (fun r7 σ7 e7 => ?_)
  replace e7 : swv σ7 = [(q, .inr (6, [.ref r1, .ref r4, .null, .null, .null])), (r1, .inr (5, [.ref (a2 0), .int 0, .int 0])), (a2 0, .inl (cI, 200, .inl (fun _ => 0))), (r4, .inr (4, [.ref (a5 0), .ref (a5 1), .int 0, .int 0])), (a5 0, .inl (cI, 99, .inl (fun _ => 0))), (a5 1, .inl (cI, 99, .inl (fun _ => 0))), (r7, .inr (0, [.null, .null, .int 0]))] := by rw [e7, e6]; rfl
  refine g_dup (pc := 30) C dX7_init_30 rfl ?_
  refine s_conN (pc := 31) C [(q, .inr (6, [.ref r1, .ref r4, .null, .null, .null])), (r1, .inr (5, [.ref (a2 0), .int 0, .int 0])), (a2 0, .inl (cI, 200, .inl (fun _ => 0))), (r4, .inr (4, [.ref (a5 0), .ref (a5 1), .int 0, .int 0])), (a5 0, .inl (cI, 99, .inl (fun _ => 0))), (a5 1, .inl (cI, 99, .inl (fun _ => 0)))] e7 (c_X0_init l D (cI := cI) (cH := cH) (cE := cE) (cJ := cJ)) tw_66 tw_4 tn_5 tw_65 rfl ⟨by decide, by decide, by decide⟩ ⟨by decide, by decide⟩ ⟨(Nat.le_of_ble_eq_true rfl), (Nat.le_of_ble_eq_true rfl)⟩ (Nat.le_of_ble_eq_true rfl) dX7_init_31 (fun a8 σ8 e8 => ?_)
  replace e8 : swv σ8 = [(q, .inr (6, [.ref r1, .ref r4, .null, .null, .null])), (r1, .inr (5, [.ref (a2 0), .int 0, .int 0])), (a2 0, .inl (cI, 200, .inl (fun _ => 0))), (r4, .inr (4, [.ref (a5 0), .ref (a5 1), .int 0, .int 0])), (a5 0, .inl (cI, 99, .inl (fun _ => 0))), (a5 1, .inl (cI, 99, .inl (fun _ => 0))), (r7, .inr (0, [.ref (a8 0), .ref (a8 1), .int 0])), (a8 0, .inl (cH, 6, .inr (.inr (.inr (.inr (fun _ => none)))))), (a8 1, .inl (cI, 6, .inl (fun _ => 0)))] := by rw [e8]; rfl
  refine s_putF (pc := 34) C hmn (q0 := 0) (fs := [.ref r1, .ref r4, .null, .null, .null]) in_X7 tyX7 tyX7_ok nmX7 (by rw [e8]; rfl) cl_X7 2 (by decide) tw_307 rfl rfl rfl rfl (Nat.le_of_ble_eq_true rfl) dX7_init_34 (fun σ9 e9 => ?_)
  replace e9 : swv σ9 = [(q, .inr (6, [.ref r1, .ref r4, .ref r7, .null, .null])), (r1, .inr (5, [.ref (a2 0), .int 0, .int 0])), (a2 0, .inl (cI, 200, .inl (fun _ => 0))), (r4, .inr (4, [.ref (a5 0), .ref (a5 1), .int 0, .int 0])), (a5 0, .inl (cI, 99, .inl (fun _ => 0))), (a5 1, .inl (cI, 99, .inl (fun _ => 0))), (r7, .inr (0, [.ref (a8 0), .ref (a8 1), .int 0])), (a8 0, .inl (cH, 6, .inr (.inr (.inr (.inr (fun _ => none)))))), (a8 1, .inl (cI, 6, .inl (fun _ => 0)))] := by rw [e9, e8]; rfl
  refine g_aload_n (pc := 37) C dX7_init_37 0 rfl rfl ?_
  refine s_new (pc := 38) C [.null, .null, .int 0, .int 0, .int 0] in_X2 tyX2_ok tw_81 tw_82 tw_5 cl_X2 (fun j hj => by match j, hj with | 0, _ => rfl | 1, _ => rfl | 2, _ => rfl | 3, _ => rfl | 4, _ => rfl) (Nat.le_of_ble_eq_true rfl) (Nat.le_of_ble_eq_true rfl) dX7_init_38 (fun r10 σ10 e10 => ?_)
  replace e10 : swv σ10 = [(q, .inr (6, [.ref r1, .ref r4, .ref r7, .null, .null])), (r1, .inr (5, [.ref (a2 0), .int 0, .int 0])), (a2 0, .inl (cI, 200, .inl (fun _ => 0))), (r4, .inr (4, [.ref (a5 0), .ref (a5 1), .int 0, .int 0])), (a5 0, .inl (cI, 99, .inl (fun _ => 0))), (a5 1, .inl (cI, 99, .inl (fun _ => 0))), (r7, .inr (0, [.ref (a8 0), .ref (a8 1), .int 0])), (a8 0, .inl (cH, 6, .inr (.inr (.inr (.inr (fun _ => none)))))), (a8 1, .inl (cI, 6, .inl (fun _ => 0))), (r10, .inr (1, [.null, .null, .int 0, .int 0, .int 0]))] := by rw [e10, e9]; rfl
  refine g_dup (pc := 41) C dX7_init_41 rfl ?_
  refine s_conI (pc := 42) C [(q, .inr (6, [.ref r1, .ref r4, .ref r7, .null, .null])), (r1, .inr (5, [.ref (a2 0), .int 0, .int 0])), (a2 0, .inl (cI, 200, .inl (fun _ => 0))), (r4, .inr (4, [.ref (a5 0), .ref (a5 1), .int 0, .int 0])), (a5 0, .inl (cI, 99, .inl (fun _ => 0))), (a5 1, .inl (cI, 99, .inl (fun _ => 0))), (r7, .inr (0, [.ref (a8 0), .ref (a8 1), .int 0])), (a8 0, .inl (cH, 6, .inr (.inr (.inr (.inr (fun _ => none)))))), (a8 1, .inl (cI, 6, .inl (fun _ => 0)))] e10 (c_X2_init l D (cI := cI) (cH := cH) (cE := cE) (cJ := cJ)) tw_85 tw_5 tw_83 tw_84 rfl ⟨by decide, by decide, by decide⟩ ⟨by decide, by decide⟩ ⟨(Nat.le_of_ble_eq_true rfl), (Nat.le_of_ble_eq_true rfl)⟩ (Nat.le_of_ble_eq_true rfl) dX7_init_42 (fun a11 σ11 e11 => ?_)
  replace e11 : swv σ11 = [(q, .inr (6, [.ref r1, .ref r4, .ref r7, .null, .null])), (r1, .inr (5, [.ref (a2 0), .int 0, .int 0])), (a2 0, .inl (cI, 200, .inl (fun _ => 0))), (r4, .inr (4, [.ref (a5 0), .ref (a5 1), .int 0, .int 0])), (a5 0, .inl (cI, 99, .inl (fun _ => 0))), (a5 1, .inl (cI, 99, .inl (fun _ => 0))), (r7, .inr (0, [.ref (a8 0), .ref (a8 1), .int 0])), (a8 0, .inl (cH, 6, .inr (.inr (.inr (.inr (fun _ => none)))))), (a8 1, .inl (cI, 6, .inl (fun _ => 0))), (r10, .inr (1, [.ref (a11 0), .ref (a11 1), .int 0, .int 0, .int 0])), (a11 0, .inl (cI, 4, .inl (fun _ => 0))), (a11 1, .inl (cE, 3, .inr (.inr (.inr (.inr (fun i => some (a11 (2 + 6 * i)))))))), (a11 2, .inr (2, [.ref (a11 3), .int 0, .int 0, .int 0, .int 0])), (a11 3, .inl (cH, 4, .inr (.inr (.inr (.inr (fun i => some (a11 (4 + i)))))))), (a11 4, .inr (3, [.int 0, .int 0, .int 0, .int 0])), (a11 5, .inr (3, [.int 0, .int 0, .int 0, .int 0])), (a11 6, .inr (3, [.int 0, .int 0, .int 0, .int 0])), (a11 7, .inr (3, [.int 0, .int 0, .int 0, .int 0])), (a11 8, .inr (2, [.ref (a11 9), .int 0, .int 0, .int 0, .int 0])), (a11 9, .inl (cH, 4, .inr (.inr (.inr (.inr (fun i => some (a11 (10 + i)))))))), (a11 10, .inr (3, [.int 0, .int 0, .int 0, .int 0])), (a11 11, .inr (3, [.int 0, .int 0, .int 0, .int 0])), (a11 12, .inr (3, [.int 0, .int 0, .int 0, .int 0])), (a11 13, .inr (3, [.int 0, .int 0, .int 0, .int 0])), (a11 14, .inr (2, [.ref (a11 15), .int 0, .int 0, .int 0, .int 0])), (a11 15, .inl (cH, 4, .inr (.inr (.inr (.inr (fun i => some (a11 (16 + i)))))))), (a11 16, .inr (3, [.int 0, .int 0, .int 0, .int 0])), (a11 17, .inr (3, [.int 0, .int 0, .int 0, .int 0])), (a11 18, .inr (3, [.int 0, .int 0, .int 0, .int 0])), (a11 19, .inr (3, [.int 0, .int 0, .int 0, .int 0]))] := by rw [e11]; rfl
  refine s_put (pc := 45) C (q0 := 0) (fs := [.ref r1, .ref r4, .ref r7, .null, .null]) in_X7 tyX7 tyX7_ok nmX7 (by rw [e11]; rfl) cl_X7 3 (by decide) tw_308 rfl rfl rfl (Nat.le_of_ble_eq_true rfl) dX7_init_45 (fun σ12 e12 => ?_)
  replace e12 : swv σ12 = [(q, .inr (6, [.ref r1, .ref r4, .ref r7, .ref r10, .null])), (r1, .inr (5, [.ref (a2 0), .int 0, .int 0])), (a2 0, .inl (cI, 200, .inl (fun _ => 0))), (r4, .inr (4, [.ref (a5 0), .ref (a5 1), .int 0, .int 0])), (a5 0, .inl (cI, 99, .inl (fun _ => 0))), (a5 1, .inl (cI, 99, .inl (fun _ => 0))), (r7, .inr (0, [.ref (a8 0), .ref (a8 1), .int 0])), (a8 0, .inl (cH, 6, .inr (.inr (.inr (.inr (fun _ => none)))))), (a8 1, .inl (cI, 6, .inl (fun _ => 0))), (r10, .inr (1, [.ref (a11 0), .ref (a11 1), .int 0, .int 0, .int 0])), (a11 0, .inl (cI, 4, .inl (fun _ => 0))), (a11 1, .inl (cE, 3, .inr (.inr (.inr (.inr (fun i => some (a11 (2 + 6 * i)))))))), (a11 2, .inr (2, [.ref (a11 3), .int 0, .int 0, .int 0, .int 0])), (a11 3, .inl (cH, 4, .inr (.inr (.inr (.inr (fun i => some (a11 (4 + i)))))))), (a11 4, .inr (3, [.int 0, .int 0, .int 0, .int 0])), (a11 5, .inr (3, [.int 0, .int 0, .int 0, .int 0])), (a11 6, .inr (3, [.int 0, .int 0, .int 0, .int 0])), (a11 7, .inr (3, [.int 0, .int 0, .int 0, .int 0])), (a11 8, .inr (2, [.ref (a11 9), .int 0, .int 0, .int 0, .int 0])), (a11 9, .inl (cH, 4, .inr (.inr (.inr (.inr (fun i => some (a11 (10 + i)))))))), (a11 10, .inr (3, [.int 0, .int 0, .int 0, .int 0])), (a11 11, .inr (3, [.int 0, .int 0, .int 0, .int 0])), (a11 12, .inr (3, [.int 0, .int 0, .int 0, .int 0])), (a11 13, .inr (3, [.int 0, .int 0, .int 0, .int 0])), (a11 14, .inr (2, [.ref (a11 15), .int 0, .int 0, .int 0, .int 0])), (a11 15, .inl (cH, 4, .inr (.inr (.inr (.inr (fun i => some (a11 (16 + i)))))))), (a11 16, .inr (3, [.int 0, .int 0, .int 0, .int 0])), (a11 17, .inr (3, [.int 0, .int 0, .int 0, .int 0])), (a11 18, .inr (3, [.int 0, .int 0, .int 0, .int 0])), (a11 19, .inr (3, [.int 0, .int 0, .int 0, .int 0]))] := by rw [e12, e11]; rfl
  refine g_aload_n (pc := 48) C dX7_init_48 0 rfl rfl ?_
  refine s_new (pc := 49) C [.null, .null, .int 0, .int 0, .int 0] in_X2 tyX2_ok tw_81 tw_82 tw_5 cl_X2 (fun j hj => by match j, hj with | 0, _ => rfl | 1, _ => rfl | 2, _ => rfl | 3, _ => rfl | 4, _ => rfl) (Nat.le_of_ble_eq_true rfl) (Nat.le_of_ble_eq_true rfl) dX7_init_49 (fun r13 σ13 e13 => ?_)
  replace e13 : swv σ13 = [(q, .inr (6, [.ref r1, .ref r4, .ref r7, .ref r10, .null])), (r1, .inr (5, [.ref (a2 0), .int 0, .int 0])), (a2 0, .inl (cI, 200, .inl (fun _ => 0))), (r4, .inr (4, [.ref (a5 0), .ref (a5 1), .int 0, .int 0])), (a5 0, .inl (cI, 99, .inl (fun _ => 0))), (a5 1, .inl (cI, 99, .inl (fun _ => 0))), (r7, .inr (0, [.ref (a8 0), .ref (a8 1), .int 0])), (a8 0, .inl (cH, 6, .inr (.inr (.inr (.inr (fun _ => none)))))), (a8 1, .inl (cI, 6, .inl (fun _ => 0))), (r10, .inr (1, [.ref (a11 0), .ref (a11 1), .int 0, .int 0, .int 0])), (a11 0, .inl (cI, 4, .inl (fun _ => 0))), (a11 1, .inl (cE, 3, .inr (.inr (.inr (.inr (fun i => some (a11 (2 + 6 * i)))))))), (a11 2, .inr (2, [.ref (a11 3), .int 0, .int 0, .int 0, .int 0])), (a11 3, .inl (cH, 4, .inr (.inr (.inr (.inr (fun i => some (a11 (4 + i)))))))), (a11 4, .inr (3, [.int 0, .int 0, .int 0, .int 0])), (a11 5, .inr (3, [.int 0, .int 0, .int 0, .int 0])), (a11 6, .inr (3, [.int 0, .int 0, .int 0, .int 0])), (a11 7, .inr (3, [.int 0, .int 0, .int 0, .int 0])), (a11 8, .inr (2, [.ref (a11 9), .int 0, .int 0, .int 0, .int 0])), (a11 9, .inl (cH, 4, .inr (.inr (.inr (.inr (fun i => some (a11 (10 + i)))))))), (a11 10, .inr (3, [.int 0, .int 0, .int 0, .int 0])), (a11 11, .inr (3, [.int 0, .int 0, .int 0, .int 0])), (a11 12, .inr (3, [.int 0, .int 0, .int 0, .int 0])), (a11 13, .inr (3, [.int 0, .int 0, .int 0, .int 0])), (a11 14, .inr (2, [.ref (a11 15), .int 0, .int 0, .int 0, .int 0])), (a11 15, .inl (cH, 4, .inr (.inr (.inr (.inr (fun i => some (a11 (16 + i)))))))), (a11 16, .inr (3, [.int 0, .int 0, .int 0, .int 0])), (a11 17, .inr (3, [.int 0, .int 0, .int 0, .int 0])), (a11 18, .inr (3, [.int 0, .int 0, .int 0, .int 0])), (a11 19, .inr (3, [.int 0, .int 0, .int 0, .int 0])), (r13, .inr (1, [.null, .null, .int 0, .int 0, .int 0]))] := by rw [e13, e12]; rfl
  refine g_dup (pc := 52) C dX7_init_52 rfl ?_
  refine s_conI (pc := 53) C [(q, .inr (6, [.ref r1, .ref r4, .ref r7, .ref r10, .null])), (r1, .inr (5, [.ref (a2 0), .int 0, .int 0])), (a2 0, .inl (cI, 200, .inl (fun _ => 0))), (r4, .inr (4, [.ref (a5 0), .ref (a5 1), .int 0, .int 0])), (a5 0, .inl (cI, 99, .inl (fun _ => 0))), (a5 1, .inl (cI, 99, .inl (fun _ => 0))), (r7, .inr (0, [.ref (a8 0), .ref (a8 1), .int 0])), (a8 0, .inl (cH, 6, .inr (.inr (.inr (.inr (fun _ => none)))))), (a8 1, .inl (cI, 6, .inl (fun _ => 0))), (r10, .inr (1, [.ref (a11 0), .ref (a11 1), .int 0, .int 0, .int 0])), (a11 0, .inl (cI, 4, .inl (fun _ => 0))), (a11 1, .inl (cE, 3, .inr (.inr (.inr (.inr (fun i => some (a11 (2 + 6 * i)))))))), (a11 2, .inr (2, [.ref (a11 3), .int 0, .int 0, .int 0, .int 0])), (a11 3, .inl (cH, 4, .inr (.inr (.inr (.inr (fun i => some (a11 (4 + i)))))))), (a11 4, .inr (3, [.int 0, .int 0, .int 0, .int 0])), (a11 5, .inr (3, [.int 0, .int 0, .int 0, .int 0])), (a11 6, .inr (3, [.int 0, .int 0, .int 0, .int 0])), (a11 7, .inr (3, [.int 0, .int 0, .int 0, .int 0])), (a11 8, .inr (2, [.ref (a11 9), .int 0, .int 0, .int 0, .int 0])), (a11 9, .inl (cH, 4, .inr (.inr (.inr (.inr (fun i => some (a11 (10 + i)))))))), (a11 10, .inr (3, [.int 0, .int 0, .int 0, .int 0])), (a11 11, .inr (3, [.int 0, .int 0, .int 0, .int 0])), (a11 12, .inr (3, [.int 0, .int 0, .int 0, .int 0])), (a11 13, .inr (3, [.int 0, .int 0, .int 0, .int 0])), (a11 14, .inr (2, [.ref (a11 15), .int 0, .int 0, .int 0, .int 0])), (a11 15, .inl (cH, 4, .inr (.inr (.inr (.inr (fun i => some (a11 (16 + i)))))))), (a11 16, .inr (3, [.int 0, .int 0, .int 0, .int 0])), (a11 17, .inr (3, [.int 0, .int 0, .int 0, .int 0])), (a11 18, .inr (3, [.int 0, .int 0, .int 0, .int 0])), (a11 19, .inr (3, [.int 0, .int 0, .int 0, .int 0]))] e13 (c_X2_init l D (cI := cI) (cH := cH) (cE := cE) (cJ := cJ)) tw_85 tw_5 tw_83 tw_84 rfl ⟨by decide, by decide, by decide⟩ ⟨by decide, by decide⟩ ⟨(Nat.le_of_ble_eq_true rfl), (Nat.le_of_ble_eq_true rfl)⟩ (Nat.le_of_ble_eq_true rfl) dX7_init_53 (fun a14 σ14 e14 => ?_)
  replace e14 : swv σ14 = [(q, .inr (6, [.ref r1, .ref r4, .ref r7, .ref r10, .null])), (r1, .inr (5, [.ref (a2 0), .int 0, .int 0])), (a2 0, .inl (cI, 200, .inl (fun _ => 0))), (r4, .inr (4, [.ref (a5 0), .ref (a5 1), .int 0, .int 0])), (a5 0, .inl (cI, 99, .inl (fun _ => 0))), (a5 1, .inl (cI, 99, .inl (fun _ => 0))), (r7, .inr (0, [.ref (a8 0), .ref (a8 1), .int 0])), (a8 0, .inl (cH, 6, .inr (.inr (.inr (.inr (fun _ => none)))))), (a8 1, .inl (cI, 6, .inl (fun _ => 0))), (r10, .inr (1, [.ref (a11 0), .ref (a11 1), .int 0, .int 0, .int 0])), (a11 0, .inl (cI, 4, .inl (fun _ => 0))), (a11 1, .inl (cE, 3, .inr (.inr (.inr (.inr (fun i => some (a11 (2 + 6 * i)))))))), (a11 2, .inr (2, [.ref (a11 3), .int 0, .int 0, .int 0, .int 0])), (a11 3, .inl (cH, 4, .inr (.inr (.inr (.inr (fun i => some (a11 (4 + i)))))))), (a11 4, .inr (3, [.int 0, .int 0, .int 0, .int 0])), (a11 5, .inr (3, [.int 0, .int 0, .int 0, .int 0])), (a11 6, .inr (3, [.int 0, .int 0, .int 0, .int 0])), (a11 7, .inr (3, [.int 0, .int 0, .int 0, .int 0])), (a11 8, .inr (2, [.ref (a11 9), .int 0, .int 0, .int 0, .int 0])), (a11 9, .inl (cH, 4, .inr (.inr (.inr (.inr (fun i => some (a11 (10 + i)))))))), (a11 10, .inr (3, [.int 0, .int 0, .int 0, .int 0])), (a11 11, .inr (3, [.int 0, .int 0, .int 0, .int 0])), (a11 12, .inr (3, [.int 0, .int 0, .int 0, .int 0])), (a11 13, .inr (3, [.int 0, .int 0, .int 0, .int 0])), (a11 14, .inr (2, [.ref (a11 15), .int 0, .int 0, .int 0, .int 0])), (a11 15, .inl (cH, 4, .inr (.inr (.inr (.inr (fun i => some (a11 (16 + i)))))))), (a11 16, .inr (3, [.int 0, .int 0, .int 0, .int 0])), (a11 17, .inr (3, [.int 0, .int 0, .int 0, .int 0])), (a11 18, .inr (3, [.int 0, .int 0, .int 0, .int 0])), (a11 19, .inr (3, [.int 0, .int 0, .int 0, .int 0])), (r13, .inr (1, [.ref (a14 0), .ref (a14 1), .int 0, .int 0, .int 0])), (a14 0, .inl (cI, 4, .inl (fun _ => 0))), (a14 1, .inl (cE, 3, .inr (.inr (.inr (.inr (fun i => some (a14 (2 + 6 * i)))))))), (a14 2, .inr (2, [.ref (a14 3), .int 0, .int 0, .int 0, .int 0])), (a14 3, .inl (cH, 4, .inr (.inr (.inr (.inr (fun i => some (a14 (4 + i)))))))), (a14 4, .inr (3, [.int 0, .int 0, .int 0, .int 0])), (a14 5, .inr (3, [.int 0, .int 0, .int 0, .int 0])), (a14 6, .inr (3, [.int 0, .int 0, .int 0, .int 0])), (a14 7, .inr (3, [.int 0, .int 0, .int 0, .int 0])), (a14 8, .inr (2, [.ref (a14 9), .int 0, .int 0, .int 0, .int 0])), (a14 9, .inl (cH, 4, .inr (.inr (.inr (.inr (fun i => some (a14 (10 + i)))))))), (a14 10, .inr (3, [.int 0, .int 0, .int 0, .int 0])), (a14 11, .inr (3, [.int 0, .int 0, .int 0, .int 0])), (a14 12, .inr (3, [.int 0, .int 0, .int 0, .int 0])), (a14 13, .inr (3, [.int 0, .int 0, .int 0, .int 0])), (a14 14, .inr (2, [.ref (a14 15), .int 0, .int 0, .int 0, .int 0])), (a14 15, .inl (cH, 4, .inr (.inr (.inr (.inr (fun i => some (a14 (16 + i)))))))), (a14 16, .inr (3, [.int 0, .int 0, .int 0, .int 0])), (a14 17, .inr (3, [.int 0, .int 0, .int 0, .int 0])), (a14 18, .inr (3, [.int 0, .int 0, .int 0, .int 0])), (a14 19, .inr (3, [.int 0, .int 0, .int 0, .int 0]))] := by rw [e14]; rfl
  refine s_put (pc := 56) C (q0 := 0) (fs := [.ref r1, .ref r4, .ref r7, .ref r10, .null]) in_X7 tyX7 tyX7_ok nmX7 (by rw [e14]; rfl) cl_X7 4 (by decide) tw_309 rfl rfl rfl (Nat.le_of_ble_eq_true rfl) dX7_init_56 (fun σ15 e15 => ?_)
  replace e15 : swv σ15 = [(q, .inr (6, [.ref r1, .ref r4, .ref r7, .ref r10, .ref r13])), (r1, .inr (5, [.ref (a2 0), .int 0, .int 0])), (a2 0, .inl (cI, 200, .inl (fun _ => 0))), (r4, .inr (4, [.ref (a5 0), .ref (a5 1), .int 0, .int 0])), (a5 0, .inl (cI, 99, .inl (fun _ => 0))), (a5 1, .inl (cI, 99, .inl (fun _ => 0))), (r7, .inr (0, [.ref (a8 0), .ref (a8 1), .int 0])), (a8 0, .inl (cH, 6, .inr (.inr (.inr (.inr (fun _ => none)))))), (a8 1, .inl (cI, 6, .inl (fun _ => 0))), (r10, .inr (1, [.ref (a11 0), .ref (a11 1), .int 0, .int 0, .int 0])), (a11 0, .inl (cI, 4, .inl (fun _ => 0))), (a11 1, .inl (cE, 3, .inr (.inr (.inr (.inr (fun i => some (a11 (2 + 6 * i)))))))), (a11 2, .inr (2, [.ref (a11 3), .int 0, .int 0, .int 0, .int 0])), (a11 3, .inl (cH, 4, .inr (.inr (.inr (.inr (fun i => some (a11 (4 + i)))))))), (a11 4, .inr (3, [.int 0, .int 0, .int 0, .int 0])), (a11 5, .inr (3, [.int 0, .int 0, .int 0, .int 0])), (a11 6, .inr (3, [.int 0, .int 0, .int 0, .int 0])), (a11 7, .inr (3, [.int 0, .int 0, .int 0, .int 0])), (a11 8, .inr (2, [.ref (a11 9), .int 0, .int 0, .int 0, .int 0])), (a11 9, .inl (cH, 4, .inr (.inr (.inr (.inr (fun i => some (a11 (10 + i)))))))), (a11 10, .inr (3, [.int 0, .int 0, .int 0, .int 0])), (a11 11, .inr (3, [.int 0, .int 0, .int 0, .int 0])), (a11 12, .inr (3, [.int 0, .int 0, .int 0, .int 0])), (a11 13, .inr (3, [.int 0, .int 0, .int 0, .int 0])), (a11 14, .inr (2, [.ref (a11 15), .int 0, .int 0, .int 0, .int 0])), (a11 15, .inl (cH, 4, .inr (.inr (.inr (.inr (fun i => some (a11 (16 + i)))))))), (a11 16, .inr (3, [.int 0, .int 0, .int 0, .int 0])), (a11 17, .inr (3, [.int 0, .int 0, .int 0, .int 0])), (a11 18, .inr (3, [.int 0, .int 0, .int 0, .int 0])), (a11 19, .inr (3, [.int 0, .int 0, .int 0, .int 0])), (r13, .inr (1, [.ref (a14 0), .ref (a14 1), .int 0, .int 0, .int 0])), (a14 0, .inl (cI, 4, .inl (fun _ => 0))), (a14 1, .inl (cE, 3, .inr (.inr (.inr (.inr (fun i => some (a14 (2 + 6 * i)))))))), (a14 2, .inr (2, [.ref (a14 3), .int 0, .int 0, .int 0, .int 0])), (a14 3, .inl (cH, 4, .inr (.inr (.inr (.inr (fun i => some (a14 (4 + i)))))))), (a14 4, .inr (3, [.int 0, .int 0, .int 0, .int 0])), (a14 5, .inr (3, [.int 0, .int 0, .int 0, .int 0])), (a14 6, .inr (3, [.int 0, .int 0, .int 0, .int 0])), (a14 7, .inr (3, [.int 0, .int 0, .int 0, .int 0])), (a14 8, .inr (2, [.ref (a14 9), .int 0, .int 0, .int 0, .int 0])), (a14 9, .inl (cH, 4, .inr (.inr (.inr (.inr (fun i => some (a14 (10 + i)))))))), (a14 10, .inr (3, [.int 0, .int 0, .int 0, .int 0])), (a14 11, .inr (3, [.int 0, .int 0, .int 0, .int 0])), (a14 12, .inr (3, [.int 0, .int 0, .int 0, .int 0])), (a14 13, .inr (3, [.int 0, .int 0, .int 0, .int 0])), (a14 14, .inr (2, [.ref (a14 15), .int 0, .int 0, .int 0, .int 0])), (a14 15, .inl (cH, 4, .inr (.inr (.inr (.inr (fun i => some (a14 (16 + i)))))))), (a14 16, .inr (3, [.int 0, .int 0, .int 0, .int 0])), (a14 17, .inr (3, [.int 0, .int 0, .int 0, .int 0])), (a14 18, .inr (3, [.int 0, .int 0, .int 0, .int 0])), (a14 19, .inr (3, [.int 0, .int 0, .int 0, .int 0]))] := by rw [e15, e14]; rfl
  refine g_iconst (pc := 59) C dX7_init_59 ic_0 ?_
  refine g_istore_n (pc := 60) C [(1, .int 0), (0, .ref q)] dX7_init_60 rfl (by decide) rfl ?_
  have hb : (swv σ15).map Prod.fst = (List.range 51).map (ad [q, r1, (a2 0), r4, (a5 0), (a5 1), r7, (a8 0), (a8 1), r10, (a11 0), (a11 1), (a11 2), (a11 3), (a11 4), (a11 5), (a11 6), (a11 7), (a11 8), (a11 9), (a11 10), (a11 11), (a11 12), (a11 13), (a11 14), (a11 15), (a11 16), (a11 17), (a11 18), (a11 19), r13, (a14 0), (a14 1), (a14 2), (a14 3), (a14 4), (a14 5), (a14 6), (a14 7), (a14 8), (a14 9), (a14 10), (a14 11), (a14 12), (a14 13), (a14 14), (a14 15), (a14 16), (a14 17), (a14 18), (a14 19)]) := by rw [e15]; rfl
  have r0 := rD σ15.2 hb
  have hw : ∀ σ, va_D (Pc (ad [q, r1, (a2 0), r4, (a5 0), (a5 1), r7, (a8 0), (a8 1), r10, (a11 0), (a11 1), (a11 2), (a11 3), (a11 4), (a11 5), (a11 6), (a11 7), (a11 8), (a11 9), (a11 10), (a11 11), (a11 12), (a11 13), (a11 14), (a11 15), (a11 16), (a11 17), (a11 18), (a11 19), r13, (a14 0), (a14 1), (a14 2), (a14 3), (a14 4), (a14 5), (a14 6), (a14 7), (a14 8), (a14 9), (a14 10), (a14 11), (a14 12), (a14 13), (a14 14), (a14 15), (a14 16), (a14 17), (a14 18), (a14 19)])) (wc cI cH cE (ad [q, r1, (a2 0), r4, (a5 0), (a5 1), r7, (a8 0), (a8 1), r10, (a11 0), (a11 1), (a11 2), (a11 3), (a11 4), (a11 5), (a11 6), (a11 7), (a11 8), (a11 9), (a11 10), (a11 11), (a11 12), (a11 13), (a11 14), (a11 15), (a11 16), (a11 17), (a11 18), (a11 19), r13, (a14 0), (a14 1), (a14 2), (a14 3), (a14 4), (a14 5), (a14 6), (a14 7), (a14 8), (a14 9), (a14 10), (a14 11), (a14 12), (a14 13), (a14 14), (a14 15), (a14 16), (a14 17), (a14 18), (a14 19)]) σ) := wc_D r0.1
  have C1 : Cx p s m args meth c cX7_init 2 "NotePress" D (tyc cI cH cE cJ) (pq q) (wc cI cH cE (ad [q, r1, (a2 0), r4, (a5 0), (a5 1), r7, (a8 0), (a8 1), r10, (a11 0), (a11 1), (a11 2), (a11 3), (a11 4), (a11 5), (a11 6), (a11 7), (a11 8), (a11 9), (a11 10), (a11 11), (a11 12), (a11 13), (a11 14), (a11 15), (a11 16), (a11 17), (a11 18), (a11 19), r13, (a14 0), (a14 1), (a14 2), (a14 3), (a14 4), (a14 5), (a14 6), (a14 7), (a14 8), (a14 9), (a14 10), (a14 11), (a14 12), (a14 13), (a14 14), (a14 15), (a14 16), (a14 17), (a14 18), (a14 19)])) := ⟨C.1, C.2.1, fun σ => of_rD wc_fst r0.1 r0.2, C.2.2.2⟩
  have hJ : ∀ x, Pc (ad [q, r1, (a2 0), r4, (a5 0), (a5 1), r7, (a8 0), (a8 1), r10, (a11 0), (a11 1), (a11 2), (a11 3), (a11 4), (a11 5), (a11 6), (a11 7), (a11 8), (a11 9), (a11 10), (a11 11), (a11 12), (a11 13), (a11 14), (a11 15), (a11 16), (a11 17), (a11 18), (a11 19), r13, (a14 0), (a14 1), (a14 2), (a14 3), (a14 4), (a14 5), (a14 6), (a14 7), (a14 8), (a14 9), (a14 10), (a14 11), (a14 12), (a14 13), (a14 14), (a14 15), (a14 16), (a14 17), (a14 18), (a14 19)]) x → fR (pq q) s.heap.size x := fun x h => by obtain ⟨k, hk, rfl⟩ := h; exact r0.2 k hk
  refine s_to (w := wc cI cH cE (ad [q, r1, (a2 0), r4, (a5 0), (a5 1), r7, (a8 0), (a8 1), r10, (a11 0), (a11 1), (a11 2), (a11 3), (a11 4), (a11 5), (a11 6), (a11 7), (a11 8), (a11 9), (a11 10), (a11 11), (a11 12), (a11 13), (a11 14), (a11 15), (a11 16), (a11 17), (a11 18), (a11 19), r13, (a14 0), (a14 1), (a14 2), (a14 3), (a14 4), (a14 5), (a14 6), (a14 7), (a14 8), (a14 9), (a14 10), (a14 11), (a14 12), (a14 13), (a14 14), (a14 15), (a14 16), (a14 17), (a14 18), (a14 19)])) (τ := sz0) (fun H hP => ?_) ?_
  · rw [e15] at hP
    intro k x hx
    have hk : k < 51 := by rcases Nat.lt_or_ge k 51 with h | h; exact h; rw [wc_ge (by omega)] at hx; cases hx
    rw [wc_at hk] at hx
    cases hx
    match k, hk with
    | 0, _ => exact hP 0 _ rfl
    | 1, _ => exact hP 1 _ rfl
    | 2, _ => exact hP 2 _ rfl
    | 3, _ => exact hP 3 _ rfl
    | 4, _ => exact hP 4 _ rfl
    | 5, _ => exact hP 5 _ rfl
    | 6, _ => exact hP 6 _ rfl
    | 7, _ => exact at_q (hP 7 _ rfl) (fun j hj => by match j, hj with | 0, _ => rfl | 1, _ => rfl | 2, _ => rfl | 3, _ => rfl | 4, _ => rfl | 5, _ => rfl)
    | 8, _ => exact hP 8 _ rfl
    | 9, _ => exact hP 9 _ rfl
    | 10, _ => exact hP 10 _ rfl
    | 11, _ => exact at_q (hP 11 _ rfl) (fun j hj => by match j, hj with | 0, _ => rfl | 1, _ => rfl | 2, _ => rfl)
    | 12, _ => exact hP 12 _ rfl
    | 13, _ => exact at_q (hP 13 _ rfl) (fun j hj => by match j, hj with | 0, _ => rfl | 1, _ => rfl | 2, _ => rfl | 3, _ => rfl)
    | 14, _ => exact hP 14 _ rfl
    | 15, _ => exact hP 15 _ rfl
    | 16, _ => exact hP 16 _ rfl
    | 17, _ => exact hP 17 _ rfl
    | 18, _ => exact hP 18 _ rfl
    | 19, _ => exact at_q (hP 19 _ rfl) (fun j hj => by match j, hj with | 0, _ => rfl | 1, _ => rfl | 2, _ => rfl | 3, _ => rfl)
    | 20, _ => exact hP 20 _ rfl
    | 21, _ => exact hP 21 _ rfl
    | 22, _ => exact hP 22 _ rfl
    | 23, _ => exact hP 23 _ rfl
    | 24, _ => exact hP 24 _ rfl
    | 25, _ => exact at_q (hP 25 _ rfl) (fun j hj => by match j, hj with | 0, _ => rfl | 1, _ => rfl | 2, _ => rfl | 3, _ => rfl)
    | 26, _ => exact hP 26 _ rfl
    | 27, _ => exact hP 27 _ rfl
    | 28, _ => exact hP 28 _ rfl
    | 29, _ => exact hP 29 _ rfl
    | 30, _ => exact hP 30 _ rfl
    | 31, _ => exact hP 31 _ rfl
    | 32, _ => exact at_q (hP 32 _ rfl) (fun j hj => by match j, hj with | 0, _ => rfl | 1, _ => rfl | 2, _ => rfl)
    | 33, _ => exact hP 33 _ rfl
    | 34, _ => exact at_q (hP 34 _ rfl) (fun j hj => by match j, hj with | 0, _ => rfl | 1, _ => rfl | 2, _ => rfl | 3, _ => rfl)
    | 35, _ => exact hP 35 _ rfl
    | 36, _ => exact hP 36 _ rfl
    | 37, _ => exact hP 37 _ rfl
    | 38, _ => exact hP 38 _ rfl
    | 39, _ => exact hP 39 _ rfl
    | 40, _ => exact at_q (hP 40 _ rfl) (fun j hj => by match j, hj with | 0, _ => rfl | 1, _ => rfl | 2, _ => rfl | 3, _ => rfl)
    | 41, _ => exact hP 41 _ rfl
    | 42, _ => exact hP 42 _ rfl
    | 43, _ => exact hP 43 _ rfl
    | 44, _ => exact hP 44 _ rfl
    | 45, _ => exact hP 45 _ rfl
    | 46, _ => exact at_q (hP 46 _ rfl) (fun j hj => by match j, hj with | 0, _ => rfl | 1, _ => rfl | 2, _ => rfl | 3, _ => rfl)
    | 47, _ => exact hP 47 _ rfl
    | 48, _ => exact hP 48 _ rfl
    | 49, _ => exact hP 49 _ rfl
    | 50, _ => exact hP 50 _ rfl
    | k + 51, h => omega
  refine x7_loop C1 hw hJ ⟨Nat.le_of_ble_eq_true rfl, Nat.le_of_ble_eq_true rfl⟩ ⟨Nat.le_of_ble_eq_true rfl, Nat.le_of_ble_eq_true rfl⟩ ?_ 38 0 (by decide) (by decide)
  exact s_vretW (pc := 102) C1 (ad [q, r1, (a2 0), r4, (a5 0), (a5 1), r7, (a8 0), (a8 1), r10, (a11 0), (a11 1), (a11 2), (a11 3), (a11 4), (a11 5), (a11 6), (a11 7), (a11 8), (a11 9), (a11 10), (a11 11), (a11 12), (a11 13), (a11 14), (a11 15), (a11 16), (a11 17), (a11 18), (a11 19), r13, (a14 0), (a14 1), (a14 2), (a14 3), (a14 4), (a14 5), (a14 6), (a14 7), (a14 8), (a14 9), (a14 10), (a14 11), (a14 12), (a14 13), (a14 14), (a14 15), (a14 16), (a14 17), (a14 18), (a14 19)]) rfl (by rw [show qa q (ad [q, r1, (a2 0), r4, (a5 0), (a5 1), r7, (a8 0), (a8 1), r10, (a11 0), (a11 1), (a11 2), (a11 3), (a11 4), (a11 5), (a11 6), (a11 7), (a11 8), (a11 9), (a11 10), (a11 11), (a11 12), (a11 13), (a11 14), (a11 15), (a11 16), (a11 17), (a11 18), (a11 19), r13, (a14 0), (a14 1), (a14 2), (a14 3), (a14 4), (a14 5), (a14 6), (a14 7), (a14 8), (a14 9), (a14 10), (a14 11), (a14 12), (a14 13), (a14 14), (a14 15), (a14 16), (a14 17), (a14 18), (a14 19)]) = (ad [q, r1, (a2 0), r4, (a5 0), (a5 1), r7, (a8 0), (a8 1), r10, (a11 0), (a11 1), (a11 2), (a11 3), (a11 4), (a11 5), (a11 6), (a11 7), (a11 8), (a11 9), (a11 10), (a11 11), (a11 12), (a11 13), (a11 14), (a11 15), (a11 16), (a11 17), (a11 18), (a11 19), r13, (a14 0), (a14 1), (a14 2), (a14 3), (a14 4), (a14 5), (a14 6), (a14 7), (a14 8), (a14 9), (a14 10), (a14 11), (a14 12), (a14 13), (a14 14), (a14 15), (a14 16), (a14 17), (a14 18), (a14 19)]) from funext fun k => by cases k <;> rfl]) rfl rfl hr dX7_init_102
