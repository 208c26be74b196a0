set_option maxHeartbeats 4000000 in
set_option maxRecDepth 100000 in
theorem c_X0_clear (l : Launch) (D : va_G) {cI cH cE cJ : ClassId} {a : Nat → Nat} (hw : ∀ σ, va_D (Pc a) (wc cI cH cE a σ)) {σ : Me} {σ' : Me}  (hf : f_X0_clear σ = some σ') : Mq l D (tyc cI cH cE cJ) (wc cI cH cE a) (Pc a) yX0_clear cX0_clear 1 (Option.none : Option Jvm.ClassFile.FieldType) 0 [.ref (a 6)] σ (qV D (wc cI cH cE a) (Pc a) σ') := by
  refine mOf (plainFor_of_name (by decide)) hw (Nat.le_of_ble_eq_true rfl) [(0, .ref (a 6))] rfl ?_
  intro p e s m args below meth c C hr
  unfold f_X0_clear at hf
  refine g_aload_n (pc := 0) C dX0_clear_0 0 rfl rfl ?_
  refine g_iconst (pc := 1) C dX0_clear_1 ic_0 ?_
  refine g_put (pc := 2) C in_X0 tyX0 tyX0_ok nmX0 wc_6 cl_X0 2 (by decide) tw_72 rfl rfl rfl (Nat.le_of_ble_eq_true rfl) wp_6_2 dX0_clear_2 ?_
  cases hf
  exact g_vret (pc := 5) C hr dX0_clear_5

set_option maxHeartbeats 4000000 in
set_option maxRecDepth 100000 in
theorem c_X0_forgetOldest (l : Launch) (D : va_G) {cI cH cE cJ : ClassId} {a : Nat → Nat} (hw : ∀ σ, va_D (Pc a) (wc cI cH cE a σ)) {σ : Me} {σ' : Me}  (hf : f_X0_forgetOldest σ = some σ') : Mq l D (tyc cI cH cE cJ) (wc cI cH cE a) (Pc a) yX0_forgetOldest cX0_forgetOldest 2 (Option.none : Option Jvm.ClassFile.FieldType) 0 [.ref (a 6)] σ (qV D (wc cI cH cE a) (Pc a) σ') := by
  refine mOf (plainFor_of_name (by decide)) hw (Nat.le_of_ble_eq_true rfl) [(0, .ref (a 6))] rfl ?_
  intro p e s m args below meth c C hr
  have b2 : ∀ (n : Nat) (σ : Me) (x1 : Int32) (hf : f_X0_forgetOldest_2 n σ x1 = some σ'), Gg p l e (rmd 0) s m args below meth c D (Pc a) (wc cI cH cE a) 2 0 0 (MQ below ((qV D (wc cI cH cE a) (Pc a) σ') s.heap.size) args s 0 0 (fR (Pc a) s.heap.size)) σ [(0, .ref (a 6)), (1, .int x1)] 2 [] := by
    intro n
    induction n with
    | zero => intro σ x1 hf; exact absurd hf (by simp [f_X0_forgetOldest_2])
    | succ n ih =>
      intro σ x1 hf
      rw [f_X0_forgetOldest_2] at hf
      refine g_iload_n (pc := 2) C dX0_forgetOldest_2 1 rfl rfl ?_
      refine g_bipush (pc := 3) C dX0_forgetOldest_3 bp_6 ?_
      refine g_icmp_ge (pc := 5) C 42 dX0_forgetOldest_5 (by decide) (fun q1 => ?_) (fun q1 => ?_)
      · replace hf := (if_pos q1).symm.trans hf
        refine g_aload_n (pc := 42) C dX0_forgetOldest_42 0 rfl rfl ?_
        refine g_iconst (pc := 43) C dX0_forgetOldest_43 ic_5 ?_
        refine g_put (pc := 44) C in_X0 tyX0 tyX0_ok nmX0 wc_6 cl_X0 2 (by decide) tw_72 rfl rfl rfl (Nat.le_of_ble_eq_true rfl) wp_6_2 dX0_forgetOldest_44 ?_
        cases hf
        exact g_vret (pc := 47) C hr dX0_forgetOldest_47
      · replace hf := (if_neg q1).symm.trans hf
        refine g_aload_n (pc := 8) C dX0_forgetOldest_8 0 rfl rfl ?_
        refine g_get (pc := 9) C in_X0 wc_6 cl_X0 0 (by decide) tw_70 rfl dX0_forgetOldest_9 ?_
        refine g_iload_n (pc := 12) C dX0_forgetOldest_12 1 rfl rfl ?_
        refine g_iconst (pc := 13) C dX0_forgetOldest_13 ic_1 ?_
        refine g_isub (pc := 14) C dX0_forgetOldest_14 ?_
        refine g_aload_n (pc := 15) C dX0_forgetOldest_15 0 rfl rfl ?_
        refine g_get (pc := 16) C in_X0 wc_6 cl_X0 0 (by decide) tw_70 rfl dX0_forgetOldest_16 ?_
        refine g_iload_n (pc := 19) C dX0_forgetOldest_19 1 rfl rfl ?_
        obtain ⟨q2, hf⟩ := gd_some hf
        rcases e3 : rf (σ 7 x1.toNatClampNeg) with _ | k93
        · rw [e3] at hf; replace hf := oc_n.symm.trans hf
          refine g_aald (pc := 20) C 1 .null wc_7 rfl q2 (by show va_rf ((rf (σ 7 x1.toNatClampNeg)).map a) = _; rw [e3]; rfl) dX0_forgetOldest_20 ?_
          obtain ⟨q4, hf⟩ := gd_some hf
          refine g_aastN (pc := 21) C 1 wc_7 rfl q4 wa_7n dX0_forgetOldest_21 ?_
          refine g_aload_n (pc := 22) C dX0_forgetOldest_22 0 rfl rfl ?_
          refine g_get (pc := 23) C in_X0 wc_6 cl_X0 1 (by decide) tw_71 rfl dX0_forgetOldest_23 ?_
          refine g_iload_n (pc := 26) C dX0_forgetOldest_26 1 rfl rfl ?_
          refine g_iconst (pc := 27) C dX0_forgetOldest_27 ic_1 ?_
          refine g_isub (pc := 28) C dX0_forgetOldest_28 ?_
          refine g_aload_n (pc := 29) C dX0_forgetOldest_29 0 rfl rfl ?_
          refine g_get (pc := 30) C in_X0 wc_6 cl_X0 1 (by decide) tw_71 rfl dX0_forgetOldest_30 ?_
          refine g_iload_n (pc := 33) C dX0_forgetOldest_33 1 rfl rfl ?_
          obtain ⟨q5, hf⟩ := gd_some hf
          refine g_iald (pc := 34) C 0 wc_8 rfl q5 rfl dX0_forgetOldest_34 ?_
          obtain ⟨q6, hf⟩ := gd_some hf
          refine g_iast (pc := 35) C 0 wc_8 rfl q6 rfl wa_8 dX0_forgetOldest_35 ?_
          refine g_iinc (pc := 36) C [(1, .int (x1 + 1)), (0, .ref (a 6))] 1 dX0_forgetOldest_36 rfl ic_1 (by decide) rfl ?_
          refine g_goto (pc := 39) C 2 dX0_forgetOldest_39 (by decide) ?_
          exact g_sub [1, 0] rfl (ih (up (up σ 7 (x1 - 1).toNatClampNeg (-1)) 8 (x1 - 1).toNatClampNeg ((up σ 7 (x1 - 1).toNatClampNeg (-1)) 8 x1.toNatClampNeg)) (x1 + 1) hf)
        · rw [e3] at hf; replace hf := oc_s.symm.trans hf
          obtain ⟨hk93, hf⟩ := gd_some hf
          replace hk93 := of_decide_eq_true hk93
          refine g_aald (pc := 20) C 1 (.ref (a k93)) wc_7 rfl q2 (by show va_rf ((rf (σ 7 x1.toNatClampNeg)).map a) = _; rw [e3]; rfl) dX0_forgetOldest_20 ?_
          obtain ⟨q7, hf⟩ := gd_some hf
          refine g_aast (pc := 21) C (r := (RX4, TX4, 4)) 1 wc_7 rfl (wc_14 hk93) cl_X4 q7 (wa_7s (kd_bd (by rw [hk93]; decide))) dX0_forgetOldest_21 ?_
          refine g_aload_n (pc := 22) C dX0_forgetOldest_22 0 rfl rfl ?_
          refine g_get (pc := 23) C in_X0 wc_6 cl_X0 1 (by decide) tw_71 rfl dX0_forgetOldest_23 ?_
          refine g_iload_n (pc := 26) C dX0_forgetOldest_26 1 rfl rfl ?_
          refine g_iconst (pc := 27) C dX0_forgetOldest_27 ic_1 ?_
          refine g_isub (pc := 28) C dX0_forgetOldest_28 ?_
          refine g_aload_n (pc := 29) C dX0_forgetOldest_29 0 rfl rfl ?_
          refine g_get (pc := 30) C in_X0 wc_6 cl_X0 1 (by decide) tw_71 rfl dX0_forgetOldest_30 ?_
          refine g_iload_n (pc := 33) C dX0_forgetOldest_33 1 rfl rfl ?_
          obtain ⟨q8, hf⟩ := gd_some hf
          refine g_iald (pc := 34) C 0 wc_8 rfl q8 rfl dX0_forgetOldest_34 ?_
          obtain ⟨q9, hf⟩ := gd_some hf
          refine g_iast (pc := 35) C 0 wc_8 rfl q9 rfl wa_8 dX0_forgetOldest_35 ?_
          refine g_iinc (pc := 36) C [(1, .int (x1 + 1)), (0, .ref (a 6))] 1 dX0_forgetOldest_36 rfl ic_1 (by decide) rfl ?_
          refine g_goto (pc := 39) C 2 dX0_forgetOldest_39 (by decide) ?_
          exact g_sub [1, 0] rfl (ih (up (up σ 7 (x1 - 1).toNatClampNeg (nI k93)) 8 (x1 - 1).toNatClampNeg ((up σ 7 (x1 - 1).toNatClampNeg (nI k93)) 8 x1.toNatClampNeg)) (x1 + 1) hf)
  unfold f_X0_forgetOldest at hf
  refine g_iconst (pc := 0) C dX0_forgetOldest_0 ic_1 ?_
  refine g_istore_n (pc := 1) C [(1, .int 1), (0, .ref (a 6))] dX0_forgetOldest_1 rfl (by decide) rfl ?_
  exact g_sub [1, 0] rfl (b2 1000 σ 1 hf)

set_option maxHeartbeats 4000000 in
set_option maxRecDepth 100000 in
theorem c_X0_remember_n (l : Launch) (D : va_G) {cI cH cE cJ : ClassId} {a : Nat → Nat} (hw : ∀ σ, va_D (Pc a) (wc cI cH cE a σ)) {σ : Me} {x2 : Int32} {σ' : Me}  (hf : f_X0_remember_n σ x2 = some σ') : Mq l D (tyc cI cH cE cJ) (wc cI cH cE a) (Pc a) yX0_remember cX0_remember 3 (Option.none : Option Jvm.ClassFile.FieldType) 1 [.ref (a 6), .null, .int x2] σ (qV D (wc cI cH cE a) (Pc a) σ') := by
  refine mOf (plainFor_of_name (by decide)) hw (Nat.le_of_ble_eq_true rfl) [(0, .ref (a 6)), (1, .null), (2, .int x2)] rfl ?_
  intro p e s m args below meth c C hr
  have b13 : ∀ (σ : Me) (hf : f_X0_remember_n_13 σ x2 = some σ'), Gg p l e (rmd 1) s m args below meth c D (Pc a) (wc cI cH cE a) 3 0 0 (MQ below ((qV D (wc cI cH cE a) (Pc a) σ') s.heap.size) args s 0 0 (fR (Pc a) s.heap.size)) σ [(0, .ref (a 6)), (1, .null), (2, .int x2)] 13 [] := by
    intro  σ hf
    unfold f_X0_remember_n_13 at hf
    refine g_aload_n (pc := 13) C dX0_remember_13 0 rfl rfl ?_
    refine g_get (pc := 14) C in_X0 wc_6 cl_X0 0 (by decide) tw_70 rfl dX0_remember_14 ?_
    refine g_aload_n (pc := 17) C dX0_remember_17 0 rfl rfl ?_
    refine g_get (pc := 18) C in_X0 wc_6 cl_X0 2 (by decide) tw_72 rfl dX0_remember_18 ?_
    refine g_aload_nN (pc := 21) C dX0_remember_21 1 rfl rfl ?_
    obtain ⟨q1, hf⟩ := gd_some hf
    refine g_aastN (pc := 22) C 1 wc_7 rfl q1 wa_7n dX0_remember_22 ?_
    refine g_aload_n (pc := 23) C dX0_remember_23 0 rfl rfl ?_
    refine g_get (pc := 24) C in_X0 wc_6 cl_X0 1 (by decide) tw_71 rfl dX0_remember_24 ?_
    refine g_aload_n (pc := 27) C dX0_remember_27 0 rfl rfl ?_
    refine g_get (pc := 28) C in_X0 wc_6 cl_X0 2 (by decide) tw_72 rfl dX0_remember_28 ?_
    refine g_iload_n (pc := 31) C dX0_remember_31 2 rfl rfl ?_
    obtain ⟨q2, hf⟩ := gd_some hf
    refine g_iast (pc := 32) C 0 wc_8 rfl q2 rfl wa_8 dX0_remember_32 ?_
    refine g_aload_n (pc := 33) C dX0_remember_33 0 rfl rfl ?_
    refine g_dup (pc := 34) C dX0_remember_34 rfl ?_
    refine g_get (pc := 35) C in_X0 wc_6 cl_X0 2 (by decide) tw_72 rfl dX0_remember_35 ?_
    refine g_iconst (pc := 38) C dX0_remember_38 ic_1 ?_
    refine g_iadd (pc := 39) C dX0_remember_39 ?_
    refine g_put (pc := 40) C in_X0 tyX0 tyX0_ok nmX0 wc_6 cl_X0 2 (by decide) tw_72 rfl rfl rfl (Nat.le_of_ble_eq_true rfl) wp_6_2 dX0_remember_40 ?_
    cases hf
    exact g_vret (pc := 43) C hr dX0_remember_43
  unfold f_X0_remember_n at hf
  refine g_aload_n (pc := 0) C dX0_remember_0 0 rfl rfl ?_
  refine g_get (pc := 1) C in_X0 wc_6 cl_X0 2 (by decide) tw_72 rfl dX0_remember_1 ?_
  refine g_bipush (pc := 4) C dX0_remember_4 bp_6 ?_
  refine g_icmp_lt (pc := 6) C 13 dX0_remember_6 (by decide) (fun q3 => ?_) (fun q3 => ?_)
  · replace hf := (if_pos q3).symm.trans hf
    exact g_sub [0, 1, 2] rfl (b13 σ hf)
  · replace hf := (if_neg q3).symm.trans hf
    refine g_aload_n (pc := 9) C dX0_remember_9 0 rfl rfl ?_
    obtain ⟨s4, h4, hf⟩ := bd_some hf
    refine g_cVv (pc := 10) C (st := []) jW.rf (c_X0_forgetOldest l D hw h4) y_X0_forgetOldest tw_369 rfl ⟨by decide, by decide⟩ ⟨Nat.zero_le _, Nat.zero_le _⟩ (Nat.le_of_ble_eq_true rfl) wc_6 cl_X0 rfl dX0_remember_10 rfl ?_
    exact g_sub [0, 1, 2] rfl (b13 s4 hf)

set_option maxHeartbeats 4000000 in
set_option maxRecDepth 100000 in
theorem c_X0_remember_s (l : Launch) (D : va_G) {cI cH cE cJ : ClassId} {a : Nat → Nat} (hw : ∀ σ, va_D (Pc a) (wc cI cH cE a σ)) {σ : Me} {k1 : Nat} {x2 : Int32} (hk1 : kd k1 = 14) {σ' : Me}  (hf : f_X0_remember_s σ k1 x2 = some σ') : Mq l D (tyc cI cH cE cJ) (wc cI cH cE a) (Pc a) yX0_remember cX0_remember 3 (Option.none : Option Jvm.ClassFile.FieldType) 1 [.ref (a 6), .ref (a k1), .int x2] σ (qV D (wc cI cH cE a) (Pc a) σ') := by
  refine mOf (plainFor_of_name (by decide)) hw (Nat.le_of_ble_eq_true rfl) [(0, .ref (a 6)), (1, .ref (a k1)), (2, .int x2)] rfl ?_
  intro p e s m args below meth c C hr
  have b13 : ∀ (σ : Me) (hf : f_X0_remember_s_13 σ k1 x2 = some σ'), Gg p l e (rmd 1) s m args below meth c D (Pc a) (wc cI cH cE a) 3 0 0 (MQ below ((qV D (wc cI cH cE a) (Pc a) σ') s.heap.size) args s 0 0 (fR (Pc a) s.heap.size)) σ [(0, .ref (a 6)), (1, .ref (a k1)), (2, .int x2)] 13 [] := by
    intro  σ hf
    unfold f_X0_remember_s_13 at hf
    refine g_aload_n (pc := 13) C dX0_remember_13 0 rfl rfl ?_
    refine g_get (pc := 14) C in_X0 wc_6 cl_X0 0 (by decide) tw_70 rfl dX0_remember_14 ?_
    refine g_aload_n (pc := 17) C dX0_remember_17 0 rfl rfl ?_
    refine g_get (pc := 18) C in_X0 wc_6 cl_X0 2 (by decide) tw_72 rfl dX0_remember_18 ?_
    refine g_aload_n (pc := 21) C dX0_remember_21 1 rfl rfl ?_
    obtain ⟨q1, hf⟩ := gd_some hf
    refine g_aast (pc := 22) C (r := (RX4, TX4, 4)) 1 wc_7 rfl (wc_14 hk1) cl_X4 q1 (wa_7s (kd_bd (by rw [hk1]; decide))) dX0_remember_22 ?_
    refine g_aload_n (pc := 23) C dX0_remember_23 0 rfl rfl ?_
    refine g_get (pc := 24) C in_X0 wc_6 cl_X0 1 (by decide) tw_71 rfl dX0_remember_24 ?_
    refine g_aload_n (pc := 27) C dX0_remember_27 0 rfl rfl ?_
    refine g_get (pc := 28) C in_X0 wc_6 cl_X0 2 (by decide) tw_72 rfl dX0_remember_28 ?_
    refine g_iload_n (pc := 31) C dX0_remember_31 2 rfl rfl ?_
    obtain ⟨q2, hf⟩ := gd_some hf
    refine g_iast (pc := 32) C 0 wc_8 rfl q2 rfl wa_8 dX0_remember_32 ?_
    refine g_aload_n (pc := 33) C dX0_remember_33 0 rfl rfl ?_
    refine g_dup (pc := 34) C dX0_remember_34 rfl ?_
    refine g_get (pc := 35) C in_X0 wc_6 cl_X0 2 (by decide) tw_72 rfl dX0_remember_35 ?_
    refine g_iconst (pc := 38) C dX0_remember_38 ic_1 ?_
    refine g_iadd (pc := 39) C dX0_remember_39 ?_
    refine g_put (pc := 40) C in_X0 tyX0 tyX0_ok nmX0 wc_6 cl_X0 2 (by decide) tw_72 rfl rfl rfl (Nat.le_of_ble_eq_true rfl) wp_6_2 dX0_remember_40 ?_
    cases hf
    exact g_vret (pc := 43) C hr dX0_remember_43
  unfold f_X0_remember_s at hf
  refine g_aload_n (pc := 0) C dX0_remember_0 0 rfl rfl ?_
  refine g_get (pc := 1) C in_X0 wc_6 cl_X0 2 (by decide) tw_72 rfl dX0_remember_1 ?_
  refine g_bipush (pc := 4) C dX0_remember_4 bp_6 ?_
  refine g_icmp_lt (pc := 6) C 13 dX0_remember_6 (by decide) (fun q3 => ?_) (fun q3 => ?_)
  · replace hf := (if_pos q3).symm.trans hf
    exact g_sub [0, 1, 2] rfl (b13 σ hf)
  · replace hf := (if_neg q3).symm.trans hf
    refine g_aload_n (pc := 9) C dX0_remember_9 0 rfl rfl ?_
    obtain ⟨s4, h4, hf⟩ := bd_some hf
    refine g_cVv (pc := 10) C (st := []) jW.rf (c_X0_forgetOldest l D hw h4) y_X0_forgetOldest tw_369 rfl ⟨by decide, by decide⟩ ⟨Nat.zero_le _, Nat.zero_le _⟩ (Nat.le_of_ble_eq_true rfl) wc_6 cl_X0 rfl dX0_remember_10 rfl ?_
    exact g_sub [0, 1, 2] rfl (b13 s4 hf)

set_option maxHeartbeats 4000000 in
set_option maxRecDepth 100000 in
theorem c_X0_rememberRun (l : Launch) (D : va_G) {cI cH cE cJ : ClassId} {a : Nat → Nat} (hw : ∀ σ, va_D (Pc a) (wc cI cH cE a σ)) {σ : Me} {k1 : Nat} {x2 : Int32} (hk1 : kd k1 = 14) {σ' : Me}  (hf : f_X0_rememberRun σ k1 x2 = some σ') : Mq l D (tyc cI cH cE cJ) (wc cI cH cE a) (Pc a) yX0_rememberRun cX0_rememberRun 3 (Option.none : Option Jvm.ClassFile.FieldType) 2 [.ref (a 6), .ref (a k1), .int x2] σ (qV D (wc cI cH cE a) (Pc a) σ') := by
  refine mOf (plainFor_of_name (by decide)) hw (Nat.le_of_ble_eq_true rfl) [(0, .ref (a 6)), (1, .ref (a k1)), (2, .int x2)] rfl ?_
  intro p e s m args below meth c C hr
  unfold f_X0_rememberRun at hf
  refine g_aload_n (pc := 0) C dX0_rememberRun_0 0 rfl rfl ?_
  refine g_aload_n (pc := 1) C dX0_rememberRun_1 1 rfl rfl ?_
  refine g_iload_n (pc := 2) C dX0_rememberRun_2 2 rfl rfl ?_
  obtain ⟨s1, h1, hf⟩ := bd_some hf
  refine g_cVv (pc := 3) C (st := []) jW.rf (c_X0_remember_s l D hw hk1 h1) y_X0_remember tw_365 rfl ⟨by decide, by decide⟩ ⟨Nat.zero_le _, Nat.zero_le _⟩ (Nat.le_of_ble_eq_true rfl) wc_6 cl_X0 rfl dX0_rememberRun_3 rfl ?_
  cases hf
  exact g_vret (pc := 6) C hr dX0_rememberRun_6

set_option maxHeartbeats 4000000 in
set_option maxRecDepth 100000 in
theorem c_X0_rememberSpoiled (l : Launch) (D : va_G) {cI cH cE cJ : ClassId} {a : Nat → Nat} (hw : ∀ σ, va_D (Pc a) (wc cI cH cE a σ)) {σ : Me} {x1 : Int32} {σ' : Me}  (hf : f_X0_rememberSpoiled σ x1 = some σ') : Mq l D (tyc cI cH cE cJ) (wc cI cH cE a) (Pc a) yX0_rememberSpoiled cX0_rememberSpoiled 2 (Option.none : Option Jvm.ClassFile.FieldType) 2 [.ref (a 6), .int x1] σ (qV D (wc cI cH cE a) (Pc a) σ') := by
  refine mOf (plainFor_of_name (by decide)) hw (Nat.le_of_ble_eq_true rfl) [(0, .ref (a 6)), (1, .int x1)] rfl ?_
  intro p e s m args below meth c C hr
  unfold f_X0_rememberSpoiled at hf
  refine g_aload_n (pc := 0) C dX0_rememberSpoiled_0 0 rfl rfl ?_
  refine g_null (pc := 1) C dX0_rememberSpoiled_1 ?_
  refine g_iload_n (pc := 2) C dX0_rememberSpoiled_2 1 rfl rfl ?_
  obtain ⟨s1, h1, hf⟩ := bd_some hf
  refine g_cVv (pc := 3) C (st := []) jW.rf (c_X0_remember_n l D hw h1) y_X0_remember tw_365 rfl ⟨by decide, by decide⟩ ⟨Nat.zero_le _, Nat.zero_le _⟩ (Nat.le_of_ble_eq_true rfl) wc_6 cl_X0 rfl dX0_rememberSpoiled_3 rfl ?_
  cases hf
  exact g_vret (pc := 6) C hr dX0_rememberSpoiled_6

set_option maxHeartbeats 4000000 in
set_option maxRecDepth 100000 in
theorem c_X0_latestShare (l : Launch) (D : va_G) {cI cH cE cJ : ClassId} {a : Nat → Nat} (hw : ∀ σ, va_D (Pc a) (wc cI cH cE a σ)) {σ : Me} {r : Option Nat} (hf : f_X0_latestShare σ = some r) : Mq l D (tyc cI cH cE cJ) (wc cI cH cE a) (Pc a) yX0_latestShare cX0_latestShare 1 (Option.some (Jvm.ClassFile.FieldType.object "NotePress$Share")) 0 [.ref (a 6)] σ (qE a D (wc cI cH cE a) (Pc a) σ r) := by
  refine mOf (plainFor_of_name (by decide)) hw (Nat.le_of_ble_eq_true rfl) [(0, .ref (a 6))] rfl ?_
  intro p e s m args below meth c C hr
  unfold f_X0_latestShare at hf
  refine g_aload_n (pc := 0) C dX0_latestShare_0 0 rfl rfl ?_
  refine g_get (pc := 1) C in_X0 wc_6 cl_X0 2 (by decide) tw_72 rfl dX0_latestShare_1 ?_
  refine g_iconst (pc := 4) C dX0_latestShare_4 ic_1 ?_
  refine g_icmp_ge (pc := 5) C 12 dX0_latestShare_5 (by decide) (fun q1 => ?_) (fun q1 => ?_)
  · replace hf := (if_pos q1).symm.trans hf
    refine g_aload_n (pc := 12) C dX0_latestShare_12 0 rfl rfl ?_
    refine g_get (pc := 13) C in_X0 wc_6 cl_X0 0 (by decide) tw_70 rfl dX0_latestShare_13 ?_
    refine g_aload_n (pc := 16) C dX0_latestShare_16 0 rfl rfl ?_
    refine g_get (pc := 17) C in_X0 wc_6 cl_X0 2 (by decide) tw_72 rfl dX0_latestShare_17 ?_
    refine g_iconst (pc := 20) C dX0_latestShare_20 ic_1 ?_
    refine g_isub (pc := 21) C dX0_latestShare_21 ?_
    obtain ⟨q2, hf⟩ := gd_some hf
    rcases e3 : rf (σ 7 ((σ 6 2) - 1).toNatClampNeg) with _ | k93
    · rw [e3] at hf; replace hf := oc_n.symm.trans hf
      refine g_aald (pc := 22) C 1 .null wc_7 rfl q2 (by show va_rf ((rf (σ 7 ((σ 6 2) - 1).toNatClampNeg)).map a) = _; rw [e3]; rfl) dX0_latestShare_22 ?_
      cases hf
      exact g_eret (pc := 23) (a := a) (r := none) C hr dX0_latestShare_23
    · rw [e3] at hf; replace hf := oc_s.symm.trans hf
      obtain ⟨hk93, hf⟩ := gd_some hf
      replace hk93 := of_decide_eq_true hk93
      refine g_aald (pc := 22) C 1 (.ref (a k93)) wc_7 rfl q2 (by show va_rf ((rf (σ 7 ((σ 6 2) - 1).toNatClampNeg)).map a) = _; rw [e3]; rfl) dX0_latestShare_22 ?_
      cases hf
      exact g_eret (pc := 23) (a := a) (r := (some k93)) C hr dX0_latestShare_23
  · replace hf := (if_neg q1).symm.trans hf
    refine g_null (pc := 8) C dX0_latestShare_8 ?_
    refine g_goto (pc := 9) C 23 dX0_latestShare_9 (by decide) ?_
    cases hf
    exact g_eret (pc := 23) (a := a) (r := none) C hr dX0_latestShare_23

set_option maxHeartbeats 4000000 in
set_option maxRecDepth 100000 in
theorem c_X0_latestAmount (l : Launch) (D : va_G) {cI cH cE cJ : ClassId} {a : Nat → Nat} (hw : ∀ σ, va_D (Pc a) (wc cI cH cE a σ)) {σ : Me} {r : Int32} (hf : f_X0_latestAmount σ = some r) : Mq l D (tyc cI cH cE cJ) (wc cI cH cE a) (Pc a) yX0_latestAmount cX0_latestAmount 1 (Option.some Jvm.ClassFile.FieldType.int) 0 [.ref (a 6)] σ (qI D (wc cI cH cE a) (Pc a) σ r) := by
  refine mOf (plainFor_of_name (by decide)) hw (Nat.le_of_ble_eq_true rfl) [(0, .ref (a 6))] rfl ?_
  intro p e s m args below meth c C hr
  unfold f_X0_latestAmount at hf
  refine g_aload_n (pc := 0) C dX0_latestAmount_0 0 rfl rfl ?_
  refine g_get (pc := 1) C in_X0 wc_6 cl_X0 2 (by decide) tw_72 rfl dX0_latestAmount_1 ?_
  refine g_iconst (pc := 4) C dX0_latestAmount_4 ic_1 ?_
  refine g_icmp_ge (pc := 5) C 12 dX0_latestAmount_5 (by decide) (fun q1 => ?_) (fun q1 => ?_)
  · replace hf := (if_pos q1).symm.trans hf
    refine g_aload_n (pc := 12) C dX0_latestAmount_12 0 rfl rfl ?_
    refine g_get (pc := 13) C in_X0 wc_6 cl_X0 1 (by decide) tw_71 rfl dX0_latestAmount_13 ?_
    refine g_aload_n (pc := 16) C dX0_latestAmount_16 0 rfl rfl ?_
    refine g_get (pc := 17) C in_X0 wc_6 cl_X0 2 (by decide) tw_72 rfl dX0_latestAmount_17 ?_
    refine g_iconst (pc := 20) C dX0_latestAmount_20 ic_1 ?_
    refine g_isub (pc := 21) C dX0_latestAmount_21 ?_
    obtain ⟨q2, hf⟩ := gd_some hf
    refine g_iald (pc := 22) C 0 wc_8 rfl q2 rfl dX0_latestAmount_22 ?_
    cases hf
    exact g_iret (pc := 23) C hr dX0_latestAmount_23
  · replace hf := (if_neg q1).symm.trans hf
    refine g_iconst (pc := 8) C dX0_latestAmount_8 ic_0 ?_
    refine g_goto (pc := 9) C 23 dX0_latestAmount_9 (by decide) ?_
    cases hf
    exact g_iret (pc := 23) C hr dX0_latestAmount_23

set_option maxHeartbeats 4000000 in
set_option maxRecDepth 100000 in
theorem c_X0_forgetLatest (l : Launch) (D : va_G) {cI cH cE cJ : ClassId} {a : Nat → Nat} (hw : ∀ σ, va_D (Pc a) (wc cI cH cE a σ)) {σ : Me} {σ' : Me}  (hf : f_X0_forgetLatest σ = some σ') : Mq l D (tyc cI cH cE cJ) (wc cI cH cE a) (Pc a) yX0_forgetLatest cX0_forgetLatest 1 (Option.none : Option Jvm.ClassFile.FieldType) 1 [.ref (a 6)] σ (qV D (wc cI cH cE a) (Pc a) σ') := by
  refine mOf (plainFor_of_name (by decide)) hw (Nat.le_of_ble_eq_true rfl) [(0, .ref (a 6))] rfl ?_
  intro p e s m args below meth c C hr
  unfold f_X0_forgetLatest at hf
  refine g_aload_n (pc := 0) C dX0_forgetLatest_0 0 rfl rfl ?_
  refine g_aload_n (pc := 1) C dX0_forgetLatest_1 0 rfl rfl ?_
  refine g_get (pc := 2) C in_X0 wc_6 cl_X0 2 (by decide) tw_72 rfl dX0_forgetLatest_2 ?_
  refine g_iconst (pc := 5) C dX0_forgetLatest_5 ic_1 ?_
  refine g_isub (pc := 6) C dX0_forgetLatest_6 ?_
  refine g_iconst (pc := 7) C dX0_forgetLatest_7 ic_0 ?_
  obtain ⟨r1, h1, hf⟩ := bd_some hf
  refine g_cSi (pc := 8) C (st := [.ref (a 6)]) jW.rf (c_J9_max_7cf53 l D hw h1) y_J9_max_7cf53 tw_459 rfl ⟨by decide, by decide⟩ ⟨Nat.zero_le _, Nat.zero_le _⟩ (Nat.le_of_ble_eq_true rfl) dX0_forgetLatest_8 rfl ?_
  refine g_put (pc := 11) C in_X0 tyX0 tyX0_ok nmX0 wc_6 cl_X0 2 (by decide) tw_72 rfl rfl rfl (Nat.le_of_ble_eq_true rfl) wp_6_2 dX0_forgetLatest_11 ?_
  cases hf
  exact g_vret (pc := 14) C hr dX0_forgetLatest_14

set_option maxHeartbeats 4000000 in
set_option maxRecDepth 100000 in
theorem c_X5_begin (l : Launch) (D : va_G) {cI cH cE cJ : ClassId} {a : Nat → Nat} (hw : ∀ σ, va_D (Pc a) (wc cI cH cE a σ)) {σ : Me} {x1 : Int32} {σ' : Me}  (hf : f_X5_begin σ x1 = some σ') : Mq l D (tyc cI cH cE cJ) (wc cI cH cE a) (Pc a) yX5_begin cX5_begin 2 (Option.none : Option Jvm.ClassFile.FieldType) 1 [.ref (a 3), .int x1] σ (qV D (wc cI cH cE a) (Pc a) σ') := by
  refine mOf (plainFor_of_name (by decide)) hw (Nat.le_of_ble_eq_true rfl) [(0, .ref (a 3)), (1, .int x1)] rfl ?_
  intro p e s m args below meth c C hr
  unfold f_X5_begin at hf
  refine g_aload_n (pc := 0) C dX5_begin_0 0 rfl rfl ?_
  refine g_iload_n (pc := 1) C dX5_begin_1 1 rfl rfl ?_
  refine g_bipush (pc := 2) C dX5_begin_2 bp_99 ?_
  obtain ⟨r1, h1, hf⟩ := bd_some hf
  refine g_cSi (pc := 4) C (st := [.ref (a 3)]) jW.rf (c_J9_min_7cf53 l D hw h1) y_J9_min_7cf53 tw_294 rfl ⟨by decide, by decide⟩ ⟨Nat.zero_le _, Nat.zero_le _⟩ (Nat.le_of_ble_eq_true rfl) dX5_begin_4 rfl ?_
  refine g_put (pc := 7) C in_X5 tyX5 tyX5_ok nmX5 wc_3 cl_X5 2 (by decide) tw_49 rfl rfl rfl (Nat.le_of_ble_eq_true rfl) wp_3_2 dX5_begin_7 ?_
  refine g_aload_n (pc := 10) C dX5_begin_10 0 rfl rfl ?_
  refine g_iconst (pc := 11) C dX5_begin_11 ic_0 ?_
  refine g_put (pc := 12) C in_X5 tyX5 tyX5_ok nmX5 wc_3 cl_X5 3 (by decide) tw_51 rfl rfl rfl (Nat.le_of_ble_eq_true rfl) wp_3_3 dX5_begin_12 ?_
  cases hf
  exact g_vret (pc := 15) C hr dX5_begin_15

set_option maxHeartbeats 4000000 in
set_option maxRecDepth 100000 in
theorem c_X5_left (l : Launch) (D : va_G) {cI cH cE cJ : ClassId} {a : Nat → Nat} (hw : ∀ σ, va_D (Pc a) (wc cI cH cE a σ)) {σ : Me} {r : Int32} (hf : f_X5_left σ = some r) : Mq l D (tyc cI cH cE cJ) (wc cI cH cE a) (Pc a) yX5_left cX5_left 1 (Option.some Jvm.ClassFile.FieldType.int) 0 [.ref (a 3)] σ (qI D (wc cI cH cE a) (Pc a) σ r) := by
  refine mOf (plainFor_of_name (by decide)) hw (Nat.le_of_ble_eq_true rfl) [(0, .ref (a 3))] rfl ?_
  intro p e s m args below meth c C hr
  unfold f_X5_left at hf
  refine g_aload_n (pc := 0) C dX5_left_0 0 rfl rfl ?_
  refine g_get (pc := 1) C in_X5 wc_3 cl_X5 2 (by decide) tw_49 rfl dX5_left_1 ?_
  refine g_aload_n (pc := 4) C dX5_left_4 0 rfl rfl ?_
  refine g_get (pc := 5) C in_X5 wc_3 cl_X5 3 (by decide) tw_51 rfl dX5_left_5 ?_
  refine g_isub (pc := 8) C dX5_left_8 ?_
  cases hf
  exact g_iret (pc := 9) C hr dX5_left_9

set_option maxHeartbeats 4000000 in
set_option maxRecDepth 100000 in
theorem c_X5_standFor (l : Launch) (D : va_G) {cI cH cE cJ : ClassId} {a : Nat → Nat} (hw : ∀ σ, va_D (Pc a) (wc cI cH cE a σ)) {σ : Me} {x1 : Int32} {x2 : Int32} {σ' : Me}  (hf : f_X5_standFor σ x1 x2 = some σ') : Mq l D (tyc cI cH cE cJ) (wc cI cH cE a) (Pc a) yX5_standFor cX5_standFor 3 (Option.none : Option Jvm.ClassFile.FieldType) 0 [.ref (a 3), .int x1, .int x2] σ (qV D (wc cI cH cE a) (Pc a) σ') := by
  refine mOf (plainFor_of_name (by decide)) hw (Nat.le_of_ble_eq_true rfl) [(0, .ref (a 3)), (1, .int x1), (2, .int x2)] rfl ?_
  intro p e s m args below meth c C hr
  unfold f_X5_standFor at hf
  refine g_aload_n (pc := 0) C dX5_standFor_0 0 rfl rfl ?_
  refine g_get (pc := 1) C in_X5 wc_3 cl_X5 3 (by decide) tw_51 rfl dX5_standFor_1 ?_
  refine g_aload_n (pc := 4) C dX5_standFor_4 0 rfl rfl ?_
  refine g_get (pc := 5) C in_X5 wc_3 cl_X5 2 (by decide) tw_49 rfl dX5_standFor_5 ?_
  refine g_icmp_lt (pc := 8) C 12 dX5_standFor_8 (by decide) (fun q1 => ?_) (fun q1 => ?_)
  · replace hf := (if_pos q1).symm.trans hf
    refine g_aload_n (pc := 12) C dX5_standFor_12 0 rfl rfl ?_
    refine g_get (pc := 13) C in_X5 wc_3 cl_X5 0 (by decide) tw_47 rfl dX5_standFor_13 ?_
    refine g_aload_n (pc := 16) C dX5_standFor_16 0 rfl rfl ?_
    refine g_get (pc := 17) C in_X5 wc_3 cl_X5 3 (by decide) tw_51 rfl dX5_standFor_17 ?_
    refine g_iload_n (pc := 20) C dX5_standFor_20 1 rfl rfl ?_
    obtain ⟨q2, hf⟩ := gd_some hf
    refine g_iast (pc := 21) C 0 wc_4 rfl q2 rfl wa_4 dX5_standFor_21 ?_
    refine g_aload_n (pc := 22) C dX5_standFor_22 0 rfl rfl ?_
    refine g_get (pc := 23) C in_X5 wc_3 cl_X5 1 (by decide) tw_48 rfl dX5_standFor_23 ?_
    refine g_aload_n (pc := 26) C dX5_standFor_26 0 rfl rfl ?_
    refine g_get (pc := 27) C in_X5 wc_3 cl_X5 3 (by decide) tw_51 rfl dX5_standFor_27 ?_
    refine g_iload_n (pc := 30) C dX5_standFor_30 2 rfl rfl ?_
    obtain ⟨q3, hf⟩ := gd_some hf
    refine g_iast (pc := 31) C 0 wc_5 rfl q3 rfl wa_5 dX5_standFor_31 ?_
    refine g_aload_n (pc := 32) C dX5_standFor_32 0 rfl rfl ?_
    refine g_dup (pc := 33) C dX5_standFor_33 rfl ?_
    refine g_get (pc := 34) C in_X5 wc_3 cl_X5 3 (by decide) tw_51 rfl dX5_standFor_34 ?_
    refine g_iconst (pc := 37) C dX5_standFor_37 ic_1 ?_
    refine g_iadd (pc := 38) C dX5_standFor_38 ?_
    refine g_put (pc := 39) C in_X5 tyX5 tyX5_ok nmX5 wc_3 cl_X5 3 (by decide) tw_51 rfl rfl rfl (Nat.le_of_ble_eq_true rfl) wp_3_3 dX5_standFor_39 ?_
    cases hf
    exact g_vret (pc := 42) C hr dX5_standFor_42
  · replace hf := (if_neg q1).symm.trans hf
    cases hf
    exact g_vret (pc := 11) C hr dX5_standFor_11

set_option maxHeartbeats 4000000 in
set_option maxRecDepth 100000 in
theorem c_X5_takeBack (l : Launch) (D : va_G) {cI cH cE cJ : ClassId} {a : Nat → Nat} (hw : ∀ σ, va_D (Pc a) (wc cI cH cE a σ)) {σ : Me} {x1 : Int32} {σ' : Me}  (hf : f_X5_takeBack σ x1 = some σ') : Mq l D (tyc cI cH cE cJ) (wc cI cH cE a) (Pc a) yX5_takeBack cX5_takeBack 2 (Option.none : Option Jvm.ClassFile.FieldType) 1 [.ref (a 3), .int x1] σ (qV D (wc cI cH cE a) (Pc a) σ') := by
  refine mOf (plainFor_of_name (by decide)) hw (Nat.le_of_ble_eq_true rfl) [(0, .ref (a 3)), (1, .int x1)] rfl ?_
  intro p e s m args below meth c C hr
  unfold f_X5_takeBack at hf
  refine g_aload_n (pc := 0) C dX5_takeBack_0 0 rfl rfl ?_
  refine g_aload_n (pc := 1) C dX5_takeBack_1 0 rfl rfl ?_
  refine g_get (pc := 2) C in_X5 wc_3 cl_X5 3 (by decide) tw_51 rfl dX5_takeBack_2 ?_
  refine g_iload_n (pc := 5) C dX5_takeBack_5 1 rfl rfl ?_
  refine g_isub (pc := 6) C dX5_takeBack_6 ?_
  refine g_iconst (pc := 7) C dX5_takeBack_7 ic_0 ?_
  obtain ⟨r1, h1, hf⟩ := bd_some hf
  refine g_cSi (pc := 8) C (st := [.ref (a 3)]) jW.rf (c_J9_max_7cf53 l D hw h1) y_J9_max_7cf53 tw_452 rfl ⟨by decide, by decide⟩ ⟨Nat.zero_le _, Nat.zero_le _⟩ (Nat.le_of_ble_eq_true rfl) dX5_takeBack_8 rfl ?_
  refine g_put (pc := 11) C in_X5 tyX5 tyX5_ok nmX5 wc_3 cl_X5 3 (by decide) tw_51 rfl rfl rfl (Nat.le_of_ble_eq_true rfl) wp_3_3 dX5_takeBack_11 ?_
  cases hf
  exact g_vret (pc := 14) C hr dX5_takeBack_14

set_option maxHeartbeats 4000000 in
set_option maxRecDepth 100000 in
theorem c_X5_seriesOf (l : Launch) (D : va_G) {cI cH cE cJ : ClassId} {a : Nat → Nat} (hw : ∀ σ, va_D (Pc a) (wc cI cH cE a σ)) {σ : Me} {x1 : Int32} {r : Int32} (hf : f_X5_seriesOf σ x1 = some r) : Mq l D (tyc cI cH cE cJ) (wc cI cH cE a) (Pc a) yX5_seriesOf cX5_seriesOf 2 (Option.some Jvm.ClassFile.FieldType.int) 1 [.ref (a 3), .int x1] σ (qI D (wc cI cH cE a) (Pc a) σ r) := by
  refine mOf (plainFor_of_name (by decide)) hw (Nat.le_of_ble_eq_true rfl) [(0, .ref (a 3)), (1, .int x1)] rfl ?_
  intro p e s m args below meth c C hr
  unfold f_X5_seriesOf at hf
  refine g_iload_n (pc := 0) C dX5_seriesOf_0 1 rfl rfl ?_
  refine g_iconst (pc := 1) C dX5_seriesOf_1 ic_0 ?_
  refine g_aload_n (pc := 2) C dX5_seriesOf_2 0 rfl rfl ?_
  refine g_get (pc := 3) C in_X5 wc_3 cl_X5 3 (by decide) tw_51 rfl dX5_seriesOf_3 ?_
  refine g_iconst (pc := 6) C dX5_seriesOf_6 ic_1 ?_
  refine g_isub (pc := 7) C dX5_seriesOf_7 ?_
  obtain ⟨r1, h1, hf⟩ := bd_some hf
  refine g_cNi (pc := 8) C (st := []) jW.rf (c_X7_isFromTo l D hw h1) y_X7_isFromTo tn_30 rfl ⟨by decide, by decide⟩ ⟨Nat.zero_le _, Nat.zero_le _⟩ (Nat.le_of_ble_eq_true rfl) dX5_seriesOf_8 rfl ?_
  refine g_if_eq (pc := 11) C 23 dX5_seriesOf_11 (by decide) (fun q2 => ?_) (fun q2 => ?_)
  · replace hf := (if_pos q2).symm.trans hf
    refine g_bipush (pc := 23) C dX5_seriesOf_23 bp_m4 ?_
    cases hf
    exact g_iret (pc := 25) C hr dX5_seriesOf_25
  · replace hf := (if_neg q2).symm.trans hf
    refine g_aload_n (pc := 14) C dX5_seriesOf_14 0 rfl rfl ?_
    refine g_get (pc := 15) C in_X5 wc_3 cl_X5 0 (by decide) tw_47 rfl dX5_seriesOf_15 ?_
    refine g_iload_n (pc := 18) C dX5_seriesOf_18 1 rfl rfl ?_
    obtain ⟨q3, hf⟩ := gd_some hf
    refine g_iald (pc := 19) C 0 wc_4 rfl q3 rfl dX5_seriesOf_19 ?_
    refine g_goto (pc := 20) C 25 dX5_seriesOf_20 (by decide) ?_
    cases hf
    exact g_iret (pc := 25) C hr dX5_seriesOf_25

set_option maxHeartbeats 4000000 in
set_option maxRecDepth 100000 in
theorem c_X5_numberOf (l : Launch) (D : va_G) {cI cH cE cJ : ClassId} {a : Nat → Nat} (hw : ∀ σ, va_D (Pc a) (wc cI cH cE a σ)) {σ : Me} {x1 : Int32} {r : Int32} (hf : f_X5_numberOf σ x1 = some r) : Mq l D (tyc cI cH cE cJ) (wc cI cH cE a) (Pc a) yX5_numberOf cX5_numberOf 2 (Option.some Jvm.ClassFile.FieldType.int) 1 [.ref (a 3), .int x1] σ (qI D (wc cI cH cE a) (Pc a) σ r) := by
  refine mOf (plainFor_of_name (by decide)) hw (Nat.le_of_ble_eq_true rfl) [(0, .ref (a 3)), (1, .int x1)] rfl ?_
  intro p e s m args below meth c C hr
  unfold f_X5_numberOf at hf
  refine g_iload_n (pc := 0) C dX5_numberOf_0 1 rfl rfl ?_
  refine g_iconst (pc := 1) C dX5_numberOf_1 ic_0 ?_
  refine g_aload_n (pc := 2) C dX5_numberOf_2 0 rfl rfl ?_
  refine g_get (pc := 3) C in_X5 wc_3 cl_X5 3 (by decide) tw_51 rfl dX5_numberOf_3 ?_
  refine g_iconst (pc := 6) C dX5_numberOf_6 ic_1 ?_
  refine g_isub (pc := 7) C dX5_numberOf_7 ?_
  obtain ⟨r1, h1, hf⟩ := bd_some hf
  refine g_cNi (pc := 8) C (st := []) jW.rf (c_X7_isFromTo l D hw h1) y_X7_isFromTo tn_30 rfl ⟨by decide, by decide⟩ ⟨Nat.zero_le _, Nat.zero_le _⟩ (Nat.le_of_ble_eq_true rfl) dX5_numberOf_8 rfl ?_
  refine g_if_eq (pc := 11) C 23 dX5_numberOf_11 (by decide) (fun q2 => ?_) (fun q2 => ?_)
  · replace hf := (if_pos q2).symm.trans hf
    refine g_bipush (pc := 23) C dX5_numberOf_23 bp_m4 ?_
    cases hf
    exact g_iret (pc := 25) C hr dX5_numberOf_25
  · replace hf := (if_neg q2).symm.trans hf
    refine g_aload_n (pc := 14) C dX5_numberOf_14 0 rfl rfl ?_
    refine g_get (pc := 15) C in_X5 wc_3 cl_X5 1 (by decide) tw_48 rfl dX5_numberOf_15 ?_
    refine g_iload_n (pc := 18) C dX5_numberOf_18 1 rfl rfl ?_
    obtain ⟨q3, hf⟩ := gd_some hf
    refine g_iald (pc := 19) C 0 wc_5 rfl q3 rfl dX5_numberOf_19 ?_
    refine g_goto (pc := 20) C 25 dX5_numberOf_20 (by decide) ?_
    cases hf
    exact g_iret (pc := 25) C hr dX5_numberOf_25

set_option maxHeartbeats 4000000 in
set_option maxRecDepth 100000 in
theorem c_X5_standingFor (l : Launch) (D : va_G) {cI cH cE cJ : ClassId} {a : Nat → Nat} (hw : ∀ σ, va_D (Pc a) (wc cI cH cE a σ)) {σ : Me} {x1 : Int32} {x2 : Int32} {r : Int32} (hf : f_X5_standingFor σ x1 x2 = some r) : Mq l D (tyc cI cH cE cJ) (wc cI cH cE a) (Pc a) yX5_standingFor cX5_standingFor 4 (Option.some Jvm.ClassFile.FieldType.int) 0 [.ref (a 3), .int x1, .int x2] σ (qI D (wc cI cH cE a) (Pc a) σ r) := by
  refine mOf (plainFor_of_name (by decide)) hw (Nat.le_of_ble_eq_true rfl) [(0, .ref (a 3)), (1, .int x1), (2, .int x2)] rfl ?_
  intro p e s m args below meth c C hr
  have b2 : ∀ (n : Nat) (x3 : Int32) (hf : f_X5_standingFor_2 n σ x1 x2 x3 = some r), Gg p l e (rmd 0) s m args below meth c D (Pc a) (wc cI cH cE a) 4 0 0 (MQ below ((qI D (wc cI cH cE a) (Pc a) σ r) s.heap.size) args s 0 0 (fR (Pc a) s.heap.size)) σ [(0, .ref (a 3)), (1, .int x1), (2, .int x2), (3, .int x3)] 2 [] := by
    intro n
    induction n with
    | zero => intro x3 hf; exact absurd hf (by simp [f_X5_standingFor_2])
    | succ n ih =>
      intro x3 hf
      rw [f_X5_standingFor_2] at hf
      refine g_iload_n (pc := 2) C dX5_standingFor_2 3 rfl rfl ?_
      refine g_aload_n (pc := 3) C dX5_standingFor_3 0 rfl rfl ?_
      refine g_get (pc := 4) C in_X5 wc_3 cl_X5 3 (by decide) tw_51 rfl dX5_standingFor_4 ?_
      refine g_icmp_ge (pc := 7) C 38 dX5_standingFor_7 (by decide) (fun q1 => ?_) (fun q1 => ?_)
      · replace hf := (if_pos q1).symm.trans hf
        refine g_bipush (pc := 38) C dX5_standingFor_38 bp_m4 ?_
        cases hf
        exact g_iret (pc := 40) C hr dX5_standingFor_40
      · replace hf := (if_neg q1).symm.trans hf
        refine g_aload_n (pc := 10) C dX5_standingFor_10 0 rfl rfl ?_
        refine g_get (pc := 11) C in_X5 wc_3 cl_X5 0 (by decide) tw_47 rfl dX5_standingFor_11 ?_
        refine g_iload_n (pc := 14) C dX5_standingFor_14 3 rfl rfl ?_
        obtain ⟨q2, hf⟩ := gd_some hf
        refine g_iald (pc := 15) C 0 wc_4 rfl q2 rfl dX5_standingFor_15 ?_
        refine g_iload_n (pc := 16) C dX5_standingFor_16 1 rfl rfl ?_
        refine g_icmp_ne (pc := 17) C 32 dX5_standingFor_17 (by decide) (fun q3 => ?_) (fun q3 => ?_)
        · replace hf := (if_neg q3).symm.trans hf
          refine g_iinc (pc := 32) C [(3, .int (x3 + 1)), (0, .ref (a 3)), (1, .int x1), (2, .int x2)] 3 dX5_standingFor_32 rfl ic_1 (by decide) rfl ?_
          refine g_goto (pc := 35) C 2 dX5_standingFor_35 (by decide) ?_
          exact g_sub [1, 2, 3, 0] rfl (ih (x3 + 1) hf)
        · replace hf := (if_pos q3).symm.trans hf
          refine g_aload_n (pc := 20) C dX5_standingFor_20 0 rfl rfl ?_
          refine g_get (pc := 21) C in_X5 wc_3 cl_X5 1 (by decide) tw_48 rfl dX5_standingFor_21 ?_
          refine g_iload_n (pc := 24) C dX5_standingFor_24 3 rfl rfl ?_
          obtain ⟨q4, hf⟩ := gd_some hf
          refine g_iald (pc := 25) C 0 wc_5 rfl q4 rfl dX5_standingFor_25 ?_
          refine g_iload_n (pc := 26) C dX5_standingFor_26 2 rfl rfl ?_
          refine g_icmp_ne (pc := 27) C 32 dX5_standingFor_27 (by decide) (fun q5 => ?_) (fun q5 => ?_)
          · replace hf := (if_neg q5).symm.trans hf
            refine g_iinc (pc := 32) C [(3, .int (x3 + 1)), (0, .ref (a 3)), (1, .int x1), (2, .int x2)] 3 dX5_standingFor_32 rfl ic_1 (by decide) rfl ?_
            refine g_goto (pc := 35) C 2 dX5_standingFor_35 (by decide) ?_
            exact g_sub [1, 2, 3, 0] rfl (ih (x3 + 1) hf)
          · replace hf := (if_pos q5).symm.trans hf
            refine g_iload_n (pc := 30) C dX5_standingFor_30 3 rfl rfl ?_
            cases hf
            exact g_iret (pc := 31) C hr dX5_standingFor_31
  unfold f_X5_standingFor at hf
  refine g_iconst (pc := 0) C dX5_standingFor_0 ic_0 ?_
  refine g_istore_n (pc := 1) C [(3, .int 0), (0, .ref (a 3)), (1, .int x1), (2, .int x2)] dX5_standingFor_1 rfl (by decide) rfl ?_
  exact g_sub [1, 2, 3, 0] rfl (b2 1000 0 hf)

set_option maxHeartbeats 4000000 in
set_option maxRecDepth 100000 in
theorem c_X5_standsFor (l : Launch) (D : va_G) {cI cH cE cJ : ClassId} {a : Nat → Nat} (hw : ∀ σ, va_D (Pc a) (wc cI cH cE a σ)) {σ : Me} {x1 : Int32} {x2 : Int32} {r : Bool} (hf : f_X5_standsFor σ x1 x2 = some r) : Mq l D (tyc cI cH cE cJ) (wc cI cH cE a) (Pc a) yX5_standsFor cX5_standsFor 3 (Option.some Jvm.ClassFile.FieldType.boolean) 1 [.ref (a 3), .int x1, .int x2] σ (qI D (wc cI cH cE a) (Pc a) σ (bI r)) := by
  refine mOf (plainFor_of_name (by decide)) hw (Nat.le_of_ble_eq_true rfl) [(0, .ref (a 3)), (1, .int x1), (2, .int x2)] rfl ?_
  intro p e s m args below meth c C hr
  unfold f_X5_standsFor at hf
  refine g_aload_n (pc := 0) C dX5_standsFor_0 0 rfl rfl ?_
  refine g_iload_n (pc := 1) C dX5_standsFor_1 1 rfl rfl ?_
  refine g_iload_n (pc := 2) C dX5_standsFor_2 2 rfl rfl ?_
  obtain ⟨r1, h1, hf⟩ := bd_some hf
  refine g_cVi (pc := 3) C (st := []) jW.rf (c_X5_standingFor l D hw h1) y_X5_standingFor tw_403 rfl ⟨by decide, by decide⟩ ⟨Nat.zero_le _, Nat.zero_le _⟩ (Nat.le_of_ble_eq_true rfl) wc_3 cl_X5 rfl dX5_standsFor_3 rfl ?_
  refine g_bipush (pc := 6) C dX5_standsFor_6 bp_m4 ?_
  refine g_icmp_eq (pc := 8) C 15 dX5_standsFor_8 (by decide) (fun q2 => ?_) (fun q2 => ?_)
  · replace hf := (if_pos q2).symm.trans hf
    refine g_iconst (pc := 15) C dX5_standsFor_15 ic_0 ?_
    cases hf
    exact g_zret (pc := 16) (b := false) C hr dX5_standsFor_16
  · replace hf := (if_neg q2).symm.trans hf
    refine g_iconst (pc := 11) C dX5_standsFor_11 ic_1 ?_
    refine g_goto (pc := 12) C 16 dX5_standsFor_12 (by decide) ?_
    cases hf
    exact g_zret (pc := 16) (b := true) C hr dX5_standsFor_16

set_option maxHeartbeats 4000000 in
set_option maxRecDepth 100000 in
theorem c_X5_standingForSeries (l : Launch) (D : va_G) {cI cH cE cJ : ClassId} {a : Nat → Nat} (hw : ∀ σ, va_D (Pc a) (wc cI cH cE a σ)) {σ : Me} {x1 : Int32} {r : Int32} (hf : f_X5_standingForSeries σ x1 = some r) : Mq l D (tyc cI cH cE cJ) (wc cI cH cE a) (Pc a) yX5_standingForSeries cX5_standingForSeries 4 (Option.some Jvm.ClassFile.FieldType.int) 0 [.ref (a 3), .int x1] σ (qI D (wc cI cH cE a) (Pc a) σ r) := by
  refine mOf (plainFor_of_name (by decide)) hw (Nat.le_of_ble_eq_true rfl) [(0, .ref (a 3)), (1, .int x1)] rfl ?_
  intro p e s m args below meth c C hr
  have b4 : ∀ (n : Nat) (x2 : Int32) (x3 : Int32) (hf : f_X5_standingForSeries_4 n σ x1 x2 x3 = some r), Gg p l e (rmd 0) s m args below meth c D (Pc a) (wc cI cH cE a) 4 0 0 (MQ below ((qI D (wc cI cH cE a) (Pc a) σ r) s.heap.size) args s 0 0 (fR (Pc a) s.heap.size)) σ [(0, .ref (a 3)), (1, .int x1), (2, .int x2), (3, .int x3)] 4 [] := by
    intro n
    induction n with
    | zero => intro x2 x3 hf; exact absurd hf (by simp [f_X5_standingForSeries_4])
    | succ n ih =>
      intro x2 x3 hf
      rw [f_X5_standingForSeries_4] at hf
      refine g_iload_n (pc := 4) C dX5_standingForSeries_4 3 rfl rfl ?_
      refine g_aload_n (pc := 5) C dX5_standingForSeries_5 0 rfl rfl ?_
      refine g_get (pc := 6) C in_X5 wc_3 cl_X5 3 (by decide) tw_51 rfl dX5_standingForSeries_6 ?_
      refine g_icmp_ge (pc := 9) C 31 dX5_standingForSeries_9 (by decide) (fun q1 => ?_) (fun q1 => ?_)
      · replace hf := (if_pos q1).symm.trans hf
        refine g_iload_n (pc := 31) C dX5_standingForSeries_31 2 rfl rfl ?_
        cases hf
        exact g_iret (pc := 32) C hr dX5_standingForSeries_32
      · replace hf := (if_neg q1).symm.trans hf
        refine g_aload_n (pc := 12) C dX5_standingForSeries_12 0 rfl rfl ?_
        refine g_get (pc := 13) C in_X5 wc_3 cl_X5 0 (by decide) tw_47 rfl dX5_standingForSeries_13 ?_
        refine g_iload_n (pc := 16) C dX5_standingForSeries_16 3 rfl rfl ?_
        obtain ⟨q2, hf⟩ := gd_some hf
        refine g_iald (pc := 17) C 0 wc_4 rfl q2 rfl dX5_standingForSeries_17 ?_
        refine g_iload_n (pc := 18) C dX5_standingForSeries_18 1 rfl rfl ?_
        refine g_icmp_ne (pc := 19) C 25 dX5_standingForSeries_19 (by decide) (fun q3 => ?_) (fun q3 => ?_)
        · replace hf := (if_neg q3).symm.trans hf
          refine g_iinc (pc := 25) C [(3, .int (x3 + 1)), (0, .ref (a 3)), (1, .int x1), (2, .int x2)] 3 dX5_standingForSeries_25 rfl ic_1 (by decide) rfl ?_
          refine g_goto (pc := 28) C 4 dX5_standingForSeries_28 (by decide) ?_
          exact g_sub [1, 2, 3, 0] rfl (ih x2 (x3 + 1) hf)
        · replace hf := (if_pos q3).symm.trans hf
          refine g_iinc (pc := 22) C [(2, .int (x2 + 1)), (0, .ref (a 3)), (1, .int x1), (3, .int x3)] 2 dX5_standingForSeries_22 rfl ic_1 (by decide) rfl ?_
          refine g_iinc (pc := 25) C [(3, .int (x3 + 1)), (2, .int (x2 + 1)), (0, .ref (a 3)), (1, .int x1)] 3 dX5_standingForSeries_25 rfl ic_1 (by decide) rfl ?_
          refine g_goto (pc := 28) C 4 dX5_standingForSeries_28 (by decide) ?_
          exact g_sub [2, 3, 1, 0] rfl (ih (x2 + 1) (x3 + 1) hf)
  unfold f_X5_standingForSeries at hf
  refine g_iconst (pc := 0) C dX5_standingForSeries_0 ic_0 ?_
  refine g_istore_n (pc := 1) C [(2, .int 0), (0, .ref (a 3)), (1, .int x1)] dX5_standingForSeries_1 rfl (by decide) rfl ?_
  refine g_iconst (pc := 2) C dX5_standingForSeries_2 ic_0 ?_
  refine g_istore_n (pc := 3) C [(3, .int 0), (2, .int 0), (0, .ref (a 3)), (1, .int x1)] dX5_standingForSeries_3 rfl (by decide) rfl ?_
  exact g_sub [2, 3, 1, 0] rfl (b4 1000 0 0 hf)
