set_option maxHeartbeats 4000000 in
set_option maxRecDepth 100000 in
theorem c_X7_write (l : Launch) (D : va_G) {cI cH cE cJ : ClassId} {a : Nat → Nat} (hw : ∀ σ, va_D (Pc a) (wc cI cH cE a σ)) {σ : Me} {x1 : Int32} {σ' : Me} {r : Int32} (hf : f_X7_write σ x1 = some (σ', r)) : Mq l D (tyc cI cH cE cJ) (wc cI cH cE a) (Pc a) yX7_write cX7_write 2 (Option.some Jvm.ClassFile.FieldType.int) 1 [.ref (a 0), .int x1] σ (qI D (wc cI cH cE a) (Pc a) σ' r) := by
  refine mOf (plainFor_of_name (by decide)) hw (Nat.le_of_ble_eq_true rfl) [(0, .ref (a 0)), (1, .int x1)] rfl ?_
  intro p e s m args below meth c C hr
  unfold f_X7_write at hf
  refine g_iload_n (pc := 0) C dX7_write_0 1 rfl rfl ?_
  refine g_bipush (pc := 1) C dX7_write_1 bp_32 ?_
  refine g_bipush (pc := 3) C dX7_write_3 bp_126 ?_
  obtain ⟨r1, h1, hf⟩ := bd_some hf
  refine g_cSi (pc := 5) C (st := []) jW.rf (c_X7_isFromTo l D hw h1) y_X7_isFromTo tw_326 rfl ⟨by decide, by decide⟩ ⟨Nat.zero_le _, Nat.zero_le _⟩ (Nat.le_of_ble_eq_true rfl) dX7_write_5 rfl ?_
  refine g_if_ne (pc := 8) C 13 dX7_write_8 (by decide) (fun q2 => ?_) (fun q2 => ?_)
  · replace hf := (if_neg q2).symm.trans hf
    refine g_aload_n (pc := 13) C dX7_write_13 0 rfl rfl ?_
    refine g_get (pc := 14) C in_X7 wc_0 cl_X7 0 (by decide) tw_305 rfl dX7_write_14 ?_
    refine g_iload_n (pc := 17) C dX7_write_17 1 rfl rfl ?_
    obtain ⟨s3, r3, h3, hf⟩ := bd2_some hf
    refine g_cVi (pc := 18) C (st := []) jW.rf (c_X6_append l D hw h3) y_X6_append tw_211 rfl ⟨by decide, by decide⟩ ⟨Nat.zero_le _, Nat.zero_le _⟩ (Nat.le_of_ble_eq_true rfl) wc_1 cl_X6 rfl dX7_write_18 rfl ?_
    refine g_if_eq (pc := 21) C 34 dX7_write_21 (by decide) (fun q4 => ?_) (fun q4 => ?_)
    · replace hf := (if_pos q4).symm.trans hf
      refine g_bipush (pc := 34) C dX7_write_34 bp_m3 ?_
      cases hf
      exact g_iret (pc := 36) C hr dX7_write_36
    · replace hf := (if_neg q4).symm.trans hf
      refine g_aload_n (pc := 24) C dX7_write_24 0 rfl rfl ?_
      refine g_get (pc := 25) C in_X7 wc_0 cl_X7 0 (by decide) tw_305 rfl dX7_write_25 ?_
      refine g_getN (pc := 28) C in_X6 wc_1 cl_X6 1 (by decide) tn_1 rfl dX7_write_28 ?_
      refine g_goto (pc := 31) C 36 dX7_write_31 (by decide) ?_
      cases hf
      exact g_iret (pc := 36) C hr dX7_write_36
  · replace hf := (if_pos q2).symm.trans hf
    refine g_iconst (pc := 11) C dX7_write_11 ic_m1 ?_
    cases hf
    exact g_iret (pc := 12) C hr dX7_write_12

set_option maxHeartbeats 4000000 in
set_option maxRecDepth 100000 in
theorem c_X7_wipe (l : Launch) (D : va_G) {cI cH cE cJ : ClassId} {a : Nat → Nat} (hw : ∀ σ, va_D (Pc a) (wc cI cH cE a σ)) {σ : Me} {σ' : Me} {r : Int32} (hf : f_X7_wipe σ = some (σ', r)) : Mq l D (tyc cI cH cE cJ) (wc cI cH cE a) (Pc a) yX7_wipe cX7_wipe 2 (Option.some Jvm.ClassFile.FieldType.int) 1 [.ref (a 0)] σ (qI D (wc cI cH cE a) (Pc a) σ' r) := by
  refine mOf (plainFor_of_name (by decide)) hw (Nat.le_of_ble_eq_true rfl) [(0, .ref (a 0))] rfl ?_
  intro p e s m args below meth c C hr
  unfold f_X7_wipe at hf
  refine g_aload_n (pc := 0) C dX7_wipe_0 0 rfl rfl ?_
  refine g_get (pc := 1) C in_X7 wc_0 cl_X7 0 (by decide) tw_305 rfl dX7_wipe_1 ?_
  refine g_getN (pc := 4) C in_X6 wc_1 cl_X6 1 (by decide) tn_1 rfl dX7_wipe_4 ?_
  refine g_istore_n (pc := 7) C [(1, .int (σ 1 1)), (0, .ref (a 0))] dX7_wipe_7 rfl (by decide) rfl ?_
  refine g_aload_n (pc := 8) C dX7_wipe_8 1 rfl rfl ?_
  refine g_get (pc := 9) C in_X7 wc_0 cl_X7 0 (by decide) tw_305 rfl dX7_wipe_9 ?_
  obtain ⟨s1, h1, hf⟩ := bd_some hf
  refine g_cVv (pc := 12) C (st := []) jW.rf (c_X6_clear l D hw h1) y_X6_clear tw_301 rfl ⟨by decide, by decide⟩ ⟨Nat.zero_le _, Nat.zero_le _⟩ (Nat.le_of_ble_eq_true rfl) wc_1 cl_X6 rfl dX7_wipe_12 rfl ?_
  refine g_iload_n (pc := 15) C dX7_wipe_15 0 rfl rfl ?_
  cases hf
  exact g_iret (pc := 16) C hr dX7_wipe_16

set_option maxHeartbeats 4000000 in
set_option maxRecDepth 100000 in
theorem c_X7_fault (l : Launch) (D : va_G) {cI cH cE cJ : ClassId} {a : Nat → Nat} (hw : ∀ σ, va_D (Pc a) (wc cI cH cE a σ)) {σ : Me} {σ' : Me} {r : Int32} (hf : f_X7_fault σ = some (σ', r)) : Mq l D (tyc cI cH cE cJ) (wc cI cH cE a) (Pc a) yX7_fault cX7_fault 1 (Option.some Jvm.ClassFile.FieldType.int) 5 [.ref (a 0)] σ (qI D (wc cI cH cE a) (Pc a) σ' r) := by
  refine mOf (plainFor_of_name (by decide)) hw (Nat.le_of_ble_eq_true rfl) [(0, .ref (a 0))] rfl ?_
  intro p e s m args below meth c C hr
  unfold f_X7_fault at hf
  refine g_aload_n (pc := 0) C dX7_fault_0 0 rfl rfl ?_
  refine g_get (pc := 1) C in_X7 wc_0 cl_X7 0 (by decide) tw_305 rfl dX7_fault_1 ?_
  refine g_aload_n (pc := 4) C dX7_fault_4 0 rfl rfl ?_
  obtain ⟨q1, hf⟩ := gd_some hf
  refine g_get (pc := 5) C in_X7 wc_0 cl_X7 4 (by decide) tw_309 rfl dX7_fault_5 ?_
  obtain ⟨s2, r2, h2, hf⟩ := bd2_some hf
  refine g_cVi (pc := 8) C (st := []) jW.rf (c_X6_readInto l D hw (of_decide_eq_true q1) h2) y_X6_readInto tw_219 rfl ⟨by decide, by decide⟩ ⟨Nat.zero_le _, Nat.zero_le _⟩ (Nat.le_of_ble_eq_true rfl) wc_1 cl_X6 rfl dX7_fault_8 rfl ?_
  cases hf
  exact g_iret (pc := 11) C hr dX7_fault_11

set_option maxHeartbeats 4000000 in
set_option maxRecDepth 100000 in
theorem c_X7_layText (l : Launch) (D : va_G) {cI cH cE cJ : ClassId} {a : Nat → Nat} (hw : ∀ σ, va_D (Pc a) (wc cI cH cE a σ)) {σ : Me} {σ' : Me} {r : Bool} (hf : f_X7_layText σ = some (σ', r)) : Mq l D (tyc cI cH cE cJ) (wc cI cH cE a) (Pc a) yX7_layText cX7_layText 2 (Option.some Jvm.ClassFile.FieldType.boolean) 5 [.ref (a 0)] σ (qI D (wc cI cH cE a) (Pc a) σ' (bI r)) := by
  refine mOf (plainFor_of_name (by decide)) hw (Nat.le_of_ble_eq_true rfl) [(0, .ref (a 0))] rfl ?_
  intro p e s m args below meth c C hr
  unfold f_X7_layText at hf
  refine g_aload_n (pc := 0) C dX7_layText_0 0 rfl rfl ?_
  refine g_get (pc := 1) C in_X7 wc_0 cl_X7 0 (by decide) tw_305 rfl dX7_layText_1 ?_
  refine g_aload_n (pc := 4) C dX7_layText_4 0 rfl rfl ?_
  obtain ⟨q1, hf⟩ := gd_some hf
  refine g_get (pc := 5) C in_X7 wc_0 cl_X7 4 (by decide) tw_309 rfl dX7_layText_5 ?_
  obtain ⟨s2, r2, h2, hf⟩ := bd2_some hf
  refine g_cVi (pc := 8) C (st := []) jW.rf (c_X6_readInto l D hw (of_decide_eq_true q1) h2) y_X6_readInto tw_219 rfl ⟨by decide, by decide⟩ ⟨Nat.zero_le _, Nat.zero_le _⟩ (Nat.le_of_ble_eq_true rfl) wc_1 cl_X6 rfl dX7_layText_8 rfl ?_
  refine g_bipush (pc := 11) C dX7_layText_11 bp_m4 ?_
  refine g_icmp_ne (pc := 13) C 27 dX7_layText_13 (by decide) (fun q3 => ?_) (fun q3 => ?_)
  · replace hf := (if_neg q3).symm.trans hf
    refine g_iconst (pc := 27) C dX7_layText_27 ic_0 ?_
    cases hf
    exact g_zret (pc := 28) (b := false) C hr dX7_layText_28
  · replace hf := (if_pos q3).symm.trans hf
    refine g_aload_n (pc := 16) C dX7_layText_16 0 rfl rfl ?_
    obtain ⟨q4, hf⟩ := gd_some hf
    refine g_get (pc := 17) C in_X7 wc_0 cl_X7 4 (by decide) tw_309 rfl dX7_layText_17 ?_
    refine g_getN (pc := 20) C in_X2 (wc_9 (of_decide_eq_true q4)) cl_X2 3 (by decide) tn_22 rfl dX7_layText_20 ?_
    refine g_iconst (pc := 23) C dX7_layText_23 ic_1 ?_
    refine g_icmp_ge (pc := 24) C 29 dX7_layText_24 (by decide) (fun q5 => ?_) (fun q5 => ?_)
    · replace hf := (if_pos q5).symm.trans hf
      refine g_aload_n (pc := 29) C dX7_layText_29 0 rfl rfl ?_
      obtain ⟨q6, hf⟩ := gd_some hf
      refine g_get (pc := 30) C in_X7 wc_0 cl_X7 3 (by decide) tw_308 rfl dX7_layText_30 ?_
      refine g_astore_n (pc := 33) C [(1, .ref (a ((s2 0 3).toNatClampNeg))), (0, .ref (a 0))] dX7_layText_33 rfl (by decide) rfl ?_
      refine g_aload_n (pc := 34) C dX7_layText_34 1 rfl rfl ?_
      refine g_aload_n (pc := 35) C dX7_layText_35 1 rfl rfl ?_
      obtain ⟨q7, hf⟩ := gd_some hf
      refine g_get (pc := 36) C in_X7 wc_0 cl_X7 4 (by decide) tw_309 rfl dX7_layText_36 ?_
      refine g_put (pc := 39) C in_X7 tyX7 tyX7_ok nmX7 wc_0 cl_X7 3 (by decide) tw_308 rfl rfl rfl (Nat.le_of_ble_eq_true rfl) (wp_0_3 (kd_bd (by rw [(of_decide_eq_true q7)]; decide))) dX7_layText_39 ?_
      refine g_aload_n (pc := 42) C dX7_layText_42 1 rfl rfl ?_
      refine g_aload_n (pc := 43) C dX7_layText_43 0 rfl rfl ?_
      refine g_put (pc := 44) C in_X7 tyX7 tyX7_ok nmX7 wc_0 cl_X7 4 (by decide) tw_309 rfl rfl rfl (Nat.le_of_ble_eq_true rfl) (wp_0_4 (kd_bd (by rw [(of_decide_eq_true q6)]; decide))) dX7_layText_44 ?_
      refine g_aload_n (pc := 47) C dX7_layText_47 1 rfl rfl ?_
      refine g_get (pc := 48) C in_X7 wc_0 cl_X7 1 (by decide) tw_306 rfl dX7_layText_48 ?_
      refine g_aload_n (pc := 51) C dX7_layText_51 1 rfl rfl ?_
      obtain ⟨q8, hf⟩ := gd_some hf
      refine g_get (pc := 52) C in_X7 wc_0 cl_X7 3 (by decide) tw_308 rfl dX7_layText_52 ?_
      refine g_getN (pc := 55) C in_X2 (wc_9 (of_decide_eq_true q8)) cl_X2 4 (by decide) tn_24 rfl dX7_layText_55 ?_
      obtain ⟨s9, h9, hf⟩ := bd_some hf
      refine g_cVv (pc := 58) C (st := []) jW.rf (c_X5_begin l D hw h9) y_X5_begin tw_290 rfl ⟨by decide, by decide⟩ ⟨Nat.zero_le _, Nat.zero_le _⟩ (Nat.le_of_ble_eq_true rfl) wc_3 cl_X5 rfl dX7_layText_58 rfl ?_
      refine g_aload_n (pc := 61) C dX7_layText_61 1 rfl rfl ?_
      refine g_get (pc := 62) C in_X7 wc_0 cl_X7 2 (by decide) tw_307 rfl dX7_layText_62 ?_
      obtain ⟨s10, h10, hf⟩ := bd_some hf
      refine g_cVv (pc := 65) C (st := []) jW.rf (c_X0_clear l D hw h10) y_X0_clear tw_297 rfl ⟨by decide, by decide⟩ ⟨Nat.zero_le _, Nat.zero_le _⟩ (Nat.le_of_ble_eq_true rfl) wc_6 cl_X0 rfl dX7_layText_65 rfl ?_
      refine g_iconst (pc := 68) C dX7_layText_68 ic_1 ?_
      cases hf
      exact g_zret (pc := 69) (b := true) C hr dX7_layText_69
    · replace hf := (if_neg q5).symm.trans hf
      refine g_iconst (pc := 27) C dX7_layText_27 ic_0 ?_
      cases hf
      exact g_zret (pc := 28) (b := false) C hr dX7_layText_28

set_option maxHeartbeats 4000000 in
set_option maxRecDepth 100000 in
theorem c_X7_lay (l : Launch) (D : va_G) {cI cH cE cJ : ClassId} {a : Nat → Nat} (hw : ∀ σ, va_D (Pc a) (wc cI cH cE a σ)) {σ : Me} {σ' : Me} {r : Int32} (hf : f_X7_lay σ = some (σ', r)) : Mq l D (tyc cI cH cE cJ) (wc cI cH cE a) (Pc a) yX7_lay cX7_lay 1 (Option.some Jvm.ClassFile.FieldType.int) 6 [.ref (a 0)] σ (qI D (wc cI cH cE a) (Pc a) σ' r) := by
  refine mOf (plainFor_of_name (by decide)) hw (Nat.le_of_ble_eq_true rfl) [(0, .ref (a 0))] rfl ?_
  intro p e s m args below meth c C hr
  unfold f_X7_lay at hf
  refine g_aload_n (pc := 0) C dX7_lay_0 0 rfl rfl ?_
  obtain ⟨s1, r1, h1, hf⟩ := bd2_some hf
  refine g_cVi (pc := 1) C (st := []) jW.rf (c_X7_layText l D hw h1) y_X7_layText tw_215 rfl ⟨by decide, by decide⟩ ⟨Nat.zero_le _, Nat.zero_le _⟩ (Nat.le_of_ble_eq_true rfl) wc_0 cl_X7 rfl dX7_lay_1 rfl ?_
  refine g_if_eq (pc := 4) C 17 dX7_lay_4 (by decide) (fun q2 => ?_) (fun q2 => ?_)
  · replace hf := (if_pos q2).symm.trans hf
    refine g_bipush (pc := 17) C dX7_lay_17 bp_m2 ?_
    cases hf
    exact g_iret (pc := 19) C hr dX7_lay_19
  · replace hf := (if_neg q2).symm.trans hf
    refine g_aload_n (pc := 7) C dX7_lay_7 0 rfl rfl ?_
    obtain ⟨q3, hf⟩ := gd_some hf
    refine g_get (pc := 8) C in_X7 wc_0 cl_X7 3 (by decide) tw_308 rfl dX7_lay_8 ?_
    refine g_getN (pc := 11) C in_X2 (wc_9 (of_decide_eq_true q3)) cl_X2 3 (by decide) tn_22 rfl dX7_lay_11 ?_
    refine g_goto (pc := 14) C 19 dX7_lay_14 (by decide) ?_
    cases hf
    exact g_iret (pc := 19) C hr dX7_lay_19

set_option maxHeartbeats 4000000 in
set_option maxRecDepth 100000 in
theorem c_X7_run (l : Launch) (D : va_G) {cI cH cE cJ : ClassId} {a : Nat → Nat} (hw : ∀ σ, va_D (Pc a) (wc cI cH cE a σ)) {σ : Me} {x1 : Int32} {x2 : Int32} {x3 : Int32} {σ' : Me} {r : Int32} (hf : f_X7_run σ x1 x2 x3 = some (σ', r)) : Mq l D (tyc cI cH cE cJ) (wc cI cH cE a) (Pc a) yX7_run cX7_run 5 (Option.some Jvm.ClassFile.FieldType.int) 3 [.ref (a 0), .int x1, .int x2, .int x3] σ (qI D (wc cI cH cE a) (Pc a) σ' r) := by
  refine mOf (plainFor_of_name (by decide)) hw (Nat.le_of_ble_eq_true rfl) [(0, .ref (a 0)), (1, .int x1), (2, .int x2), (3, .int x3)] rfl ?_
  intro p e s m args below meth c C hr
  unfold f_X7_run at hf
  refine g_aload_n (pc := 0) C dX7_run_0 0 rfl rfl ?_
  obtain ⟨q1, hf⟩ := gd_some hf
  refine g_get (pc := 1) C in_X7 wc_0 cl_X7 3 (by decide) tw_308 rfl dX7_run_1 ?_
  refine g_iload_n (pc := 4) C dX7_run_4 1 rfl rfl ?_
  refine g_iload_n (pc := 5) C dX7_run_5 2 rfl rfl ?_
  obtain ⟨r2, h2, hf⟩ := bd_some hf
  refine g_cVe (pc := 6) C (st := []) jW.rf (c_X2_shareAt l D hw (of_decide_eq_true q1) h2) y_X2_shareAt tw_343 rfl ⟨by decide, by decide⟩ ⟨Nat.zero_le _, Nat.zero_le _⟩ (Nat.le_of_ble_eq_true rfl) (wc_9 (of_decide_eq_true q1)) cl_X2 rfl dX7_run_6 rfl ?_
  rcases r2 with _ | k902
  · replace hf := oc_n.symm.trans hf
    refine g_top (v1 := .null) rfl ?_
    refine g_astoreN (pc := 9) C [(4, .null), (0, .ref (a 0)), (1, .int x1), (2, .int x2), (3, .int x3)] dX7_run_9 (by decide) rfl ?_
    refine g_aloadN (pc := 11) C dX7_run_11 0 rfl ?_
    refine g_ifnullN (pc := 13) C 26 dX7_run_13 (by decide) ?_
    refine g_iconst (pc := 26) C dX7_run_26 ic_m1 ?_
    cases hf
    exact g_iret (pc := 27) C hr dX7_run_27
  · replace hf := oc_s.symm.trans hf
    obtain ⟨hk902, hf⟩ := gd_some hf
    replace hk902 := of_decide_eq_true hk902
    refine g_top (v1 := .ref (a k902)) rfl ?_
    refine g_astore (pc := 9) C [(4, .ref (a k902)), (0, .ref (a 0)), (1, .int x1), (2, .int x2), (3, .int x3)] dX7_run_9 (by decide) rfl ?_
    refine g_aload (pc := 11) C dX7_run_11 0 rfl ?_
    refine g_ifnull (pc := 13) C dX7_run_13 ?_
    refine g_iload_n (pc := 16) C dX7_run_16 4 rfl rfl ?_
    refine g_iconst (pc := 17) C dX7_run_17 ic_1 ?_
    refine g_bipush (pc := 18) C dX7_run_18 bp_40 ?_
    obtain ⟨r3, h3, hf⟩ := bd_some hf
    refine g_cSi (pc := 20) C (st := []) jW.rf (c_X7_isFromTo l D hw h3) y_X7_isFromTo tw_326 rfl ⟨by decide, by decide⟩ ⟨Nat.zero_le _, Nat.zero_le _⟩ (Nat.le_of_ble_eq_true rfl) dX7_run_20 rfl ?_
    refine g_if_ne (pc := 23) C 28 dX7_run_23 (by decide) (fun q4 => ?_) (fun q4 => ?_)
    · replace hf := (if_neg q4).symm.trans hf
      refine g_iload_n (pc := 28) C dX7_run_28 4 rfl rfl ?_
      refine g_aload (pc := 29) C dX7_run_29 0 rfl ?_
      obtain ⟨r5, h5, hf⟩ := bd_some hf
      refine g_cVi (pc := 31) C (st := [.int x3]) jW.rf (c_X4_sheetsLeft l D hw hk902 h5) y_X4_sheetsLeft tw_357 rfl ⟨by decide, by decide⟩ ⟨Nat.zero_le _, Nat.zero_le _⟩ (Nat.le_of_ble_eq_true rfl) (wc_14 hk902) cl_X4 rfl dX7_run_31 rfl ?_
      refine g_icmp_le (pc := 34) C 40 dX7_run_34 (by decide) (fun q6 => ?_) (fun q6 => ?_)
      · replace hf := (if_pos q6).symm.trans hf
        refine g_aload (pc := 40) C dX7_run_40 0 rfl ?_
        refine g_dup (pc := 42) C dX7_run_42 rfl ?_
        refine g_getN (pc := 43) C in_X4 (wc_14 hk902) cl_X4 3 (by decide) tn_12 rfl dX7_run_43 ?_
        refine g_iload_n (pc := 46) C dX7_run_46 4 rfl rfl ?_
        refine g_iadd (pc := 47) C dX7_run_47 ?_
        refine g_putN (pc := 48) C in_X4 tyX4 tyX4_ok nmX4 (wc_14 hk902) cl_X4 3 (by decide) tn_12 rfl rfl rfl (Nat.le_of_ble_eq_true rfl) (wp_14_3 hk902) dX7_run_48 ?_
        refine g_aload_n (pc := 51) C dX7_run_51 1 rfl rfl ?_
        refine g_get (pc := 52) C in_X7 wc_0 cl_X7 2 (by decide) tw_307 rfl dX7_run_52 ?_
        refine g_aload (pc := 55) C dX7_run_55 0 rfl ?_
        refine g_iload_n (pc := 57) C dX7_run_57 4 rfl rfl ?_
        obtain ⟨s7, h7, hf⟩ := bd_some hf
        refine g_cVv (pc := 58) C (st := []) jW.rf (c_X0_rememberRun l D hw hk902 h7) y_X0_rememberRun tw_361 rfl ⟨by decide, by decide⟩ ⟨Nat.zero_le _, Nat.zero_le _⟩ (Nat.le_of_ble_eq_true rfl) wc_6 cl_X0 rfl dX7_run_58 rfl ?_
        refine g_iload_n (pc := 61) C dX7_run_61 4 rfl rfl ?_
        refine g_aload (pc := 62) C dX7_run_62 0 rfl ?_
        refine g_getN (pc := 64) C in_X4 (wc_14 hk902) cl_X4 0 (by decide) tn_8 rfl dX7_run_64 ?_
        refine g_imul (pc := 67) C dX7_run_67 ?_
        cases hf
        exact g_iret (pc := 68) C hr dX7_run_68
      · replace hf := (if_neg q6).symm.trans hf
        refine g_bipush (pc := 37) C dX7_run_37 bp_m2 ?_
        cases hf
        exact g_iret (pc := 39) C hr dX7_run_39
    · replace hf := (if_pos q4).symm.trans hf
      refine g_iconst (pc := 26) C dX7_run_26 ic_m1 ?_
      cases hf
      exact g_iret (pc := 27) C hr dX7_run_27

set_option maxHeartbeats 4000000 in
set_option maxRecDepth 100000 in
theorem c_X7_spoil (l : Launch) (D : va_G) {cI cH cE cJ : ClassId} {a : Nat → Nat} (hw : ∀ σ, va_D (Pc a) (wc cI cH cE a σ)) {σ : Me} {x1 : Int32} {x2 : Int32} {σ' : Me} {r : Int32} (hf : f_X7_spoil σ x1 x2 = some (σ', r)) : Mq l D (tyc cI cH cE cJ) (wc cI cH cE a) (Pc a) yX7_spoil cX7_spoil 4 (Option.some Jvm.ClassFile.FieldType.int) 3 [.ref (a 0), .int x1, .int x2] σ (qI D (wc cI cH cE a) (Pc a) σ' r) := by
  refine mOf (plainFor_of_name (by decide)) hw (Nat.le_of_ble_eq_true rfl) [(0, .ref (a 0)), (1, .int x1), (2, .int x2)] rfl ?_
  intro p e s m args below meth c C hr
  unfold f_X7_spoil at hf
  refine g_aload_n (pc := 0) C dX7_spoil_0 0 rfl rfl ?_
  obtain ⟨q1, hf⟩ := gd_some hf
  refine g_get (pc := 1) C in_X7 wc_0 cl_X7 3 (by decide) tw_308 rfl dX7_spoil_1 ?_
  refine g_iload_n (pc := 4) C dX7_spoil_4 1 rfl rfl ?_
  obtain ⟨r2, h2, hf⟩ := bd_some hf
  refine g_cVe (pc := 5) C (st := []) jW.rf (c_X2_seriesAt l D hw (of_decide_eq_true q1) h2) y_X2_seriesAt tw_377 rfl ⟨by decide, by decide⟩ ⟨Nat.zero_le _, Nat.zero_le _⟩ (Nat.le_of_ble_eq_true rfl) (wc_9 (of_decide_eq_true q1)) cl_X2 rfl dX7_spoil_5 rfl ?_
  rcases r2 with _ | k902
  · replace hf := oc_n.symm.trans hf
    refine g_top (v1 := .null) rfl ?_
    refine g_astore_nN (pc := 8) C [(3, .null), (0, .ref (a 0)), (1, .int x1), (2, .int x2)] dX7_spoil_8 rfl (by decide) rfl ?_
    refine g_aload_nN (pc := 9) C dX7_spoil_9 0 rfl rfl ?_
    refine g_ifnullN (pc := 10) C 21 dX7_spoil_10 (by decide) ?_
    refine g_iconst (pc := 21) C dX7_spoil_21 ic_m1 ?_
    cases hf
    exact g_iret (pc := 22) C hr dX7_spoil_22
  · replace hf := oc_s.symm.trans hf
    obtain ⟨hk902, hf⟩ := gd_some hf
    replace hk902 := of_decide_eq_true hk902
    refine g_top (v1 := .ref (a k902)) rfl ?_
    refine g_astore_n (pc := 8) C [(3, .ref (a k902)), (0, .ref (a 0)), (1, .int x1), (2, .int x2)] dX7_spoil_8 rfl (by decide) rfl ?_
    refine g_aload_n (pc := 9) C dX7_spoil_9 0 rfl rfl ?_
    refine g_ifnull (pc := 10) C dX7_spoil_10 ?_
    refine g_aload_n (pc := 13) C dX7_spoil_13 0 rfl rfl ?_
    refine g_iload_n (pc := 14) C dX7_spoil_14 3 rfl rfl ?_
    obtain ⟨r3, h3, hf⟩ := bd_some hf
    refine g_cVi (pc := 15) C (st := []) jW.rf (c_X3_hasNumber l D hw hk902 h3) y_X3_hasNumber tw_378 rfl ⟨by decide, by decide⟩ ⟨Nat.zero_le _, Nat.zero_le _⟩ (Nat.le_of_ble_eq_true rfl) (wc_12 hk902) cl_X3 rfl dX7_spoil_15 rfl ?_
    refine g_if_ne (pc := 18) C 23 dX7_spoil_18 (by decide) (fun q4 => ?_) (fun q4 => ?_)
    · replace hf := (if_neg q4).symm.trans hf
      refine g_aload_n (pc := 23) C dX7_spoil_23 0 rfl rfl ?_
      refine g_iload_n (pc := 24) C dX7_spoil_24 3 rfl rfl ?_
      obtain ⟨r5, h5, hf⟩ := bd_some hf
      refine g_cVi (pc := 25) C (st := []) jW.rf (c_X3_isPrinted l D hw hk902 h5) y_X3_isPrinted tw_382 rfl ⟨by decide, by decide⟩ ⟨Nat.zero_le _, Nat.zero_le _⟩ (Nat.le_of_ble_eq_true rfl) (wc_12 hk902) cl_X3 rfl dX7_spoil_25 rfl ?_
      refine g_if_eq (pc := 28) C 43 dX7_spoil_28 (by decide) (fun q6 => ?_) (fun q6 => ?_)
      · replace hf := (if_pos q6).symm.trans hf
        refine g_bipush (pc := 43) C dX7_spoil_43 bp_m2 ?_
        cases hf
        exact g_iret (pc := 45) C hr dX7_spoil_45
      · replace hf := (if_neg q6).symm.trans hf
        refine g_aload_n (pc := 31) C dX7_spoil_31 1 rfl rfl ?_
        refine g_get (pc := 32) C in_X7 wc_0 cl_X7 1 (by decide) tw_306 rfl dX7_spoil_32 ?_
        refine g_iload_n (pc := 35) C dX7_spoil_35 2 rfl rfl ?_
        refine g_iload_n (pc := 36) C dX7_spoil_36 3 rfl rfl ?_
        obtain ⟨r7, h7, hf⟩ := bd_some hf
        refine g_cVi (pc := 37) C (st := []) jW.rf (c_X5_standsFor l D hw h7) y_X5_standsFor tw_399 rfl ⟨by decide, by decide⟩ ⟨Nat.zero_le _, Nat.zero_le _⟩ (Nat.le_of_ble_eq_true rfl) wc_3 cl_X5 rfl dX7_spoil_37 rfl ?_
        refine g_if_eq (pc := 40) C 46 dX7_spoil_40 (by decide) (fun q8 => ?_) (fun q8 => ?_)
        · replace hf := (if_pos q8).symm.trans hf
          refine g_aload_n (pc := 46) C dX7_spoil_46 1 rfl rfl ?_
          refine g_get (pc := 47) C in_X7 wc_0 cl_X7 1 (by decide) tw_306 rfl dX7_spoil_47 ?_
          obtain ⟨r9, h9, hf⟩ := bd_some hf
          refine g_cVi (pc := 50) C (st := []) jW.rf (c_X5_left l D hw h9) y_X5_left tw_407 rfl ⟨by decide, by decide⟩ ⟨Nat.zero_le _, Nat.zero_le _⟩ (Nat.le_of_ble_eq_true rfl) wc_3 cl_X5 rfl dX7_spoil_50 rfl ?_
          refine g_iconst (pc := 53) C dX7_spoil_53 ic_1 ?_
          refine g_icmp_ge (pc := 54) C 60 dX7_spoil_54 (by decide) (fun q10 => ?_) (fun q10 => ?_)
          · replace hf := (if_pos q10).symm.trans hf
            refine g_aload_n (pc := 60) C dX7_spoil_60 1 rfl rfl ?_
            refine g_get (pc := 61) C in_X7 wc_0 cl_X7 1 (by decide) tw_306 rfl dX7_spoil_61 ?_
            refine g_iload_n (pc := 64) C dX7_spoil_64 2 rfl rfl ?_
            refine g_iload_n (pc := 65) C dX7_spoil_65 3 rfl rfl ?_
            obtain ⟨s11, h11, hf⟩ := bd_some hf
            refine g_cVv (pc := 66) C (st := []) jW.rf (c_X5_standFor l D hw h11) y_X5_standFor tw_411 rfl ⟨by decide, by decide⟩ ⟨Nat.zero_le _, Nat.zero_le _⟩ (Nat.le_of_ble_eq_true rfl) wc_3 cl_X5 rfl dX7_spoil_66 rfl ?_
            refine g_aload_n (pc := 69) C dX7_spoil_69 1 rfl rfl ?_
            refine g_get (pc := 70) C in_X7 wc_0 cl_X7 2 (by decide) tw_307 rfl dX7_spoil_70 ?_
            refine g_iconst (pc := 73) C dX7_spoil_73 ic_1 ?_
            obtain ⟨s12, h12, hf⟩ := bd_some hf
            refine g_cVv (pc := 74) C (st := []) jW.rf (c_X0_rememberSpoiled l D hw h12) y_X0_rememberSpoiled tw_415 rfl ⟨by decide, by decide⟩ ⟨Nat.zero_le _, Nat.zero_le _⟩ (Nat.le_of_ble_eq_true rfl) wc_6 cl_X0 rfl dX7_spoil_74 rfl ?_
            refine g_aload_n (pc := 77) C dX7_spoil_77 1 rfl rfl ?_
            refine g_get (pc := 78) C in_X7 wc_0 cl_X7 1 (by decide) tw_306 rfl dX7_spoil_78 ?_
            refine g_getN (pc := 81) C in_X5 wc_3 cl_X5 3 (by decide) tn_4 rfl dX7_spoil_81 ?_
            refine g_iconst (pc := 84) C dX7_spoil_84 ic_1 ?_
            refine g_isub (pc := 85) C dX7_spoil_85 ?_
            cases hf
            exact g_iret (pc := 86) C hr dX7_spoil_86
          · replace hf := (if_neg q10).symm.trans hf
            refine g_bipush (pc := 57) C dX7_spoil_57 bp_m3 ?_
            cases hf
            exact g_iret (pc := 59) C hr dX7_spoil_59
        · replace hf := (if_neg q8).symm.trans hf
          refine g_bipush (pc := 43) C dX7_spoil_43 bp_m2 ?_
          cases hf
          exact g_iret (pc := 45) C hr dX7_spoil_45
    · replace hf := (if_pos q4).symm.trans hf
      refine g_iconst (pc := 21) C dX7_spoil_21 ic_m1 ?_
      cases hf
      exact g_iret (pc := 22) C hr dX7_spoil_22

set_option maxHeartbeats 4000000 in
set_option maxRecDepth 100000 in
theorem c_X7_unspoiledOfSheet (l : Launch) (D : va_G) {cI cH cE cJ : ClassId} {a : Nat → Nat} (hw : ∀ σ, va_D (Pc a) (wc cI cH cE a σ)) {σ : Me} {x1 : Int32} {k2 : Nat} {x3 : Int32} (hk2 : kd k2 = 14) {r : Int32} (hf : f_X7_unspoiledOfSheet σ x1 k2 x3 = some r) : Mq l D (tyc cI cH cE cJ) (wc cI cH cE a) (Pc a) yX7_unspoiledOfSheet cX7_unspoiledOfSheet 6 (Option.some Jvm.ClassFile.FieldType.int) 2 [.ref (a 0), .int x1, .ref (a k2), .int x3] σ (qI D (wc cI cH cE a) (Pc a) σ r) := by
  refine mOf (plainFor_of_name (by decide)) hw (Nat.le_of_ble_eq_true rfl) [(0, .ref (a 0)), (1, .int x1), (2, .ref (a k2)), (3, .int x3)] rfl ?_
  intro p e s m args below meth c C hr
  have b6 : ∀ (n : Nat) (x4 : Int32) (x5 : Int32) (hf : f_X7_unspoiledOfSheet_6 n σ x1 k2 x3 x4 x5 = some r), Gg p l e (rmd 2) s m args below meth c D (Pc a) (wc cI cH cE a) 6 0 0 (MQ below ((qI D (wc cI cH cE a) (Pc a) σ r) s.heap.size) args s 0 0 (fR (Pc a) s.heap.size)) σ [(0, .ref (a 0)), (1, .int x1), (2, .ref (a k2)), (3, .int x3), (4, .int x4), (5, .int x5)] 6 [] := by
    intro n
    induction n with
    | zero => intro x4 x5 hf; exact absurd hf (by simp [f_X7_unspoiledOfSheet_6])
    | succ n ih =>
      intro x4 x5 hf
      rw [f_X7_unspoiledOfSheet_6] at hf
      refine g_iload (pc := 6) C dX7_unspoiledOfSheet_6 5 rfl ?_
      refine g_aload_n (pc := 8) C dX7_unspoiledOfSheet_8 2 rfl rfl ?_
      refine g_getN (pc := 9) C in_X4 (wc_14 hk2) cl_X4 0 (by decide) tn_8 rfl dX7_unspoiledOfSheet_9 ?_
      refine g_icmp_ge (pc := 12) C 42 dX7_unspoiledOfSheet_12 (by decide) (fun q1 => ?_) (fun q1 => ?_)
      · replace hf := (if_pos q1).symm.trans hf
        refine g_iload (pc := 42) C dX7_unspoiledOfSheet_42 4 rfl ?_
        cases hf
        exact g_iret (pc := 44) C hr dX7_unspoiledOfSheet_44
      · replace hf := (if_neg q1).symm.trans hf
        refine g_aload_n (pc := 15) C dX7_unspoiledOfSheet_15 0 rfl rfl ?_
        refine g_get (pc := 16) C in_X7 wc_0 cl_X7 1 (by decide) tw_306 rfl dX7_unspoiledOfSheet_16 ?_
        refine g_iload_n (pc := 19) C dX7_unspoiledOfSheet_19 1 rfl rfl ?_
        refine g_aload_n (pc := 20) C dX7_unspoiledOfSheet_20 2 rfl rfl ?_
        refine g_iload_n (pc := 21) C dX7_unspoiledOfSheet_21 3 rfl rfl ?_
        refine g_iload (pc := 22) C dX7_unspoiledOfSheet_22 5 rfl ?_
        obtain ⟨r2, h2, hf⟩ := bd_some hf
        refine g_cVi (pc := 24) C (st := [.int x1, .ref (a 3)]) jW.rf (c_X4_numberAt l D hw hk2 h2) y_X4_numberAt tw_432 rfl ⟨by decide, by decide⟩ ⟨Nat.zero_le _, Nat.zero_le _⟩ (Nat.le_of_ble_eq_true rfl) (wc_14 hk2) cl_X4 rfl dX7_unspoiledOfSheet_24 rfl ?_
        obtain ⟨r3, h3, hf⟩ := bd_some hf
        refine g_cVi (pc := 27) C (st := []) jW.rf (c_X5_standsFor l D hw h3) y_X5_standsFor tw_399 rfl ⟨by decide, by decide⟩ ⟨Nat.zero_le _, Nat.zero_le _⟩ (Nat.le_of_ble_eq_true rfl) wc_3 cl_X5 rfl dX7_unspoiledOfSheet_27 rfl ?_
        refine g_if_ne (pc := 30) C 36 dX7_unspoiledOfSheet_30 (by decide) (fun q4 => ?_) (fun q4 => ?_)
        · replace hf := (if_neg q4).symm.trans hf
          refine g_iinc (pc := 36) C [(5, .int (x5 + 1)), (0, .ref (a 0)), (1, .int x1), (2, .ref (a k2)), (3, .int x3), (4, .int x4)] 5 dX7_unspoiledOfSheet_36 rfl ic_1 (by decide) rfl ?_
          refine g_goto (pc := 39) C 6 dX7_unspoiledOfSheet_39 (by decide) ?_
          exact g_sub [1, 2, 3, 4, 5, 0] rfl (ih x4 (x5 + 1) hf)
        · replace hf := (if_pos q4).symm.trans hf
          refine g_iinc (pc := 33) C [(4, .int (x4 + 1)), (0, .ref (a 0)), (1, .int x1), (2, .ref (a k2)), (3, .int x3), (5, .int x5)] 4 dX7_unspoiledOfSheet_33 rfl ic_1 (by decide) rfl ?_
          refine g_iinc (pc := 36) C [(5, .int (x5 + 1)), (4, .int (x4 + 1)), (0, .ref (a 0)), (1, .int x1), (2, .ref (a k2)), (3, .int x3)] 5 dX7_unspoiledOfSheet_36 rfl ic_1 (by decide) rfl ?_
          refine g_goto (pc := 39) C 6 dX7_unspoiledOfSheet_39 (by decide) ?_
          exact g_sub [2, 3, 4, 5, 1, 0] rfl (ih (x4 + 1) (x5 + 1) hf)
  unfold f_X7_unspoiledOfSheet at hf
  refine g_iconst (pc := 0) C dX7_unspoiledOfSheet_0 ic_0 ?_
  refine g_istore (pc := 1) C [(4, .int 0), (0, .ref (a 0)), (1, .int x1), (2, .ref (a k2)), (3, .int x3)] dX7_unspoiledOfSheet_1 (by decide) rfl ?_
  refine g_iconst (pc := 3) C dX7_unspoiledOfSheet_3 ic_0 ?_
  refine g_istore (pc := 4) C [(5, .int 0), (4, .int 0), (0, .ref (a 0)), (1, .int x1), (2, .ref (a k2)), (3, .int x3)] dX7_unspoiledOfSheet_4 (by decide) rfl ?_
  exact g_sub [2, 3, 4, 5, 1, 0] rfl (b6 1000 0 0 hf)

set_option maxHeartbeats 4000000 in
set_option maxRecDepth 100000 in
theorem c_X7_spoilSheet (l : Launch) (D : va_G) {cI cH cE cJ : ClassId} {a : Nat → Nat} (hw : ∀ σ, va_D (Pc a) (wc cI cH cE a σ)) {σ : Me} {x1 : Int32} {x2 : Int32} {x3 : Int32} {σ' : Me} {r : Int32} (hf : f_X7_spoilSheet σ x1 x2 x3 = some (σ', r)) : Mq l D (tyc cI cH cE cJ) (wc cI cH cE a) (Pc a) yX7_spoilSheet cX7_spoilSheet 8 (Option.some Jvm.ClassFile.FieldType.int) 3 [.ref (a 0), .int x1, .int x2, .int x3] σ (qI D (wc cI cH cE a) (Pc a) σ' r) := by
  refine mOf (plainFor_of_name (by decide)) hw (Nat.le_of_ble_eq_true rfl) [(0, .ref (a 0)), (1, .int x1), (2, .int x2), (3, .int x3)] rfl ?_
  intro p e s m args below meth c C hr
  have b72 : ∀ (n : Nat) (σ : Me) (k4 : Nat) (hk4 : kd k4 = 14) (x5 : Int32) (x6 : Int32) (hf : f_X7_spoilSheet_72 n σ x1 x3 k4 x5 x6 = some (σ', r)), Gg p l e (rmd 3) s m args below meth c D (Pc a) (wc cI cH cE a) 8 0 0 (MQ below ((qI D (wc cI cH cE a) (Pc a) σ' r) s.heap.size) args s 0 0 (fR (Pc a) s.heap.size)) σ [(0, .ref (a 0)), (1, .int x1), (3, .int x3), (4, .ref (a k4)), (5, .int x5), (6, .int x6)] 72 [] := by
    intro n
    induction n with
    | zero => intro σ k4 hk4 x5 x6 hf; exact absurd hf (by simp [f_X7_spoilSheet_72])
    | succ n ih =>
      intro σ k4 hk4 x5 x6 hf
      rw [f_X7_spoilSheet_72] at hf
      refine g_iload (pc := 72) C dX7_spoilSheet_72 5 rfl ?_
      refine g_aload (pc := 74) C dX7_spoilSheet_74 3 rfl ?_
      refine g_getN (pc := 76) C in_X4 (wc_14 hk4) cl_X4 0 (by decide) tn_8 rfl dX7_spoilSheet_76 ?_
      refine g_icmp_ge (pc := 79) C 121 dX7_spoilSheet_79 (by decide) (fun q1 => ?_) (fun q1 => ?_)
      · replace hf := (if_pos q1).symm.trans hf
        refine g_aload_n (pc := 121) C dX7_spoilSheet_121 0 rfl rfl ?_
        refine g_get (pc := 122) C in_X7 wc_0 cl_X7 2 (by decide) tw_307 rfl dX7_spoilSheet_122 ?_
        refine g_iload (pc := 125) C dX7_spoilSheet_125 4 rfl ?_
        obtain ⟨s2, h2, hf⟩ := bd_some hf
        refine g_cVv (pc := 127) C (st := []) jW.rf (c_X0_rememberSpoiled l D hw h2) y_X0_rememberSpoiled tw_415 rfl ⟨by decide, by decide⟩ ⟨Nat.zero_le _, Nat.zero_le _⟩ (Nat.le_of_ble_eq_true rfl) wc_6 cl_X0 rfl dX7_spoilSheet_127 rfl ?_
        refine g_iload (pc := 130) C dX7_spoilSheet_130 4 rfl ?_
        cases hf
        exact g_iret (pc := 132) C hr dX7_spoilSheet_132
      · replace hf := (if_neg q1).symm.trans hf
        refine g_aload (pc := 82) C dX7_spoilSheet_82 3 rfl ?_
        refine g_iload_n (pc := 84) C dX7_spoilSheet_84 2 rfl rfl ?_
        refine g_iload (pc := 85) C dX7_spoilSheet_85 5 rfl ?_
        obtain ⟨r3, h3, hf⟩ := bd_some hf
        refine g_cVi (pc := 87) C (st := []) jW.rf (c_X4_numberAt l D hw hk4 h3) y_X4_numberAt tw_432 rfl ⟨by decide, by decide⟩ ⟨Nat.zero_le _, Nat.zero_le _⟩ (Nat.le_of_ble_eq_true rfl) (wc_14 hk4) cl_X4 rfl dX7_spoilSheet_87 rfl ?_
        refine g_istore (pc := 90) C [(7, .int r3), (0, .ref (a 0)), (1, .int x1), (3, .int x3), (4, .ref (a k4)), (5, .int x5), (6, .int x6)] dX7_spoilSheet_90 (by decide) rfl ?_
        refine g_aload_n (pc := 92) C dX7_spoilSheet_92 1 rfl rfl ?_
        refine g_get (pc := 93) C in_X7 wc_0 cl_X7 1 (by decide) tw_306 rfl dX7_spoilSheet_93 ?_
        refine g_iload_n (pc := 96) C dX7_spoilSheet_96 2 rfl rfl ?_
        refine g_iload (pc := 97) C dX7_spoilSheet_97 0 rfl ?_
        obtain ⟨r4, h4, hf⟩ := bd_some hf
        refine g_cVi (pc := 99) C (st := []) jW.rf (c_X5_standsFor l D hw h4) y_X5_standsFor tw_399 rfl ⟨by decide, by decide⟩ ⟨Nat.zero_le _, Nat.zero_le _⟩ (Nat.le_of_ble_eq_true rfl) wc_3 cl_X5 rfl dX7_spoilSheet_99 rfl ?_
        refine g_if_ne (pc := 102) C 115 dX7_spoilSheet_102 (by decide) (fun q5 => ?_) (fun q5 => ?_)
        · replace hf := (if_neg q5).symm.trans hf
          refine g_iinc (pc := 115) C [(6, .int (x6 + 1)), (7, .int r3), (0, .ref (a 0)), (1, .int x1), (3, .int x3), (4, .ref (a k4)), (5, .int x5)] 6 dX7_spoilSheet_115 rfl ic_1 (by decide) rfl ?_
          refine g_goto (pc := 118) C 72 dX7_spoilSheet_118 (by decide) ?_
          exact g_sub [2, 3, 4, 5, 6, 0] rfl (ih σ k4 hk4 x5 (x6 + 1) hf)
        · replace hf := (if_pos q5).symm.trans hf
          refine g_aload_n (pc := 105) C dX7_spoilSheet_105 1 rfl rfl ?_
          refine g_get (pc := 106) C in_X7 wc_0 cl_X7 1 (by decide) tw_306 rfl dX7_spoilSheet_106 ?_
          refine g_iload_n (pc := 109) C dX7_spoilSheet_109 2 rfl rfl ?_
          refine g_iload (pc := 110) C dX7_spoilSheet_110 0 rfl ?_
          obtain ⟨s6, h6, hf⟩ := bd_some hf
          refine g_cVv (pc := 112) C (st := []) jW.rf (c_X5_standFor l D hw h6) y_X5_standFor tw_411 rfl ⟨by decide, by decide⟩ ⟨Nat.zero_le _, Nat.zero_le _⟩ (Nat.le_of_ble_eq_true rfl) wc_3 cl_X5 rfl dX7_spoilSheet_112 rfl ?_
          refine g_iinc (pc := 115) C [(6, .int (x6 + 1)), (7, .int r3), (0, .ref (a 0)), (1, .int x1), (3, .int x3), (4, .ref (a k4)), (5, .int x5)] 6 dX7_spoilSheet_115 rfl ic_1 (by decide) rfl ?_
          refine g_goto (pc := 118) C 72 dX7_spoilSheet_118 (by decide) ?_
          exact g_sub [2, 3, 4, 5, 6, 0] rfl (ih s6 k4 hk4 x5 (x6 + 1) hf)
  unfold f_X7_spoilSheet at hf
  refine g_aload_n (pc := 0) C dX7_spoilSheet_0 0 rfl rfl ?_
  obtain ⟨q7, hf⟩ := gd_some hf
  refine g_get (pc := 1) C in_X7 wc_0 cl_X7 3 (by decide) tw_308 rfl dX7_spoilSheet_1 ?_
  refine g_iload_n (pc := 4) C dX7_spoilSheet_4 1 rfl rfl ?_
  refine g_iload_n (pc := 5) C dX7_spoilSheet_5 2 rfl rfl ?_
  obtain ⟨r8, h8, hf⟩ := bd_some hf
  refine g_cVe (pc := 6) C (st := []) jW.rf (c_X2_shareAt l D hw (of_decide_eq_true q7) h8) y_X2_shareAt tw_343 rfl ⟨by decide, by decide⟩ ⟨Nat.zero_le _, Nat.zero_le _⟩ (Nat.le_of_ble_eq_true rfl) (wc_9 (of_decide_eq_true q7)) cl_X2 rfl dX7_spoilSheet_6 rfl ?_
  rcases r8 with _ | k908
  · replace hf := oc_n.symm.trans hf
    refine g_top (v1 := .null) rfl ?_
    refine g_astoreN (pc := 9) C [(4, .null), (0, .ref (a 0)), (1, .int x1), (2, .int x2), (3, .int x3)] dX7_spoilSheet_9 (by decide) rfl ?_
    refine g_aloadN (pc := 11) C dX7_spoilSheet_11 0 rfl ?_
    refine g_ifnullN (pc := 13) C 25 dX7_spoilSheet_13 (by decide) ?_
    refine g_iconst (pc := 25) C dX7_spoilSheet_25 ic_m1 ?_
    cases hf
    exact g_iret (pc := 26) C hr dX7_spoilSheet_26
  · replace hf := oc_s.symm.trans hf
    obtain ⟨hk908, hf⟩ := gd_some hf
    replace hk908 := of_decide_eq_true hk908
    refine g_top (v1 := .ref (a k908)) rfl ?_
    refine g_astore (pc := 9) C [(4, .ref (a k908)), (0, .ref (a 0)), (1, .int x1), (2, .int x2), (3, .int x3)] dX7_spoilSheet_9 (by decide) rfl ?_
    refine g_aload (pc := 11) C dX7_spoilSheet_11 0 rfl ?_
    refine g_ifnull (pc := 13) C dX7_spoilSheet_13 ?_
    refine g_aload (pc := 16) C dX7_spoilSheet_16 0 rfl ?_
    refine g_iload_n (pc := 18) C dX7_spoilSheet_18 4 rfl rfl ?_
    obtain ⟨r9, h9, hf⟩ := bd_some hf
    refine g_cVi (pc := 19) C (st := []) jW.rf (c_X4_hasSheet l D hw hk908 h9) y_X4_hasSheet tw_423 rfl ⟨by decide, by decide⟩ ⟨Nat.zero_le _, Nat.zero_le _⟩ (Nat.le_of_ble_eq_true rfl) (wc_14 hk908) cl_X4 rfl dX7_spoilSheet_19 rfl ?_
    refine g_if_ne (pc := 22) C 27 dX7_spoilSheet_22 (by decide) (fun q10 => ?_) (fun q10 => ?_)
    · replace hf := (if_neg q10).symm.trans hf
      refine g_aload_n (pc := 27) C dX7_spoilSheet_27 1 rfl rfl ?_
      refine g_iload_n (pc := 28) C dX7_spoilSheet_28 2 rfl rfl ?_
      refine g_aload (pc := 29) C dX7_spoilSheet_29 0 rfl ?_
      refine g_iload_n (pc := 31) C dX7_spoilSheet_31 4 rfl rfl ?_
      obtain ⟨r11, h11, hf⟩ := bd_some hf
      refine g_cVi (pc := 32) C (st := []) jW.rf (c_X7_unspoiledOfSheet l D hw hk908 h11) y_X7_unspoiledOfSheet tw_428 rfl ⟨by decide, by decide⟩ ⟨Nat.zero_le _, Nat.zero_le _⟩ (Nat.le_of_ble_eq_true rfl) wc_0 cl_X7 rfl dX7_spoilSheet_32 rfl ?_
      refine g_istore (pc := 35) C [(5, .int r11), (4, .ref (a k908)), (0, .ref (a 0)), (1, .int x1), (2, .int x2), (3, .int x3)] dX7_spoilSheet_35 (by decide) rfl ?_
      refine g_iload_n (pc := 37) C dX7_spoilSheet_37 5 rfl rfl ?_
      refine g_aload (pc := 38) C dX7_spoilSheet_38 1 rfl ?_
      refine g_getN (pc := 40) C in_X4 (wc_14 hk908) cl_X4 3 (by decide) tn_12 rfl dX7_spoilSheet_40 ?_
      refine g_icmp_ge (pc := 43) C 51 dX7_spoilSheet_43 (by decide) (fun q12 => ?_) (fun q12 => ?_)
      · replace hf := (if_pos q12).symm.trans hf
        refine g_bipush (pc := 51) C dX7_spoilSheet_51 bp_m2 ?_
        cases hf
        exact g_iret (pc := 53) C hr dX7_spoilSheet_53
      · replace hf := (if_neg q12).symm.trans hf
        refine g_iload (pc := 46) C dX7_spoilSheet_46 0 rfl ?_
        refine g_if_ne (pc := 48) C 54 dX7_spoilSheet_48 (by decide) (fun q13 => ?_) (fun q13 => ?_)
        · replace hf := (if_neg q13).symm.trans hf
          refine g_aload_n (pc := 54) C dX7_spoilSheet_54 2 rfl rfl ?_
          refine g_get (pc := 55) C in_X7 wc_0 cl_X7 1 (by decide) tw_306 rfl dX7_spoilSheet_55 ?_
          obtain ⟨r14, h14, hf⟩ := bd_some hf
          refine g_cVi (pc := 58) C (st := []) jW.rf (c_X5_left l D hw h14) y_X5_left tw_407 rfl ⟨by decide, by decide⟩ ⟨Nat.zero_le _, Nat.zero_le _⟩ (Nat.le_of_ble_eq_true rfl) wc_3 cl_X5 rfl dX7_spoilSheet_58 rfl ?_
          refine g_iload (pc := 61) C dX7_spoilSheet_61 0 rfl ?_
          refine g_icmp_ge (pc := 63) C 69 dX7_spoilSheet_63 (by decide) (fun q15 => ?_) (fun q15 => ?_)
          · replace hf := (if_pos q15).symm.trans hf
            refine g_iconst (pc := 69) C dX7_spoilSheet_69 ic_0 ?_
            refine g_istore (pc := 70) C [(6, .int 0), (5, .int r11), (4, .ref (a k908)), (0, .ref (a 0)), (1, .int x1), (2, .int x2), (3, .int x3)] dX7_spoilSheet_70 (by decide) rfl ?_
            exact g_sub [3, 4, 6, 2, 1, 0] rfl (b72 1000 σ k908 hk908 r11 0 hf)
          · replace hf := (if_neg q15).symm.trans hf
            refine g_bipush (pc := 66) C dX7_spoilSheet_66 bp_m3 ?_
            cases hf
            exact g_iret (pc := 68) C hr dX7_spoilSheet_68
        · replace hf := (if_pos q13).symm.trans hf
          refine g_bipush (pc := 51) C dX7_spoilSheet_51 bp_m2 ?_
          cases hf
          exact g_iret (pc := 53) C hr dX7_spoilSheet_53
    · replace hf := (if_pos q10).symm.trans hf
      refine g_iconst (pc := 25) C dX7_spoilSheet_25 ic_m1 ?_
      cases hf
      exact g_iret (pc := 26) C hr dX7_spoilSheet_26

set_option maxHeartbeats 4000000 in
set_option maxRecDepth 100000 in
theorem c_X7_undo (l : Launch) (D : va_G) {cI cH cE cJ : ClassId} {a : Nat → Nat} (hw : ∀ σ, va_D (Pc a) (wc cI cH cE a σ)) {σ : Me} {σ' : Me} {r : Int32} (hf : f_X7_undo σ = some (σ', r)) : Mq l D (tyc cI cH cE cJ) (wc cI cH cE a) (Pc a) yX7_undo cX7_undo 3 (Option.some Jvm.ClassFile.FieldType.int) 2 [.ref (a 0)] σ (qI D (wc cI cH cE a) (Pc a) σ' r) := by
  refine mOf (plainFor_of_name (by decide)) hw (Nat.le_of_ble_eq_true rfl) [(0, .ref (a 0))] rfl ?_
  intro p e s m args below meth c C hr
  have b55 : ∀ (σ : Me) (hf : f_X7_undo_55 σ = some (σ', r)), Gg p l e (rmd 2) s m args below meth c D (Pc a) (wc cI cH cE a) 3 0 0 (MQ below ((qI D (wc cI cH cE a) (Pc a) σ' r) s.heap.size) args s 0 0 (fR (Pc a) s.heap.size)) σ [(0, .ref (a 0))] 55 [] := by
    intro  σ hf
    unfold f_X7_undo_55 at hf
    refine g_aload_n (pc := 55) C dX7_undo_55 0 rfl rfl ?_
    refine g_get (pc := 56) C in_X7 wc_0 cl_X7 2 (by decide) tw_307 rfl dX7_undo_56 ?_
    obtain ⟨s1, h1, hf⟩ := bd_some hf
    refine g_cVv (pc := 59) C (st := []) jW.rf (c_X0_forgetLatest l D hw h1) y_X0_forgetLatest tw_455 rfl ⟨by decide, by decide⟩ ⟨Nat.zero_le _, Nat.zero_le _⟩ (Nat.le_of_ble_eq_true rfl) wc_6 cl_X0 rfl dX7_undo_59 rfl ?_
    refine g_aload_n (pc := 62) C dX7_undo_62 0 rfl rfl ?_
    refine g_get (pc := 63) C in_X7 wc_0 cl_X7 2 (by decide) tw_307 rfl dX7_undo_63 ?_
    refine g_getN (pc := 66) C in_X0 wc_6 cl_X0 2 (by decide) tn_6 rfl dX7_undo_66 ?_
    cases hf
    exact g_iret (pc := 69) C hr dX7_undo_69
  unfold f_X7_undo at hf
  refine g_aload_n (pc := 0) C dX7_undo_0 0 rfl rfl ?_
  refine g_get (pc := 1) C in_X7 wc_0 cl_X7 2 (by decide) tw_307 rfl dX7_undo_1 ?_
  refine g_getN (pc := 4) C in_X0 wc_6 cl_X0 2 (by decide) tn_6 rfl dX7_undo_4 ?_
  refine g_iconst (pc := 7) C dX7_undo_7 ic_1 ?_
  refine g_icmp_ge (pc := 8) C 14 dX7_undo_8 (by decide) (fun q2 => ?_) (fun q2 => ?_)
  · replace hf := (if_pos q2).symm.trans hf
    refine g_aload_n (pc := 14) C dX7_undo_14 0 rfl rfl ?_
    refine g_get (pc := 15) C in_X7 wc_0 cl_X7 2 (by decide) tw_307 rfl dX7_undo_15 ?_
    obtain ⟨r3, h3, hf⟩ := bd_some hf
    refine g_cVe (pc := 18) C (st := []) jW.rf (c_X0_latestShare l D hw h3) y_X0_latestShare tw_440 rfl ⟨by decide, by decide⟩ ⟨Nat.zero_le _, Nat.zero_le _⟩ (Nat.le_of_ble_eq_true rfl) wc_6 cl_X0 rfl dX7_undo_18 rfl ?_
    rcases r3 with _ | k903
    · replace hf := oc_n.symm.trans hf
      refine g_top (v1 := .null) rfl ?_
      refine g_astore_nN (pc := 21) C [(1, .null), (0, .ref (a 0))] dX7_undo_21 rfl (by decide) rfl ?_
      refine g_aload_n (pc := 22) C dX7_undo_22 1 rfl rfl ?_
      refine g_get (pc := 23) C in_X7 wc_0 cl_X7 2 (by decide) tw_307 rfl dX7_undo_23 ?_
      obtain ⟨r4, h4, hf⟩ := bd_some hf
      refine g_cVi (pc := 26) C (st := []) jW.rf (c_X0_latestAmount l D hw h4) y_X0_latestAmount tw_444 rfl ⟨by decide, by decide⟩ ⟨Nat.zero_le _, Nat.zero_le _⟩ (Nat.le_of_ble_eq_true rfl) wc_6 cl_X0 rfl dX7_undo_26 rfl ?_
      refine g_istore_n (pc := 29) C [(2, .int r4), (1, .null), (0, .ref (a 0))] dX7_undo_29 rfl (by decide) rfl ?_
      refine g_aload_nN (pc := 30) C dX7_undo_30 1 rfl rfl ?_
      refine g_ifnonnullN (pc := 31) C dX7_undo_31 ?_
      refine g_aload_n (pc := 34) C dX7_undo_34 2 rfl rfl ?_
      refine g_get (pc := 35) C in_X7 wc_0 cl_X7 1 (by decide) tw_306 rfl dX7_undo_35 ?_
      refine g_iload_n (pc := 38) C dX7_undo_38 0 rfl rfl ?_
      obtain ⟨s5, h5, hf⟩ := bd_some hf
      refine g_cVv (pc := 39) C (st := []) jW.rf (c_X5_takeBack l D hw h5) y_X5_takeBack tw_448 rfl ⟨by decide, by decide⟩ ⟨Nat.zero_le _, Nat.zero_le _⟩ (Nat.le_of_ble_eq_true rfl) wc_3 cl_X5 rfl dX7_undo_39 rfl ?_
      refine g_goto (pc := 42) C 55 dX7_undo_42 (by decide) ?_
      exact g_sub [2] rfl (b55 s5 hf)
    · replace hf := oc_s.symm.trans hf
      obtain ⟨hk903, hf⟩ := gd_some hf
      replace hk903 := of_decide_eq_true hk903
      refine g_top (v1 := .ref (a k903)) rfl ?_
      refine g_astore_n (pc := 21) C [(1, .ref (a k903)), (0, .ref (a 0))] dX7_undo_21 rfl (by decide) rfl ?_
      refine g_aload_n (pc := 22) C dX7_undo_22 1 rfl rfl ?_
      refine g_get (pc := 23) C in_X7 wc_0 cl_X7 2 (by decide) tw_307 rfl dX7_undo_23 ?_
      obtain ⟨r6, h6, hf⟩ := bd_some hf
      refine g_cVi (pc := 26) C (st := []) jW.rf (c_X0_latestAmount l D hw h6) y_X0_latestAmount tw_444 rfl ⟨by decide, by decide⟩ ⟨Nat.zero_le _, Nat.zero_le _⟩ (Nat.le_of_ble_eq_true rfl) wc_6 cl_X0 rfl dX7_undo_26 rfl ?_
      refine g_istore_n (pc := 29) C [(2, .int r6), (1, .ref (a k903)), (0, .ref (a 0))] dX7_undo_29 rfl (by decide) rfl ?_
      refine g_aload_n (pc := 30) C dX7_undo_30 1 rfl rfl ?_
      refine g_ifnonnull (pc := 31) C 45 dX7_undo_31 (by decide) ?_
      refine g_aload_n (pc := 45) C dX7_undo_45 1 rfl rfl ?_
      refine g_dup (pc := 46) C dX7_undo_46 rfl ?_
      refine g_getN (pc := 47) C in_X4 (wc_14 hk903) cl_X4 3 (by decide) tn_12 rfl dX7_undo_47 ?_
      refine g_iload_n (pc := 50) C dX7_undo_50 0 rfl rfl ?_
      refine g_isub (pc := 51) C dX7_undo_51 ?_
      refine g_putN (pc := 52) C in_X4 tyX4 tyX4_ok nmX4 (wc_14 hk903) cl_X4 3 (by decide) tn_12 rfl rfl rfl (Nat.le_of_ble_eq_true rfl) (wp_14_3 hk903) dX7_undo_52 ?_
      exact g_sub [2] rfl (b55 (up σ k903 3 ((σ k903 3) - r6)) hf)
  · replace hf := (if_neg q2).symm.trans hf
    refine g_bipush (pc := 11) C dX7_undo_11 bp_m2 ?_
    cases hf
    exact g_iret (pc := 13) C hr dX7_undo_13

set_option maxHeartbeats 4000000 in
set_option maxRecDepth 100000 in
theorem c_X7_series (l : Launch) (D : va_G) {cI cH cE cJ : ClassId} {a : Nat → Nat} (hw : ∀ σ, va_D (Pc a) (wc cI cH cE a σ)) {σ : Me} {x1 : Int32} {x2 : Int32} {r : Int32} (hf : f_X7_series σ x1 x2 = some r) : Mq l D (tyc cI cH cE cJ) (wc cI cH cE a) (Pc a) yX7_series cX7_series 4 (Option.some Jvm.ClassFile.FieldType.int) 5 [.ref (a 0), .int x1, .int x2] σ (qI D (wc cI cH cE a) (Pc a) σ r) := by
  refine mOf (plainFor_of_name (by decide)) hw (Nat.le_of_ble_eq_true rfl) [(0, .ref (a 0)), (1, .int x1), (2, .int x2)] rfl ?_
  intro p e s m args below meth c C hr
  unfold f_X7_series at hf
  refine g_aload_n (pc := 0) C dX7_series_0 0 rfl rfl ?_
  obtain ⟨q1, hf⟩ := gd_some hf
  refine g_get (pc := 1) C in_X7 wc_0 cl_X7 3 (by decide) tw_308 rfl dX7_series_1 ?_
  refine g_iload_n (pc := 4) C dX7_series_4 1 rfl rfl ?_
  obtain ⟨r2, h2, hf⟩ := bd_some hf
  refine g_cVe (pc := 5) C (st := []) jW.rf (c_X2_seriesAt l D hw (of_decide_eq_true q1) h2) y_X2_seriesAt tw_377 rfl ⟨by decide, by decide⟩ ⟨Nat.zero_le _, Nat.zero_le _⟩ (Nat.le_of_ble_eq_true rfl) (wc_9 (of_decide_eq_true q1)) cl_X2 rfl dX7_series_5 rfl ?_
  rcases r2 with _ | k902
  · replace hf := oc_n.symm.trans hf
    refine g_top (v1 := .null) rfl ?_
    refine g_astore_nN (pc := 8) C [(3, .null), (0, .ref (a 0)), (1, .int x1), (2, .int x2)] dX7_series_8 rfl (by decide) rfl ?_
    refine g_aload_nN (pc := 9) C dX7_series_9 0 rfl rfl ?_
    refine g_ifnonnullN (pc := 10) C dX7_series_10 ?_
    refine g_iconst (pc := 13) C dX7_series_13 ic_m1 ?_
    cases hf
    exact g_iret (pc := 14) C hr dX7_series_14
  · replace hf := oc_s.symm.trans hf
    obtain ⟨hk902, hf⟩ := gd_some hf
    replace hk902 := of_decide_eq_true hk902
    refine g_top (v1 := .ref (a k902)) rfl ?_
    refine g_astore_n (pc := 8) C [(3, .ref (a k902)), (0, .ref (a 0)), (1, .int x1), (2, .int x2)] dX7_series_8 rfl (by decide) rfl ?_
    refine g_aload_n (pc := 9) C dX7_series_9 0 rfl rfl ?_
    refine g_ifnonnull (pc := 10) C 15 dX7_series_10 (by decide) ?_
    refine g_iload_n (pc := 15) C dX7_series_15 3 rfl rfl ?_
    by_cases q3 : x2 = 0
    · replace hf := (if_pos q3).symm.trans hf
      refine g_tabIn (pc := 16) C (off := 48) 64 dX7_series_16 (by rw [q3]; decide) (by rw [q3]; decide) (by rw [q3]; rfl) (by decide) ?_
      refine g_aload_n (pc := 64) C dX7_series_64 0 rfl rfl ?_
      refine g_getN (pc := 65) C in_X3 (wc_12 hk902) cl_X3 2 (by decide) tn_15 rfl dX7_series_65 ?_
      cases hf
      exact g_iret (pc := 68) C hr dX7_series_68
    replace hf := (if_neg q3).symm.trans hf
    by_cases q4 : x2 = 1
    · replace hf := (if_pos q4).symm.trans hf
      refine g_tabIn (pc := 16) C (off := 53) 69 dX7_series_16 (by rw [q4]; decide) (by rw [q4]; decide) (by rw [q4]; rfl) (by decide) ?_
      refine g_aload_n (pc := 69) C dX7_series_69 0 rfl rfl ?_
      refine g_getN (pc := 70) C in_X3 (wc_12 hk902) cl_X3 3 (by decide) tn_16 rfl dX7_series_70 ?_
      cases hf
      exact g_iret (pc := 73) C hr dX7_series_73
    replace hf := (if_neg q4).symm.trans hf
    by_cases q5 : x2 = 2
    · replace hf := (if_pos q5).symm.trans hf
      refine g_tabIn (pc := 16) C (off := 58) 74 dX7_series_16 (by rw [q5]; decide) (by rw [q5]; decide) (by rw [q5]; rfl) (by decide) ?_
      refine g_aload_n (pc := 74) C dX7_series_74 0 rfl rfl ?_
      refine g_getN (pc := 75) C in_X3 (wc_12 hk902) cl_X3 4 (by decide) tn_18 rfl dX7_series_75 ?_
      cases hf
      exact g_iret (pc := 78) C hr dX7_series_78
    replace hf := (if_neg q5).symm.trans hf
    by_cases q6 : x2 = 3
    · replace hf := (if_pos q6).symm.trans hf
      refine g_tabIn (pc := 16) C (off := 63) 79 dX7_series_16 (by rw [q6]; decide) (by rw [q6]; decide) (by rw [q6]; rfl) (by decide) ?_
      refine g_aload_n (pc := 79) C dX7_series_79 0 rfl rfl ?_
      obtain ⟨r7, h7, hf⟩ := bd_some hf
      refine g_cVi (pc := 80) C (st := []) jW.rf (c_X3_notesPrinted l D hw hk902 h7) y_X3_notesPrinted tw_464 rfl ⟨by decide, by decide⟩ ⟨Nat.zero_le _, Nat.zero_le _⟩ (Nat.le_of_ble_eq_true rfl) (wc_12 hk902) cl_X3 rfl dX7_series_80 rfl ?_
      cases hf
      exact g_iret (pc := 83) C hr dX7_series_83
    replace hf := (if_neg q6).symm.trans hf
    by_cases q8 : x2 = 4
    · replace hf := (if_pos q8).symm.trans hf
      refine g_tabIn (pc := 16) C (off := 68) 84 dX7_series_16 (by rw [q8]; decide) (by rw [q8]; decide) (by rw [q8]; rfl) (by decide) ?_
      refine g_aload_n (pc := 84) C dX7_series_84 1 rfl rfl ?_
      refine g_get (pc := 85) C in_X7 wc_0 cl_X7 1 (by decide) tw_306 rfl dX7_series_85 ?_
      refine g_iload_n (pc := 88) C dX7_series_88 2 rfl rfl ?_
      obtain ⟨r9, h9, hf⟩ := bd_some hf
      refine g_cVi (pc := 89) C (st := []) jW.rf (c_X5_standingForSeries l D hw h9) y_X5_standingForSeries tw_468 rfl ⟨by decide, by decide⟩ ⟨Nat.zero_le _, Nat.zero_le _⟩ (Nat.le_of_ble_eq_true rfl) wc_3 cl_X5 rfl dX7_series_89 rfl ?_
      cases hf
      exact g_iret (pc := 92) C hr dX7_series_92
    replace hf := (if_neg q8).symm.trans hf
    by_cases q10 : x2 = 5
    · replace hf := (if_pos q10).symm.trans hf
      refine g_tabIn (pc := 16) C (off := 77) 93 dX7_series_16 (by rw [q10]; decide) (by rw [q10]; decide) (by rw [q10]; rfl) (by decide) ?_
      refine g_aload_n (pc := 93) C dX7_series_93 0 rfl rfl ?_
      obtain ⟨r11, h11, hf⟩ := bd_some hf
      refine g_cVi (pc := 94) C (st := []) jW.rf (c_X3_sheetsLeft l D hw hk902 h11) y_X3_sheetsLeft tw_472 rfl ⟨by decide, by decide⟩ ⟨Nat.zero_le _, Nat.zero_le _⟩ (Nat.le_of_ble_eq_true rfl) (wc_12 hk902) cl_X3 rfl dX7_series_94 rfl ?_
      cases hf
      exact g_iret (pc := 97) C hr dX7_series_97
    replace hf := (if_neg q10).symm.trans hf
    by_cases q12 : x2 = 6
    · replace hf := (if_pos q12).symm.trans hf
      refine g_tabIn (pc := 16) C (off := 82) 98 dX7_series_16 (by rw [q12]; decide) (by rw [q12]; decide) (by rw [q12]; rfl) (by decide) ?_
      refine g_aload_n (pc := 98) C dX7_series_98 0 rfl rfl ?_
      obtain ⟨r13, h13, hf⟩ := bd_some hf
      refine g_cVi (pc := 99) C (st := []) jW.rf (c_X3_packs l D hw hk902 h13) y_X3_packs tw_477 rfl ⟨by decide, by decide⟩ ⟨Nat.zero_le _, Nat.zero_le _⟩ (Nat.le_of_ble_eq_true rfl) (wc_12 hk902) cl_X3 rfl dX7_series_99 rfl ?_
      cases hf
      exact g_iret (pc := 102) C hr dX7_series_102
    replace hf := (if_neg q12).symm.trans hf
    by_cases q14 : x2 = 7
    · replace hf := (if_pos q14).symm.trans hf
      refine g_tabIn (pc := 16) C (off := 87) 103 dX7_series_16 (by rw [q14]; decide) (by rw [q14]; decide) (by rw [q14]; rfl) (by decide) ?_
      refine g_aload_n (pc := 103) C dX7_series_103 0 rfl rfl ?_
      obtain ⟨r15, h15, hf⟩ := bd_some hf
      refine g_cVi (pc := 104) C (st := []) jW.rf (c_X3_wholePacks l D hw hk902 h15) y_X3_wholePacks tw_481 rfl ⟨by decide, by decide⟩ ⟨Nat.zero_le _, Nat.zero_le _⟩ (Nat.le_of_ble_eq_true rfl) (wc_12 hk902) cl_X3 rfl dX7_series_104 rfl ?_
      cases hf
      exact g_iret (pc := 107) C hr dX7_series_107
    replace hf := (if_neg q14).symm.trans hf
    refine g_tabOut (pc := 16) C 108 dX7_series_16 (by have zq3 := lv_neT q3 (a := 0) rfl; have zq4 := lv_neT q4 (a := 1) rfl; have zq5 := lv_neT q5 (a := 2) rfl; have zq6 := lv_neT q6 (a := 3) rfl; have zq8 := lv_neT q8 (a := 4) rfl; have zq10 := lv_neT q10 (a := 5) rfl; have zq12 := lv_neT q12 (a := 6) rfl; have zq14 := lv_neT q14 (a := 7) rfl; omega) (by decide) ?_
    refine g_iconst (pc := 108) C dX7_series_108 ic_m1 ?_
    cases hf
    exact g_iret (pc := 109) C hr dX7_series_109

set_option maxHeartbeats 4000000 in
set_option maxRecDepth 100000 in
theorem c_X7_share (l : Launch) (D : va_G) {cI cH cE cJ : ClassId} {a : Nat → Nat} (hw : ∀ σ, va_D (Pc a) (wc cI cH cE a σ)) {σ : Me} {x1 : Int32} {x2 : Int32} {x3 : Int32} {r : Int32} (hf : f_X7_share σ x1 x2 x3 = some r) : Mq l D (tyc cI cH cE cJ) (wc cI cH cE a) (Pc a) yX7_share cX7_share 5 (Option.some Jvm.ClassFile.FieldType.int) 3 [.ref (a 0), .int x1, .int x2, .int x3] σ (qI D (wc cI cH cE a) (Pc a) σ r) := by
  refine mOf (plainFor_of_name (by decide)) hw (Nat.le_of_ble_eq_true rfl) [(0, .ref (a 0)), (1, .int x1), (2, .int x2), (3, .int x3)] rfl ?_
  intro p e s m args below meth c C hr
  unfold f_X7_share at hf
  refine g_aload_n (pc := 0) C dX7_share_0 0 rfl rfl ?_
  obtain ⟨q1, hf⟩ := gd_some hf
  refine g_get (pc := 1) C in_X7 wc_0 cl_X7 3 (by decide) tw_308 rfl dX7_share_1 ?_
  refine g_iload_n (pc := 4) C dX7_share_4 1 rfl rfl ?_
  refine g_iload_n (pc := 5) C dX7_share_5 2 rfl rfl ?_
  obtain ⟨r2, h2, hf⟩ := bd_some hf
  refine g_cVe (pc := 6) C (st := []) jW.rf (c_X2_shareAt l D hw (of_decide_eq_true q1) h2) y_X2_shareAt tw_343 rfl ⟨by decide, by decide⟩ ⟨Nat.zero_le _, Nat.zero_le _⟩ (Nat.le_of_ble_eq_true rfl) (wc_9 (of_decide_eq_true q1)) cl_X2 rfl dX7_share_6 rfl ?_
  rcases r2 with _ | k902
  · replace hf := oc_n.symm.trans hf
    refine g_top (v1 := .null) rfl ?_
    refine g_astoreN (pc := 9) C [(4, .null), (0, .ref (a 0)), (1, .int x1), (2, .int x2), (3, .int x3)] dX7_share_9 (by decide) rfl ?_
    refine g_aloadN (pc := 11) C dX7_share_11 0 rfl ?_
    refine g_ifnonnullN (pc := 13) C dX7_share_13 ?_
    refine g_iconst (pc := 16) C dX7_share_16 ic_m1 ?_
    cases hf
    exact g_iret (pc := 17) C hr dX7_share_17
  · replace hf := oc_s.symm.trans hf
    obtain ⟨hk902, hf⟩ := gd_some hf
    replace hk902 := of_decide_eq_true hk902
    refine g_top (v1 := .ref (a k902)) rfl ?_
    refine g_astore (pc := 9) C [(4, .ref (a k902)), (0, .ref (a 0)), (1, .int x1), (2, .int x2), (3, .int x3)] dX7_share_9 (by decide) rfl ?_
    refine g_aload (pc := 11) C dX7_share_11 0 rfl ?_
    refine g_ifnonnull (pc := 13) C 18 dX7_share_13 (by decide) ?_
    refine g_iload_n (pc := 18) C dX7_share_18 4 rfl rfl ?_
    by_cases q3 : x3 = 0
    · replace hf := (if_pos q3).symm.trans hf
      refine g_tabIn (pc := 19) C (off := 29) 48 dX7_share_19 (by rw [q3]; decide) (by rw [q3]; decide) (by rw [q3]; rfl) (by decide) ?_
      refine g_aload (pc := 48) C dX7_share_48 0 rfl ?_
      refine g_getN (pc := 50) C in_X4 (wc_14 hk902) cl_X4 1 (by decide) tn_10 rfl dX7_share_50 ?_
      cases hf
      exact g_iret (pc := 53) C hr dX7_share_53
    replace hf := (if_neg q3).symm.trans hf
    by_cases q4 : x3 = 1
    · replace hf := (if_pos q4).symm.trans hf
      refine g_tabIn (pc := 19) C (off := 35) 54 dX7_share_19 (by rw [q4]; decide) (by rw [q4]; decide) (by rw [q4]; rfl) (by decide) ?_
      refine g_aload (pc := 54) C dX7_share_54 0 rfl ?_
      refine g_getN (pc := 56) C in_X4 (wc_14 hk902) cl_X4 3 (by decide) tn_12 rfl dX7_share_56 ?_
      cases hf
      exact g_iret (pc := 59) C hr dX7_share_59
    replace hf := (if_neg q4).symm.trans hf
    by_cases q5 : x3 = 2
    · replace hf := (if_pos q5).symm.trans hf
      refine g_tabIn (pc := 19) C (off := 41) 60 dX7_share_19 (by rw [q5]; decide) (by rw [q5]; decide) (by rw [q5]; rfl) (by decide) ?_
      refine g_aload (pc := 60) C dX7_share_60 0 rfl ?_
      refine g_getN (pc := 62) C in_X4 (wc_14 hk902) cl_X4 2 (by decide) tn_11 rfl dX7_share_62 ?_
      cases hf
      exact g_iret (pc := 65) C hr dX7_share_65
    replace hf := (if_neg q5).symm.trans hf
    by_cases q6 : x3 = 3
    · replace hf := (if_pos q6).symm.trans hf
      refine g_tabIn (pc := 19) C (off := 47) 66 dX7_share_19 (by rw [q6]; decide) (by rw [q6]; decide) (by rw [q6]; rfl) (by decide) ?_
      refine g_aload (pc := 66) C dX7_share_66 0 rfl ?_
      refine g_getN (pc := 68) C in_X4 (wc_14 hk902) cl_X4 0 (by decide) tn_8 rfl dX7_share_68 ?_
      cases hf
      exact g_iret (pc := 71) C hr dX7_share_71
    replace hf := (if_neg q6).symm.trans hf
    refine g_tabOut (pc := 19) C 72 dX7_share_19 (by have zq3 := lv_neT q3 (a := 0) rfl; have zq4 := lv_neT q4 (a := 1) rfl; have zq5 := lv_neT q5 (a := 2) rfl; have zq6 := lv_neT q6 (a := 3) rfl; omega) (by decide) ?_
    refine g_iconst (pc := 72) C dX7_share_72 ic_m1 ?_
    cases hf
    exact g_iret (pc := 73) C hr dX7_share_73

set_option maxHeartbeats 4000000 in
set_option maxRecDepth 100000 in
theorem c_X7_where (l : Launch) (D : va_G) {cI cH cE cJ : ClassId} {a : Nat → Nat} (hw : ∀ σ, va_D (Pc a) (wc cI cH cE a σ)) {σ : Me} {x1 : Int32} {x2 : Int32} {x3 : Int32} {r : Int32} (hf : f_X7_where σ x1 x2 x3 = some r) : Mq l D (tyc cI cH cE cJ) (wc cI cH cE a) (Pc a) yX7_where cX7_where 7 (Option.some Jvm.ClassFile.FieldType.int) 2 [.ref (a 0), .int x1, .int x2, .int x3] σ (qI D (wc cI cH cE a) (Pc a) σ r) := by
  refine mOf (plainFor_of_name (by decide)) hw (Nat.le_of_ble_eq_true rfl) [(0, .ref (a 0)), (1, .int x1), (2, .int x2), (3, .int x3)] rfl ?_
  intro p e s m args below meth c C hr
  unfold f_X7_where at hf
  refine g_aload_n (pc := 0) C dX7_where_0 0 rfl rfl ?_
  obtain ⟨q1, hf⟩ := gd_some hf
  refine g_get (pc := 1) C in_X7 wc_0 cl_X7 3 (by decide) tw_308 rfl dX7_where_1 ?_
  refine g_iload_n (pc := 4) C dX7_where_4 1 rfl rfl ?_
  obtain ⟨r2, h2, hf⟩ := bd_some hf
  refine g_cVe (pc := 5) C (st := []) jW.rf (c_X2_seriesAt l D hw (of_decide_eq_true q1) h2) y_X2_seriesAt tw_377 rfl ⟨by decide, by decide⟩ ⟨Nat.zero_le _, Nat.zero_le _⟩ (Nat.le_of_ble_eq_true rfl) (wc_9 (of_decide_eq_true q1)) cl_X2 rfl dX7_where_5 rfl ?_
  rcases r2 with _ | k902
  · replace hf := oc_n.symm.trans hf
    refine g_top (v1 := .null) rfl ?_
    refine g_astoreN (pc := 8) C [(4, .null), (0, .ref (a 0)), (1, .int x1), (2, .int x2), (3, .int x3)] dX7_where_8 (by decide) rfl ?_
    refine g_aloadN (pc := 10) C dX7_where_10 0 rfl ?_
    refine g_ifnonnullN (pc := 12) C dX7_where_12 ?_
    refine g_iconst (pc := 15) C dX7_where_15 ic_m1 ?_
    cases hf
    exact g_iret (pc := 16) C hr dX7_where_16
  · replace hf := oc_s.symm.trans hf
    obtain ⟨hk902, hf⟩ := gd_some hf
    replace hk902 := of_decide_eq_true hk902
    refine g_top (v1 := .ref (a k902)) rfl ?_
    refine g_astore (pc := 8) C [(4, .ref (a k902)), (0, .ref (a 0)), (1, .int x1), (2, .int x2), (3, .int x3)] dX7_where_8 (by decide) rfl ?_
    refine g_aload (pc := 10) C dX7_where_10 0 rfl ?_
    refine g_ifnonnull (pc := 12) C 17 dX7_where_12 (by decide) ?_
    refine g_aload (pc := 17) C dX7_where_17 0 rfl ?_
    refine g_iload_n (pc := 19) C dX7_where_19 3 rfl rfl ?_
    obtain ⟨r3, h3, hf⟩ := bd_some hf
    refine g_cVi (pc := 20) C (st := []) jW.rf (c_X3_pressOf l D hw hk902 h3) y_X3_pressOf tw_500 rfl ⟨by decide, by decide⟩ ⟨Nat.zero_le _, Nat.zero_le _⟩ (Nat.le_of_ble_eq_true rfl) (wc_12 hk902) cl_X3 rfl dX7_where_20 rfl ?_
    refine g_istore (pc := 23) C [(5, .int r3), (4, .ref (a k902)), (0, .ref (a 0)), (1, .int x1), (2, .int x2), (3, .int x3)] dX7_where_23 (by decide) rfl ?_
    refine g_aload (pc := 25) C dX7_where_25 1 rfl ?_
    refine g_iload (pc := 27) C dX7_where_27 0 rfl ?_
    obtain ⟨r4, h4, hf⟩ := bd_some hf
    refine g_cVe (pc := 29) C (st := []) jW.rf (c_X3_shareAt l D hw hk902 h4) y_X3_shareAt tw_501 rfl ⟨by decide, by decide⟩ ⟨Nat.zero_le _, Nat.zero_le _⟩ (Nat.le_of_ble_eq_true rfl) (wc_12 hk902) cl_X3 rfl dX7_where_29 rfl ?_
    rcases r4 with _ | k904
    · replace hf := oc_n.symm.trans hf
      refine g_top (v1 := .null) rfl ?_
      refine g_astoreN (pc := 32) C [(6, .null), (5, .int r3), (4, .ref (a k902)), (0, .ref (a 0)), (1, .int x1), (2, .int x2), (3, .int x3)] dX7_where_32 (by decide) rfl ?_
      refine g_aloadN (pc := 34) C dX7_where_34 0 rfl ?_
      refine g_ifnonnullN (pc := 36) C dX7_where_36 ?_
      refine g_iconst (pc := 39) C dX7_where_39 ic_m1 ?_
      cases hf
      exact g_iret (pc := 40) C hr dX7_where_40
    · replace hf := oc_s.symm.trans hf
      obtain ⟨hk904, hf⟩ := gd_some hf
      replace hk904 := of_decide_eq_true hk904
      refine g_top (v1 := .ref (a k904)) rfl ?_
      refine g_astore (pc := 32) C [(6, .ref (a k904)), (5, .int r3), (4, .ref (a k902)), (0, .ref (a 0)), (1, .int x1), (2, .int x2), (3, .int x3)] dX7_where_32 (by decide) rfl ?_
      refine g_aload (pc := 34) C dX7_where_34 0 rfl ?_
      refine g_ifnonnull (pc := 36) C 41 dX7_where_36 (by decide) ?_
      refine g_iload_n (pc := 41) C dX7_where_41 6 rfl rfl ?_
      by_cases q5 : x3 = 0
      · replace hf := (if_pos q5).symm.trans hf
        refine g_tabIn (pc := 42) C (off := 26) 68 dX7_where_42 (by rw [q5]; decide) (by rw [q5]; decide) (by rw [q5]; rfl) (by decide) ?_
        refine g_iload (pc := 68) C dX7_where_68 1 rfl ?_
        cases hf
        exact g_iret (pc := 70) C hr dX7_where_70
      replace hf := (if_neg q5).symm.trans hf
      by_cases q6 : x3 = 1
      · replace hf := (if_pos q6).symm.trans hf
        refine g_tabIn (pc := 42) C (off := 29) 71 dX7_where_42 (by rw [q6]; decide) (by rw [q6]; decide) (by rw [q6]; rfl) (by decide) ?_
        refine g_aload (pc := 71) C dX7_where_71 0 rfl ?_
        refine g_iload_n (pc := 73) C dX7_where_73 5 rfl rfl ?_
        obtain ⟨r7, h7, hf⟩ := bd_some hf
        refine g_cVi (pc := 74) C (st := []) jW.rf (c_X4_sheetOf l D hw hk904 h7) y_X4_sheetOf tw_502 rfl ⟨by decide, by decide⟩ ⟨Nat.zero_le _, Nat.zero_le _⟩ (Nat.le_of_ble_eq_true rfl) (wc_14 hk904) cl_X4 rfl dX7_where_74 rfl ?_
        cases hf
        exact g_iret (pc := 77) C hr dX7_where_77
      replace hf := (if_neg q6).symm.trans hf
      by_cases q8 : x3 = 2
      · replace hf := (if_pos q8).symm.trans hf
        refine g_tabIn (pc := 42) C (off := 36) 78 dX7_where_42 (by rw [q8]; decide) (by rw [q8]; decide) (by rw [q8]; rfl) (by decide) ?_
        refine g_aload (pc := 78) C dX7_where_78 0 rfl ?_
        refine g_iload_n (pc := 80) C dX7_where_80 5 rfl rfl ?_
        obtain ⟨r9, h9, hf⟩ := bd_some hf
        refine g_cVi (pc := 81) C (st := []) jW.rf (c_X4_placeOf l D hw hk904 h9) y_X4_placeOf tw_503 rfl ⟨by decide, by decide⟩ ⟨Nat.zero_le _, Nat.zero_le _⟩ (Nat.le_of_ble_eq_true rfl) (wc_14 hk904) cl_X4 rfl dX7_where_81 rfl ?_
        cases hf
        exact g_iret (pc := 84) C hr dX7_where_84
      replace hf := (if_neg q8).symm.trans hf
      refine g_tabOut (pc := 42) C 85 dX7_where_42 (by have zq5 := lv_neT q5 (a := 0) rfl; have zq6 := lv_neT q6 (a := 1) rfl; have zq8 := lv_neT q8 (a := 2) rfl; omega) (by decide) ?_
      refine g_iconst (pc := 85) C dX7_where_85 ic_m1 ?_
      cases hf
      exact g_iret (pc := 86) C hr dX7_where_86

set_option maxHeartbeats 4000000 in
set_option maxRecDepth 100000 in
theorem c_X7_number (l : Launch) (D : va_G) {cI cH cE cJ : ClassId} {a : Nat → Nat} (hw : ∀ σ, va_D (Pc a) (wc cI cH cE a σ)) {σ : Me} {x1 : Int32} {x2 : Int32} {x3 : Int32} {x4 : Int32} {r : Int32} (hf : f_X7_number σ x1 x2 x3 x4 = some r) : Mq l D (tyc cI cH cE cJ) (wc cI cH cE a) (Pc a) yX7_number cX7_number 6 (Option.some Jvm.ClassFile.FieldType.int) 3 [.ref (a 0), .int x1, .int x2, .int x3, .int x4] σ (qI D (wc cI cH cE a) (Pc a) σ r) := by
  refine mOf (plainFor_of_name (by decide)) hw (Nat.le_of_ble_eq_true rfl) [(0, .ref (a 0)), (1, .int x1), (2, .int x2), (3, .int x3), (4, .int x4)] rfl ?_
  intro p e s m args below meth c C hr
  unfold f_X7_number at hf
  refine g_aload_n (pc := 0) C dX7_number_0 0 rfl rfl ?_
  obtain ⟨q1, hf⟩ := gd_some hf
  refine g_get (pc := 1) C in_X7 wc_0 cl_X7 3 (by decide) tw_308 rfl dX7_number_1 ?_
  refine g_iload_n (pc := 4) C dX7_number_4 1 rfl rfl ?_
  refine g_iload_n (pc := 5) C dX7_number_5 2 rfl rfl ?_
  obtain ⟨r2, h2, hf⟩ := bd_some hf
  refine g_cVe (pc := 6) C (st := []) jW.rf (c_X2_shareAt l D hw (of_decide_eq_true q1) h2) y_X2_shareAt tw_343 rfl ⟨by decide, by decide⟩ ⟨Nat.zero_le _, Nat.zero_le _⟩ (Nat.le_of_ble_eq_true rfl) (wc_9 (of_decide_eq_true q1)) cl_X2 rfl dX7_number_6 rfl ?_
  rcases r2 with _ | k902
  · replace hf := oc_n.symm.trans hf
    refine g_top (v1 := .null) rfl ?_
    refine g_astoreN (pc := 9) C [(5, .null), (0, .ref (a 0)), (1, .int x1), (2, .int x2), (3, .int x3), (4, .int x4)] dX7_number_9 (by decide) rfl ?_
    refine g_aloadN (pc := 11) C dX7_number_11 0 rfl ?_
    refine g_ifnullN (pc := 13) C 41 dX7_number_13 (by decide) ?_
    refine g_iconst (pc := 41) C dX7_number_41 ic_m1 ?_
    cases hf
    exact g_iret (pc := 42) C hr dX7_number_42
  · replace hf := oc_s.symm.trans hf
    obtain ⟨hk902, hf⟩ := gd_some hf
    replace hk902 := of_decide_eq_true hk902
    refine g_top (v1 := .ref (a k902)) rfl ?_
    refine g_astore (pc := 9) C [(5, .ref (a k902)), (0, .ref (a 0)), (1, .int x1), (2, .int x2), (3, .int x3), (4, .int x4)] dX7_number_9 (by decide) rfl ?_
    refine g_aload (pc := 11) C dX7_number_11 0 rfl ?_
    refine g_ifnull (pc := 13) C dX7_number_13 ?_
    refine g_aload (pc := 16) C dX7_number_16 0 rfl ?_
    refine g_iload_n (pc := 18) C dX7_number_18 4 rfl rfl ?_
    obtain ⟨r3, h3, hf⟩ := bd_some hf
    refine g_cVi (pc := 19) C (st := []) jW.rf (c_X4_hasSheet l D hw hk902 h3) y_X4_hasSheet tw_423 rfl ⟨by decide, by decide⟩ ⟨Nat.zero_le _, Nat.zero_le _⟩ (Nat.le_of_ble_eq_true rfl) (wc_14 hk902) cl_X4 rfl dX7_number_19 rfl ?_
    refine g_if_eq (pc := 22) C 41 dX7_number_22 (by decide) (fun q4 => ?_) (fun q4 => ?_)
    · replace hf := (if_pos q4).symm.trans hf
      refine g_iconst (pc := 41) C dX7_number_41 ic_m1 ?_
      cases hf
      exact g_iret (pc := 42) C hr dX7_number_42
    · replace hf := (if_neg q4).symm.trans hf
      refine g_iload (pc := 25) C dX7_number_25 5 rfl ?_
      refine g_iconst (pc := 27) C dX7_number_27 ic_0 ?_
      refine g_aload (pc := 28) C dX7_number_28 0 rfl ?_
      refine g_getN (pc := 30) C in_X4 (wc_14 hk902) cl_X4 0 (by decide) tn_8 rfl dX7_number_30 ?_
      refine g_iconst (pc := 33) C dX7_number_33 ic_1 ?_
      refine g_isub (pc := 34) C dX7_number_34 ?_
      obtain ⟨r5, h5, hf⟩ := bd_some hf
      refine g_cSi (pc := 35) C (st := []) jW.rf (c_X7_isFromTo l D hw h5) y_X7_isFromTo tw_326 rfl ⟨by decide, by decide⟩ ⟨Nat.zero_le _, Nat.zero_le _⟩ (Nat.le_of_ble_eq_true rfl) dX7_number_35 rfl ?_
      refine g_if_ne (pc := 38) C 43 dX7_number_38 (by decide) (fun q6 => ?_) (fun q6 => ?_)
      · replace hf := (if_neg q6).symm.trans hf
        refine g_aload (pc := 43) C dX7_number_43 0 rfl ?_
        refine g_iload_n (pc := 45) C dX7_number_45 4 rfl rfl ?_
        refine g_iload (pc := 46) C dX7_number_46 5 rfl ?_
        obtain ⟨r7, h7, hf⟩ := bd_some hf
        refine g_cVi (pc := 48) C (st := []) jW.rf (c_X4_numberAt l D hw hk902 h7) y_X4_numberAt tw_432 rfl ⟨by decide, by decide⟩ ⟨Nat.zero_le _, Nat.zero_le _⟩ (Nat.le_of_ble_eq_true rfl) (wc_14 hk902) cl_X4 rfl dX7_number_48 rfl ?_
        cases hf
        exact g_iret (pc := 51) C hr dX7_number_51
      · replace hf := (if_pos q6).symm.trans hf
        refine g_iconst (pc := 41) C dX7_number_41 ic_m1 ?_
        cases hf
        exact g_iret (pc := 42) C hr dX7_number_42

set_option maxHeartbeats 4000000 in
set_option maxRecDepth 100000 in
theorem c_X7_check (l : Launch) (D : va_G) {cI cH cE cJ : ClassId} {a : Nat → Nat} (hw : ∀ σ, va_D (Pc a) (wc cI cH cE a σ)) {σ : Me} {x1 : Int32} {x2 : Int32} {r : Int32} (hf : f_X7_check σ x1 x2 = some r) : Mq l D (tyc cI cH cE cJ) (wc cI cH cE a) (Pc a) yX7_check cX7_check 4 (Option.some Jvm.ClassFile.FieldType.int) 5 [.ref (a 0), .int x1, .int x2] σ (qI D (wc cI cH cE a) (Pc a) σ r) := by
  refine mOf (plainFor_of_name (by decide)) hw (Nat.le_of_ble_eq_true rfl) [(0, .ref (a 0)), (1, .int x1), (2, .int x2)] rfl ?_
  intro p e s m args below meth c C hr
  unfold f_X7_check at hf
  refine g_aload_n (pc := 0) C dX7_check_0 0 rfl rfl ?_
  obtain ⟨q1, hf⟩ := gd_some hf
  refine g_get (pc := 1) C in_X7 wc_0 cl_X7 3 (by decide) tw_308 rfl dX7_check_1 ?_
  refine g_iload_n (pc := 4) C dX7_check_4 1 rfl rfl ?_
  obtain ⟨r2, h2, hf⟩ := bd_some hf
  refine g_cVe (pc := 5) C (st := []) jW.rf (c_X2_seriesAt l D hw (of_decide_eq_true q1) h2) y_X2_seriesAt tw_377 rfl ⟨by decide, by decide⟩ ⟨Nat.zero_le _, Nat.zero_le _⟩ (Nat.le_of_ble_eq_true rfl) (wc_9 (of_decide_eq_true q1)) cl_X2 rfl dX7_check_5 rfl ?_
  rcases r2 with _ | k902
  · replace hf := oc_n.symm.trans hf
    refine g_top (v1 := .null) rfl ?_
    refine g_astore_nN (pc := 8) C [(3, .null), (0, .ref (a 0)), (1, .int x1), (2, .int x2)] dX7_check_8 rfl (by decide) rfl ?_
    refine g_aload_nN (pc := 9) C dX7_check_9 0 rfl rfl ?_
    refine g_ifnullN (pc := 10) C 24 dX7_check_10 (by decide) ?_
    refine g_iconst (pc := 24) C dX7_check_24 ic_m1 ?_
    cases hf
    exact g_iret (pc := 25) C hr dX7_check_25
  · replace hf := oc_s.symm.trans hf
    obtain ⟨hk902, hf⟩ := gd_some hf
    replace hk902 := of_decide_eq_true hk902
    refine g_top (v1 := .ref (a k902)) rfl ?_
    refine g_astore_n (pc := 8) C [(3, .ref (a k902)), (0, .ref (a 0)), (1, .int x1), (2, .int x2)] dX7_check_8 rfl (by decide) rfl ?_
    refine g_aload_n (pc := 9) C dX7_check_9 0 rfl rfl ?_
    refine g_ifnull (pc := 10) C dX7_check_10 ?_
    refine g_iload_n (pc := 13) C dX7_check_13 3 rfl rfl ?_
    refine g_iconst (pc := 14) C dX7_check_14 ic_0 ?_
    refine g_sipush (pc := 15) C dX7_check_15 sp_999 ?_
    obtain ⟨r3, h3, hf⟩ := bd_some hf
    refine g_cSi (pc := 18) C (st := []) jW.rf (c_X7_isFromTo l D hw h3) y_X7_isFromTo tw_326 rfl ⟨by decide, by decide⟩ ⟨Nat.zero_le _, Nat.zero_le _⟩ (Nat.le_of_ble_eq_true rfl) dX7_check_18 rfl ?_
    refine g_if_ne (pc := 21) C 26 dX7_check_21 (by decide) (fun q4 => ?_) (fun q4 => ?_)
    · replace hf := (if_neg q4).symm.trans hf
      refine g_aload_n (pc := 26) C dX7_check_26 0 rfl rfl ?_
      refine g_getN (pc := 27) C in_X3 (wc_12 hk902) cl_X3 3 (by decide) tn_16 rfl dX7_check_27 ?_
      refine g_aload_n (pc := 30) C dX7_check_30 0 rfl rfl ?_
      refine g_getN (pc := 31) C in_X3 (wc_12 hk902) cl_X3 2 (by decide) tn_15 rfl dX7_check_31 ?_
      refine g_iload_n (pc := 34) C dX7_check_34 3 rfl rfl ?_
      obtain ⟨r5, h5, hf⟩ := bd_some hf
      refine g_cSi (pc := 35) C (st := []) jW.rf (c_X1_ofNumber l D hw h5) y_X1_ofNumber tw_515 rfl ⟨by decide, by decide⟩ ⟨Nat.zero_le _, Nat.zero_le _⟩ (Nat.le_of_ble_eq_true rfl) dX7_check_35 rfl ?_
      cases hf
      exact g_iret (pc := 38) C hr dX7_check_38
    · replace hf := (if_pos q4).symm.trans hf
      refine g_iconst (pc := 24) C dX7_check_24 ic_m1 ?_
      cases hf
      exact g_iret (pc := 25) C hr dX7_check_25

set_option maxHeartbeats 4000000 in
set_option maxRecDepth 100000 in
theorem c_X7_missed (l : Launch) (D : va_G) {cI cH cE cJ : ClassId} {a : Nat → Nat} (hw : ∀ σ, va_D (Pc a) (wc cI cH cE a σ)) {σ : Me} {x1 : Int32} {x2 : Int32} {x3 : Int32} {r : Int32} (hf : f_X7_missed σ x1 x2 x3 = some r) : Mq l D (tyc cI cH cE cJ) (wc cI cH cE a) (Pc a) yX7_missed cX7_missed 5 (Option.some Jvm.ClassFile.FieldType.int) 5 [.ref (a 0), .int x1, .int x2, .int x3] σ (qI D (wc cI cH cE a) (Pc a) σ r) := by
  refine mOf (plainFor_of_name (by decide)) hw (Nat.le_of_ble_eq_true rfl) [(0, .ref (a 0)), (1, .int x1), (2, .int x2), (3, .int x3)] rfl ?_
  intro p e s m args below meth c C hr
  unfold f_X7_missed at hf
  refine g_aload_n (pc := 0) C dX7_missed_0 0 rfl rfl ?_
  obtain ⟨q1, hf⟩ := gd_some hf
  refine g_get (pc := 1) C in_X7 wc_0 cl_X7 3 (by decide) tw_308 rfl dX7_missed_1 ?_
  refine g_iload_n (pc := 4) C dX7_missed_4 1 rfl rfl ?_
  obtain ⟨r2, h2, hf⟩ := bd_some hf
  refine g_cVe (pc := 5) C (st := []) jW.rf (c_X2_seriesAt l D hw (of_decide_eq_true q1) h2) y_X2_seriesAt tw_377 rfl ⟨by decide, by decide⟩ ⟨Nat.zero_le _, Nat.zero_le _⟩ (Nat.le_of_ble_eq_true rfl) (wc_9 (of_decide_eq_true q1)) cl_X2 rfl dX7_missed_5 rfl ?_
  rcases r2 with _ | k902
  · replace hf := oc_n.symm.trans hf
    refine g_top (v1 := .null) rfl ?_
    refine g_astoreN (pc := 8) C [(4, .null), (0, .ref (a 0)), (1, .int x1), (2, .int x2), (3, .int x3)] dX7_missed_8 (by decide) rfl ?_
    refine g_aloadN (pc := 10) C dX7_missed_10 0 rfl ?_
    refine g_ifnullN (pc := 12) C 26 dX7_missed_12 (by decide) ?_
    refine g_iconst (pc := 26) C dX7_missed_26 ic_m1 ?_
    cases hf
    exact g_iret (pc := 27) C hr dX7_missed_27
  · replace hf := oc_s.symm.trans hf
    obtain ⟨hk902, hf⟩ := gd_some hf
    replace hk902 := of_decide_eq_true hk902
    refine g_top (v1 := .ref (a k902)) rfl ?_
    refine g_astore (pc := 8) C [(4, .ref (a k902)), (0, .ref (a 0)), (1, .int x1), (2, .int x2), (3, .int x3)] dX7_missed_8 (by decide) rfl ?_
    refine g_aload (pc := 10) C dX7_missed_10 0 rfl ?_
    refine g_ifnull (pc := 12) C dX7_missed_12 ?_
    refine g_iload_n (pc := 15) C dX7_missed_15 3 rfl rfl ?_
    refine g_iconst (pc := 16) C dX7_missed_16 ic_0 ?_
    refine g_sipush (pc := 17) C dX7_missed_17 sp_999 ?_
    obtain ⟨r3, h3, hf⟩ := bd_some hf
    refine g_cSi (pc := 20) C (st := []) jW.rf (c_X7_isFromTo l D hw h3) y_X7_isFromTo tw_326 rfl ⟨by decide, by decide⟩ ⟨Nat.zero_le _, Nat.zero_le _⟩ (Nat.le_of_ble_eq_true rfl) dX7_missed_20 rfl ?_
    refine g_if_ne (pc := 23) C 28 dX7_missed_23 (by decide) (fun q4 => ?_) (fun q4 => ?_)
    · replace hf := (if_neg q4).symm.trans hf
      refine g_iload_n (pc := 28) C dX7_missed_28 4 rfl rfl ?_
      by_cases q5 : x3 = 0
      · replace hf := (if_pos q5).symm.trans hf
        refine g_lookup (pc := 29) C (off := 27) 56 dX7_missed_29 (by decide) (by rw [q5]; decide) (by decide) ?_
        refine g_aload (pc := 56) C dX7_missed_56 0 rfl ?_
        refine g_getN (pc := 58) C in_X3 (wc_12 hk902) cl_X3 3 (by decide) tn_16 rfl dX7_missed_58 ?_
        refine g_aload (pc := 61) C dX7_missed_61 0 rfl ?_
        refine g_getN (pc := 63) C in_X3 (wc_12 hk902) cl_X3 2 (by decide) tn_15 rfl dX7_missed_63 ?_
        refine g_iload_n (pc := 66) C dX7_missed_66 3 rfl rfl ?_
        obtain ⟨r6, h6, hf⟩ := bd_some hf
        refine g_cSi (pc := 67) C (st := []) jW.rf (c_X1_missedFigures l D hw h6) y_X1_missedFigures tw_540 rfl ⟨by decide, by decide⟩ ⟨Nat.zero_le _, Nat.zero_le _⟩ (Nat.le_of_ble_eq_true rfl) dX7_missed_67 rfl ?_
        cases hf
        exact g_iret (pc := 70) C hr dX7_missed_70
      replace hf := (if_neg q5).symm.trans hf
      by_cases q7 : x3 = 1
      · replace hf := (if_pos q7).symm.trans hf
        refine g_lookup (pc := 29) C (off := 42) 71 dX7_missed_29 (by decide) (by rw [q7]; decide) (by decide) ?_
        refine g_aload (pc := 71) C dX7_missed_71 0 rfl ?_
        refine g_getN (pc := 73) C in_X3 (wc_12 hk902) cl_X3 3 (by decide) tn_16 rfl dX7_missed_73 ?_
        refine g_aload (pc := 76) C dX7_missed_76 0 rfl ?_
        refine g_getN (pc := 78) C in_X3 (wc_12 hk902) cl_X3 2 (by decide) tn_15 rfl dX7_missed_78 ?_
        refine g_iload_n (pc := 81) C dX7_missed_81 3 rfl rfl ?_
        obtain ⟨r8, h8, hf⟩ := bd_some hf
        refine g_cSi (pc := 82) C (st := []) jW.rf (c_X1_missedSwaps l D hw h8) y_X1_missedSwaps tw_543 rfl ⟨by decide, by decide⟩ ⟨Nat.zero_le _, Nat.zero_le _⟩ (Nat.le_of_ble_eq_true rfl) dX7_missed_82 rfl ?_
        cases hf
        exact g_iret (pc := 85) C hr dX7_missed_85
      replace hf := (if_neg q7).symm.trans hf
      refine g_lookup (pc := 29) C (off := 57) 86 dX7_missed_29 (by decide) ((lv_osw q5 (by decide)).trans ((lv_osw q7 (by decide)).trans rfl)) (by decide) ?_
      refine g_iconst (pc := 86) C dX7_missed_86 ic_m1 ?_
      cases hf
      exact g_iret (pc := 87) C hr dX7_missed_87
    · replace hf := (if_pos q4).symm.trans hf
      refine g_iconst (pc := 26) C dX7_missed_26 ic_m1 ?_
      cases hf
      exact g_iret (pc := 27) C hr dX7_missed_27

set_option maxHeartbeats 4000000 in
set_option maxRecDepth 100000 in
theorem c_X7_note (l : Launch) (D : va_G) {cI cH cE cJ : ClassId} {a : Nat → Nat} (hw : ∀ σ, va_D (Pc a) (wc cI cH cE a σ)) {σ : Me} {x1 : Int32} {x2 : Int32} {r : Int32} (hf : f_X7_note σ x1 x2 = some r) : Mq l D (tyc cI cH cE cJ) (wc cI cH cE a) (Pc a) yX7_note cX7_note 4 (Option.some Jvm.ClassFile.FieldType.int) 3 [.ref (a 0), .int x1, .int x2] σ (qI D (wc cI cH cE a) (Pc a) σ r) := by
  refine mOf (plainFor_of_name (by decide)) hw (Nat.le_of_ble_eq_true rfl) [(0, .ref (a 0)), (1, .int x1), (2, .int x2)] rfl ?_
  intro p e s m args below meth c C hr
  unfold f_X7_note at hf
  refine g_aload_n (pc := 0) C dX7_note_0 0 rfl rfl ?_
  obtain ⟨q1, hf⟩ := gd_some hf
  refine g_get (pc := 1) C in_X7 wc_0 cl_X7 3 (by decide) tw_308 rfl dX7_note_1 ?_
  refine g_iload_n (pc := 4) C dX7_note_4 1 rfl rfl ?_
  obtain ⟨r2, h2, hf⟩ := bd_some hf
  refine g_cVe (pc := 5) C (st := []) jW.rf (c_X2_seriesAt l D hw (of_decide_eq_true q1) h2) y_X2_seriesAt tw_377 rfl ⟨by decide, by decide⟩ ⟨Nat.zero_le _, Nat.zero_le _⟩ (Nat.le_of_ble_eq_true rfl) (wc_9 (of_decide_eq_true q1)) cl_X2 rfl dX7_note_5 rfl ?_
  rcases r2 with _ | k902
  · replace hf := oc_n.symm.trans hf
    refine g_top (v1 := .null) rfl ?_
    refine g_astore_nN (pc := 8) C [(3, .null), (0, .ref (a 0)), (1, .int x1), (2, .int x2)] dX7_note_8 rfl (by decide) rfl ?_
    refine g_aload_nN (pc := 9) C dX7_note_9 0 rfl rfl ?_
    refine g_ifnullN (pc := 10) C 21 dX7_note_10 (by decide) ?_
    refine g_iconst (pc := 21) C dX7_note_21 ic_m1 ?_
    cases hf
    exact g_iret (pc := 22) C hr dX7_note_22
  · replace hf := oc_s.symm.trans hf
    obtain ⟨hk902, hf⟩ := gd_some hf
    replace hk902 := of_decide_eq_true hk902
    refine g_top (v1 := .ref (a k902)) rfl ?_
    refine g_astore_n (pc := 8) C [(3, .ref (a k902)), (0, .ref (a 0)), (1, .int x1), (2, .int x2)] dX7_note_8 rfl (by decide) rfl ?_
    refine g_aload_n (pc := 9) C dX7_note_9 0 rfl rfl ?_
    refine g_ifnull (pc := 10) C dX7_note_10 ?_
    refine g_aload_n (pc := 13) C dX7_note_13 0 rfl rfl ?_
    refine g_iload_n (pc := 14) C dX7_note_14 3 rfl rfl ?_
    obtain ⟨r3, h3, hf⟩ := bd_some hf
    refine g_cVi (pc := 15) C (st := []) jW.rf (c_X3_hasNumber l D hw hk902 h3) y_X3_hasNumber tw_378 rfl ⟨by decide, by decide⟩ ⟨Nat.zero_le _, Nat.zero_le _⟩ (Nat.le_of_ble_eq_true rfl) (wc_12 hk902) cl_X3 rfl dX7_note_15 rfl ?_
    refine g_if_ne (pc := 18) C 23 dX7_note_18 (by decide) (fun q4 => ?_) (fun q4 => ?_)
    · replace hf := (if_neg q4).symm.trans hf
      refine g_aload_n (pc := 23) C dX7_note_23 0 rfl rfl ?_
      refine g_iload_n (pc := 24) C dX7_note_24 3 rfl rfl ?_
      obtain ⟨r5, h5, hf⟩ := bd_some hf
      refine g_cVi (pc := 25) C (st := []) jW.rf (c_X3_isPrinted l D hw hk902 h5) y_X3_isPrinted tw_382 rfl ⟨by decide, by decide⟩ ⟨Nat.zero_le _, Nat.zero_le _⟩ (Nat.le_of_ble_eq_true rfl) (wc_12 hk902) cl_X3 rfl dX7_note_25 rfl ?_
      refine g_if_ne (pc := 28) C 33 dX7_note_28 (by decide) (fun q6 => ?_) (fun q6 => ?_)
      · replace hf := (if_neg q6).symm.trans hf
        refine g_aload_n (pc := 33) C dX7_note_33 1 rfl rfl ?_
        refine g_get (pc := 34) C in_X7 wc_0 cl_X7 1 (by decide) tw_306 rfl dX7_note_34 ?_
        refine g_iload_n (pc := 37) C dX7_note_37 2 rfl rfl ?_
        refine g_iload_n (pc := 38) C dX7_note_38 3 rfl rfl ?_
        obtain ⟨r7, h7, hf⟩ := bd_some hf
        refine g_cVi (pc := 39) C (st := []) jW.rf (c_X5_standsFor l D hw h7) y_X5_standsFor tw_399 rfl ⟨by decide, by decide⟩ ⟨Nat.zero_le _, Nat.zero_le _⟩ (Nat.le_of_ble_eq_true rfl) wc_3 cl_X5 rfl dX7_note_39 rfl ?_
        refine g_if_eq (pc := 42) C 49 dX7_note_42 (by decide) (fun q8 => ?_) (fun q8 => ?_)
        · replace hf := (if_pos q8).symm.trans hf
          refine g_iconst (pc := 49) C dX7_note_49 ic_1 ?_
          cases hf
          exact g_iret (pc := 50) C hr dX7_note_50
        · replace hf := (if_neg q8).symm.trans hf
          refine g_iconst (pc := 45) C dX7_note_45 ic_2 ?_
          refine g_goto (pc := 46) C 50 dX7_note_46 (by decide) ?_
          cases hf
          exact g_iret (pc := 50) C hr dX7_note_50
      · replace hf := (if_pos q6).symm.trans hf
        refine g_iconst (pc := 31) C dX7_note_31 ic_0 ?_
        cases hf
        exact g_iret (pc := 32) C hr dX7_note_32
    · replace hf := (if_pos q4).symm.trans hf
      refine g_iconst (pc := 21) C dX7_note_21 ic_m1 ?_
      cases hf
      exact g_iret (pc := 22) C hr dX7_note_22

set_option maxHeartbeats 4000000 in
set_option maxRecDepth 100000 in
theorem c_X7_star (l : Launch) (D : va_G) {cI cH cE cJ : ClassId} {a : Nat → Nat} (hw : ∀ σ, va_D (Pc a) (wc cI cH cE a σ)) {σ : Me} {x1 : Int32} {x2 : Int32} {r : Int32} (hf : f_X7_star σ x1 x2 = some r) : Mq l D (tyc cI cH cE cJ) (wc cI cH cE a) (Pc a) yX7_star cX7_star 3 (Option.some Jvm.ClassFile.FieldType.int) 6 [.ref (a 0), .int x1, .int x2] σ (qI D (wc cI cH cE a) (Pc a) σ r) := by
  refine mOf (plainFor_of_name (by decide)) hw (Nat.le_of_ble_eq_true rfl) [(0, .ref (a 0)), (1, .int x1), (2, .int x2)] rfl ?_
  intro p e s m args below meth c C hr
  unfold f_X7_star at hf
  refine g_iload_n (pc := 0) C dX7_star_0 1 rfl rfl ?_
  refine g_iconst (pc := 1) C dX7_star_1 ic_0 ?_
  refine g_aload_n (pc := 2) C dX7_star_2 0 rfl rfl ?_
  refine g_get (pc := 3) C in_X7 wc_0 cl_X7 1 (by decide) tw_306 rfl dX7_star_3 ?_
  refine g_getN (pc := 6) C in_X5 wc_3 cl_X5 2 (by decide) tn_3 rfl dX7_star_6 ?_
  refine g_iconst (pc := 9) C dX7_star_9 ic_1 ?_
  refine g_isub (pc := 10) C dX7_star_10 ?_
  obtain ⟨r1, h1, hf⟩ := bd_some hf
  refine g_cSi (pc := 11) C (st := []) jW.rf (c_X7_isFromTo l D hw h1) y_X7_isFromTo tw_326 rfl ⟨by decide, by decide⟩ ⟨Nat.zero_le _, Nat.zero_le _⟩ (Nat.le_of_ble_eq_true rfl) dX7_star_11 rfl ?_
  refine g_if_ne (pc := 14) C 19 dX7_star_14 (by decide) (fun q2 => ?_) (fun q2 => ?_)
  · replace hf := (if_neg q2).symm.trans hf
    refine g_iload_n (pc := 19) C dX7_star_19 2 rfl rfl ?_
    by_cases q3 : x2 = 0
    · replace hf := (if_pos q3).symm.trans hf
      refine g_tabIn (pc := 20) C (off := 28) 48 dX7_star_20 (by rw [q3]; decide) (by rw [q3]; decide) (by rw [q3]; rfl) (by decide) ?_
      refine g_aload_n (pc := 48) C dX7_star_48 0 rfl rfl ?_
      refine g_get (pc := 49) C in_X7 wc_0 cl_X7 1 (by decide) tw_306 rfl dX7_star_49 ?_
      refine g_iload_n (pc := 52) C dX7_star_52 1 rfl rfl ?_
      obtain ⟨r4, h4, hf⟩ := bd_some hf
      refine g_cVi (pc := 53) C (st := []) jW.rf (c_X5_seriesOf l D hw h4) y_X5_seriesOf tw_554 rfl ⟨by decide, by decide⟩ ⟨Nat.zero_le _, Nat.zero_le _⟩ (Nat.le_of_ble_eq_true rfl) wc_3 cl_X5 rfl dX7_star_53 rfl ?_
      cases hf
      exact g_iret (pc := 56) C hr dX7_star_56
    replace hf := (if_neg q3).symm.trans hf
    by_cases q5 : x2 = 1
    · replace hf := (if_pos q5).symm.trans hf
      refine g_tabIn (pc := 20) C (off := 37) 57 dX7_star_20 (by rw [q5]; decide) (by rw [q5]; decide) (by rw [q5]; rfl) (by decide) ?_
      refine g_aload_n (pc := 57) C dX7_star_57 0 rfl rfl ?_
      refine g_get (pc := 58) C in_X7 wc_0 cl_X7 1 (by decide) tw_306 rfl dX7_star_58 ?_
      refine g_iload_n (pc := 61) C dX7_star_61 1 rfl rfl ?_
      obtain ⟨r6, h6, hf⟩ := bd_some hf
      refine g_cVi (pc := 62) C (st := []) jW.rf (c_X5_numberOf l D hw h6) y_X5_numberOf tw_559 rfl ⟨by decide, by decide⟩ ⟨Nat.zero_le _, Nat.zero_le _⟩ (Nat.le_of_ble_eq_true rfl) wc_3 cl_X5 rfl dX7_star_62 rfl ?_
      cases hf
      exact g_iret (pc := 65) C hr dX7_star_65
    replace hf := (if_neg q5).symm.trans hf
    by_cases q7 : x2 = 2
    · replace hf := (if_pos q7).symm.trans hf
      refine g_tabIn (pc := 20) C (off := 46) 66 dX7_star_20 (by rw [q7]; decide) (by rw [q7]; decide) (by rw [q7]; rfl) (by decide) ?_
      refine g_iload_n (pc := 66) C dX7_star_66 1 rfl rfl ?_
      obtain ⟨r8, h8, hf⟩ := bd_some hf
      refine g_cSi (pc := 67) C (st := []) jW.rf (c_X1_ofStar l D hw h8) y_X1_ofStar tw_563 rfl ⟨by decide, by decide⟩ ⟨Nat.zero_le _, Nat.zero_le _⟩ (Nat.le_of_ble_eq_true rfl) dX7_star_67 rfl ?_
      cases hf
      exact g_iret (pc := 70) C hr dX7_star_70
    replace hf := (if_neg q7).symm.trans hf
    refine g_tabOut (pc := 20) C 71 dX7_star_20 (by have zq3 := lv_neT q3 (a := 0) rfl; have zq5 := lv_neT q5 (a := 1) rfl; have zq7 := lv_neT q7 (a := 2) rfl; omega) (by decide) ?_
    refine g_iconst (pc := 71) C dX7_star_71 ic_m1 ?_
    cases hf
    exact g_iret (pc := 72) C hr dX7_star_72
  · replace hf := (if_pos q2).symm.trans hf
    refine g_iconst (pc := 17) C dX7_star_17 ic_m1 ?_
    cases hf
    exact g_iret (pc := 18) C hr dX7_star_18

set_option maxHeartbeats 4000000 in
set_option maxRecDepth 100000 in
theorem c_X7_starOf (l : Launch) (D : va_G) {cI cH cE cJ : ClassId} {a : Nat → Nat} (hw : ∀ σ, va_D (Pc a) (wc cI cH cE a σ)) {σ : Me} {x1 : Int32} {x2 : Int32} {r : Int32} (hf : f_X7_starOf σ x1 x2 = some r) : Mq l D (tyc cI cH cE cJ) (wc cI cH cE a) (Pc a) yX7_starOf cX7_starOf 4 (Option.some Jvm.ClassFile.FieldType.int) 2 [.ref (a 0), .int x1, .int x2] σ (qI D (wc cI cH cE a) (Pc a) σ r) := by
  refine mOf (plainFor_of_name (by decide)) hw (Nat.le_of_ble_eq_true rfl) [(0, .ref (a 0)), (1, .int x1), (2, .int x2)] rfl ?_
  intro p e s m args below meth c C hr
  unfold f_X7_starOf at hf
  refine g_aload_n (pc := 0) C dX7_starOf_0 0 rfl rfl ?_
  obtain ⟨q1, hf⟩ := gd_some hf
  refine g_get (pc := 1) C in_X7 wc_0 cl_X7 3 (by decide) tw_308 rfl dX7_starOf_1 ?_
  refine g_iload_n (pc := 4) C dX7_starOf_4 1 rfl rfl ?_
  obtain ⟨r2, h2, hf⟩ := bd_some hf
  refine g_cVe (pc := 5) C (st := []) jW.rf (c_X2_seriesAt l D hw (of_decide_eq_true q1) h2) y_X2_seriesAt tw_377 rfl ⟨by decide, by decide⟩ ⟨Nat.zero_le _, Nat.zero_le _⟩ (Nat.le_of_ble_eq_true rfl) (wc_9 (of_decide_eq_true q1)) cl_X2 rfl dX7_starOf_5 rfl ?_
  rcases r2 with _ | k902
  · replace hf := oc_n.symm.trans hf
    refine g_top (v1 := .null) rfl ?_
    refine g_astore_nN (pc := 8) C [(3, .null), (0, .ref (a 0)), (1, .int x1), (2, .int x2)] dX7_starOf_8 rfl (by decide) rfl ?_
    refine g_aload_nN (pc := 9) C dX7_starOf_9 0 rfl rfl ?_
    refine g_ifnullN (pc := 10) C 21 dX7_starOf_10 (by decide) ?_
    refine g_iconst (pc := 21) C dX7_starOf_21 ic_m1 ?_
    cases hf
    exact g_iret (pc := 22) C hr dX7_starOf_22
  · replace hf := oc_s.symm.trans hf
    obtain ⟨hk902, hf⟩ := gd_some hf
    replace hk902 := of_decide_eq_true hk902
    refine g_top (v1 := .ref (a k902)) rfl ?_
    refine g_astore_n (pc := 8) C [(3, .ref (a k902)), (0, .ref (a 0)), (1, .int x1), (2, .int x2)] dX7_starOf_8 rfl (by decide) rfl ?_
    refine g_aload_n (pc := 9) C dX7_starOf_9 0 rfl rfl ?_
    refine g_ifnull (pc := 10) C dX7_starOf_10 ?_
    refine g_aload_n (pc := 13) C dX7_starOf_13 0 rfl rfl ?_
    refine g_iload_n (pc := 14) C dX7_starOf_14 3 rfl rfl ?_
    obtain ⟨r3, h3, hf⟩ := bd_some hf
    refine g_cVi (pc := 15) C (st := []) jW.rf (c_X3_hasNumber l D hw hk902 h3) y_X3_hasNumber tw_378 rfl ⟨by decide, by decide⟩ ⟨Nat.zero_le _, Nat.zero_le _⟩ (Nat.le_of_ble_eq_true rfl) (wc_12 hk902) cl_X3 rfl dX7_starOf_15 rfl ?_
    refine g_if_ne (pc := 18) C 23 dX7_starOf_18 (by decide) (fun q4 => ?_) (fun q4 => ?_)
    · replace hf := (if_neg q4).symm.trans hf
      refine g_aload_n (pc := 23) C dX7_starOf_23 1 rfl rfl ?_
      refine g_get (pc := 24) C in_X7 wc_0 cl_X7 1 (by decide) tw_306 rfl dX7_starOf_24 ?_
      refine g_iload_n (pc := 27) C dX7_starOf_27 2 rfl rfl ?_
      refine g_iload_n (pc := 28) C dX7_starOf_28 3 rfl rfl ?_
      obtain ⟨r5, h5, hf⟩ := bd_some hf
      refine g_cVi (pc := 29) C (st := []) jW.rf (c_X5_standingFor l D hw h5) y_X5_standingFor tw_571 rfl ⟨by decide, by decide⟩ ⟨Nat.zero_le _, Nat.zero_le _⟩ (Nat.le_of_ble_eq_true rfl) wc_3 cl_X5 rfl dX7_starOf_29 rfl ?_
      cases hf
      exact g_iret (pc := 32) C hr dX7_starOf_32
    · replace hf := (if_pos q4).symm.trans hf
      refine g_iconst (pc := 21) C dX7_starOf_21 ic_m1 ?_
      cases hf
      exact g_iret (pc := 22) C hr dX7_starOf_22

set_option maxHeartbeats 4000000 in
set_option maxRecDepth 100000 in
theorem c_X7_judgeNote (l : Launch) (D : va_G) {cI cH cE cJ : ClassId} {a : Nat → Nat} (hw : ∀ σ, va_D (Pc a) (wc cI cH cE a σ)) {σ : Me} {x1 : Int32} {x2 : Int32} {x3 : Int32} {r : Int32} (hf : f_X7_judgeNote σ x1 x2 x3 = some r) : Mq l D (tyc cI cH cE cJ) (wc cI cH cE a) (Pc a) yX7_judgeNote cX7_judgeNote 6 (Option.some Jvm.ClassFile.FieldType.int) 5 [.ref (a 0), .int x1, .int x2, .int x3] σ (qI D (wc cI cH cE a) (Pc a) σ r) := by
  refine mOf (plainFor_of_name (by decide)) hw (Nat.le_of_ble_eq_true rfl) [(0, .ref (a 0)), (1, .int x1), (2, .int x2), (3, .int x3)] rfl ?_
  intro p e s m args below meth c C hr
  unfold f_X7_judgeNote at hf
  refine g_aload_n (pc := 0) C dX7_judgeNote_0 0 rfl rfl ?_
  obtain ⟨q1, hf⟩ := gd_some hf
  refine g_get (pc := 1) C in_X7 wc_0 cl_X7 3 (by decide) tw_308 rfl dX7_judgeNote_1 ?_
  refine g_iload_n (pc := 4) C dX7_judgeNote_4 1 rfl rfl ?_
  obtain ⟨r2, h2, hf⟩ := bd_some hf
  refine g_cVi (pc := 5) C (st := []) jW.rf (c_X2_seriesOfLetter l D hw (of_decide_eq_true q1) h2) y_X2_seriesOfLetter tw_584 rfl ⟨by decide, by decide⟩ ⟨Nat.zero_le _, Nat.zero_le _⟩ (Nat.le_of_ble_eq_true rfl) (wc_9 (of_decide_eq_true q1)) cl_X2 rfl dX7_judgeNote_5 rfl ?_
  refine g_istore (pc := 8) C [(4, .int r2), (0, .ref (a 0)), (1, .int x1), (2, .int x2), (3, .int x3)] dX7_judgeNote_8 (by decide) rfl ?_
  refine g_aload_n (pc := 10) C dX7_judgeNote_10 1 rfl rfl ?_
  obtain ⟨q3, hf⟩ := gd_some hf
  refine g_get (pc := 11) C in_X7 wc_0 cl_X7 3 (by decide) tw_308 rfl dX7_judgeNote_11 ?_
  refine g_iload (pc := 14) C dX7_judgeNote_14 0 rfl ?_
  obtain ⟨r4, h4, hf⟩ := bd_some hf
  refine g_cVe (pc := 16) C (st := []) jW.rf (c_X2_seriesAt l D hw (of_decide_eq_true q3) h4) y_X2_seriesAt tw_377 rfl ⟨by decide, by decide⟩ ⟨Nat.zero_le _, Nat.zero_le _⟩ (Nat.le_of_ble_eq_true rfl) (wc_9 (of_decide_eq_true q3)) cl_X2 rfl dX7_judgeNote_16 rfl ?_
  rcases r4 with _ | k904
  · replace hf := oc_n.symm.trans hf
    refine g_top (v1 := .null) rfl ?_
    refine g_astoreN (pc := 19) C [(5, .null), (4, .int r2), (0, .ref (a 0)), (1, .int x1), (2, .int x2), (3, .int x3)] dX7_judgeNote_19 (by decide) rfl ?_
    refine g_aloadN (pc := 21) C dX7_judgeNote_21 0 rfl ?_
    refine g_ifnonnullN (pc := 23) C dX7_judgeNote_23 ?_
    refine g_iconst (pc := 26) C dX7_judgeNote_26 ic_1 ?_
    cases hf
    exact g_iret (pc := 27) C hr dX7_judgeNote_27
  · replace hf := oc_s.symm.trans hf
    obtain ⟨hk904, hf⟩ := gd_some hf
    replace hk904 := of_decide_eq_true hk904
    refine g_top (v1 := .ref (a k904)) rfl ?_
    refine g_astore (pc := 19) C [(5, .ref (a k904)), (4, .int r2), (0, .ref (a 0)), (1, .int x1), (2, .int x2), (3, .int x3)] dX7_judgeNote_19 (by decide) rfl ?_
    refine g_aload (pc := 21) C dX7_judgeNote_21 0 rfl ?_
    refine g_ifnonnull (pc := 23) C 28 dX7_judgeNote_23 (by decide) ?_
    refine g_aload (pc := 28) C dX7_judgeNote_28 0 rfl ?_
    refine g_iload_n (pc := 30) C dX7_judgeNote_30 4 rfl rfl ?_
    obtain ⟨r5, h5, hf⟩ := bd_some hf
    refine g_cVi (pc := 31) C (st := []) jW.rf (c_X3_hasNumber l D hw hk904 h5) y_X3_hasNumber tw_378 rfl ⟨by decide, by decide⟩ ⟨Nat.zero_le _, Nat.zero_le _⟩ (Nat.le_of_ble_eq_true rfl) (wc_12 hk904) cl_X3 rfl dX7_judgeNote_31 rfl ?_
    refine g_if_ne (pc := 34) C 39 dX7_judgeNote_34 (by decide) (fun q6 => ?_) (fun q6 => ?_)
    · replace hf := (if_neg q6).symm.trans hf
      refine g_iload_n (pc := 39) C dX7_judgeNote_39 5 rfl rfl ?_
      refine g_aload (pc := 40) C dX7_judgeNote_40 0 rfl ?_
      refine g_getN (pc := 42) C in_X3 (wc_12 hk904) cl_X3 3 (by decide) tn_16 rfl dX7_judgeNote_42 ?_
      refine g_aload (pc := 45) C dX7_judgeNote_45 0 rfl ?_
      refine g_getN (pc := 47) C in_X3 (wc_12 hk904) cl_X3 2 (by decide) tn_15 rfl dX7_judgeNote_47 ?_
      refine g_iload_n (pc := 50) C dX7_judgeNote_50 4 rfl rfl ?_
      obtain ⟨r7, h7, hf⟩ := bd_some hf
      refine g_cSi (pc := 51) C (st := [.int x3]) jW.rf (c_X1_ofNumber l D hw h7) y_X1_ofNumber tw_515 rfl ⟨by decide, by decide⟩ ⟨Nat.zero_le _, Nat.zero_le _⟩ (Nat.le_of_ble_eq_true rfl) dX7_judgeNote_51 rfl ?_
      refine g_icmp_eq (pc := 54) C 59 dX7_judgeNote_54 (by decide) (fun q8 => ?_) (fun q8 => ?_)
      · replace hf := (if_pos q8).symm.trans hf
        refine g_aload (pc := 59) C dX7_judgeNote_59 0 rfl ?_
        refine g_iload_n (pc := 61) C dX7_judgeNote_61 4 rfl rfl ?_
        obtain ⟨r9, h9, hf⟩ := bd_some hf
        refine g_cVi (pc := 62) C (st := []) jW.rf (c_X3_isPrinted l D hw hk904 h9) y_X3_isPrinted tw_382 rfl ⟨by decide, by decide⟩ ⟨Nat.zero_le _, Nat.zero_le _⟩ (Nat.le_of_ble_eq_true rfl) (wc_12 hk904) cl_X3 rfl dX7_judgeNote_62 rfl ?_
        refine g_if_ne (pc := 65) C 70 dX7_judgeNote_65 (by decide) (fun q10 => ?_) (fun q10 => ?_)
        · replace hf := (if_neg q10).symm.trans hf
          refine g_aload_n (pc := 70) C dX7_judgeNote_70 2 rfl rfl ?_
          refine g_get (pc := 71) C in_X7 wc_0 cl_X7 1 (by decide) tw_306 rfl dX7_judgeNote_71 ?_
          refine g_iload (pc := 74) C dX7_judgeNote_74 1 rfl ?_
          refine g_iload_n (pc := 76) C dX7_judgeNote_76 4 rfl rfl ?_
          obtain ⟨r11, h11, hf⟩ := bd_some hf
          refine g_cVi (pc := 77) C (st := []) jW.rf (c_X5_standsFor l D hw h11) y_X5_standsFor tw_399 rfl ⟨by decide, by decide⟩ ⟨Nat.zero_le _, Nat.zero_le _⟩ (Nat.le_of_ble_eq_true rfl) wc_3 cl_X5 rfl dX7_judgeNote_77 rfl ?_
          refine g_if_eq (pc := 80) C 87 dX7_judgeNote_80 (by decide) (fun q12 => ?_) (fun q12 => ?_)
          · replace hf := (if_pos q12).symm.trans hf
            refine g_iconst (pc := 87) C dX7_judgeNote_87 ic_0 ?_
            cases hf
            exact g_iret (pc := 88) C hr dX7_judgeNote_88
          · replace hf := (if_neg q12).symm.trans hf
            refine g_iconst (pc := 83) C dX7_judgeNote_83 ic_5 ?_
            refine g_goto (pc := 84) C 88 dX7_judgeNote_84 (by decide) ?_
            cases hf
            exact g_iret (pc := 88) C hr dX7_judgeNote_88
        · replace hf := (if_pos q10).symm.trans hf
          refine g_iconst (pc := 68) C dX7_judgeNote_68 ic_4 ?_
          cases hf
          exact g_iret (pc := 69) C hr dX7_judgeNote_69
      · replace hf := (if_neg q8).symm.trans hf
        refine g_iconst (pc := 57) C dX7_judgeNote_57 ic_3 ?_
        cases hf
        exact g_iret (pc := 58) C hr dX7_judgeNote_58
    · replace hf := (if_pos q6).symm.trans hf
      refine g_iconst (pc := 37) C dX7_judgeNote_37 ic_2 ?_
      cases hf
      exact g_iret (pc := 38) C hr dX7_judgeNote_38

set_option maxHeartbeats 4000000 in
set_option maxRecDepth 100000 in
theorem c_X7_judgeStar (l : Launch) (D : va_G) {cI cH cE cJ : ClassId} {a : Nat → Nat} (hw : ∀ σ, va_D (Pc a) (wc cI cH cE a σ)) {σ : Me} {x1 : Int32} {x2 : Int32} {r : Int32} (hf : f_X7_judgeStar σ x1 x2 = some r) : Mq l D (tyc cI cH cE cJ) (wc cI cH cE a) (Pc a) yX7_judgeStar cX7_judgeStar 3 (Option.some Jvm.ClassFile.FieldType.int) 6 [.ref (a 0), .int x1, .int x2] σ (qI D (wc cI cH cE a) (Pc a) σ r) := by
  refine mOf (plainFor_of_name (by decide)) hw (Nat.le_of_ble_eq_true rfl) [(0, .ref (a 0)), (1, .int x1), (2, .int x2)] rfl ?_
  intro p e s m args below meth c C hr
  unfold f_X7_judgeStar at hf
  refine g_iload_n (pc := 0) C dX7_judgeStar_0 1 rfl rfl ?_
  refine g_aload_n (pc := 1) C dX7_judgeStar_1 0 rfl rfl ?_
  refine g_get (pc := 2) C in_X7 wc_0 cl_X7 1 (by decide) tw_306 rfl dX7_judgeStar_2 ?_
  refine g_getN (pc := 5) C in_X5 wc_3 cl_X5 2 (by decide) tn_3 rfl dX7_judgeStar_5 ?_
  refine g_icmp_lt (pc := 8) C 13 dX7_judgeStar_8 (by decide) (fun q1 => ?_) (fun q1 => ?_)
  · replace hf := (if_pos q1).symm.trans hf
    refine g_iload_n (pc := 13) C dX7_judgeStar_13 2 rfl rfl ?_
    refine g_iload_n (pc := 14) C dX7_judgeStar_14 1 rfl rfl ?_
    obtain ⟨r2, h2, hf⟩ := bd_some hf
    refine g_cSi (pc := 15) C (st := [.int x2]) jW.rf (c_X1_ofStar l D hw h2) y_X1_ofStar tw_563 rfl ⟨by decide, by decide⟩ ⟨Nat.zero_le _, Nat.zero_le _⟩ (Nat.le_of_ble_eq_true rfl) dX7_judgeStar_15 rfl ?_
    refine g_icmp_eq (pc := 18) C 23 dX7_judgeStar_18 (by decide) (fun q3 => ?_) (fun q3 => ?_)
    · replace hf := (if_pos q3).symm.trans hf
      refine g_iload_n (pc := 23) C dX7_judgeStar_23 1 rfl rfl ?_
      refine g_aload_n (pc := 24) C dX7_judgeStar_24 0 rfl rfl ?_
      refine g_get (pc := 25) C in_X7 wc_0 cl_X7 1 (by decide) tw_306 rfl dX7_judgeStar_25 ?_
      refine g_getN (pc := 28) C in_X5 wc_3 cl_X5 3 (by decide) tn_4 rfl dX7_judgeStar_28 ?_
      refine g_icmp_lt (pc := 31) C 38 dX7_judgeStar_31 (by decide) (fun q4 => ?_) (fun q4 => ?_)
      · replace hf := (if_pos q4).symm.trans hf
        refine g_iconst (pc := 38) C dX7_judgeStar_38 ic_0 ?_
        cases hf
        exact g_iret (pc := 39) C hr dX7_judgeStar_39
      · replace hf := (if_neg q4).symm.trans hf
        refine g_iconst (pc := 34) C dX7_judgeStar_34 ic_4 ?_
        refine g_goto (pc := 35) C 39 dX7_judgeStar_35 (by decide) ?_
        cases hf
        exact g_iret (pc := 39) C hr dX7_judgeStar_39
    · replace hf := (if_neg q3).symm.trans hf
      refine g_iconst (pc := 21) C dX7_judgeStar_21 ic_3 ?_
      cases hf
      exact g_iret (pc := 22) C hr dX7_judgeStar_22
  · replace hf := (if_neg q1).symm.trans hf
    refine g_iconst (pc := 11) C dX7_judgeStar_11 ic_2 ?_
    cases hf
    exact g_iret (pc := 12) C hr dX7_judgeStar_12

set_option maxHeartbeats 4000000 in
set_option maxRecDepth 100000 in
theorem c_X7_judge (l : Launch) (D : va_G) {cI cH cE cJ : ClassId} {a : Nat → Nat} (hw : ∀ σ, va_D (Pc a) (wc cI cH cE a σ)) {σ : Me} {x1 : Int32} {x2 : Int32} {x3 : Int32} {r : Int32} (hf : f_X7_judge σ x1 x2 x3 = some r) : Mq l D (tyc cI cH cE cJ) (wc cI cH cE a) (Pc a) yX7_judge cX7_judge 4 (Option.some Jvm.ClassFile.FieldType.int) 7 [.ref (a 0), .int x1, .int x2, .int x3] σ (qI D (wc cI cH cE a) (Pc a) σ r) := by
  refine mOf (plainFor_of_name (by decide)) hw (Nat.le_of_ble_eq_true rfl) [(0, .ref (a 0)), (1, .int x1), (2, .int x2), (3, .int x3)] rfl ?_
  intro p e s m args below meth c C hr
  unfold f_X7_judge at hf
  refine g_iload_n (pc := 0) C dX7_judge_0 1 rfl rfl ?_
  refine g_iconst (pc := 1) C dX7_judge_1 ic_0 ?_
  refine g_bipush (pc := 2) C dX7_judge_2 bp_26 ?_
  obtain ⟨r1, h1, hf⟩ := bd_some hf
  refine g_cSi (pc := 4) C (st := []) jW.rf (c_X7_isFromTo l D hw h1) y_X7_isFromTo tw_326 rfl ⟨by decide, by decide⟩ ⟨Nat.zero_le _, Nat.zero_le _⟩ (Nat.le_of_ble_eq_true rfl) dX7_judge_4 rfl ?_
  refine g_if_eq (pc := 7) C 31 dX7_judge_7 (by decide) (fun q2 => ?_) (fun q2 => ?_)
  · replace hf := (if_pos q2).symm.trans hf
    refine g_iconst (pc := 31) C dX7_judge_31 ic_m1 ?_
    cases hf
    exact g_iret (pc := 32) C hr dX7_judge_32
  · replace hf := (if_neg q2).symm.trans hf
    refine g_iload_n (pc := 10) C dX7_judge_10 2 rfl rfl ?_
    refine g_iconst (pc := 11) C dX7_judge_11 ic_0 ?_
    refine g_sipush (pc := 12) C dX7_judge_12 sp_999 ?_
    obtain ⟨r3, h3, hf⟩ := bd_some hf
    refine g_cSi (pc := 15) C (st := []) jW.rf (c_X7_isFromTo l D hw h3) y_X7_isFromTo tw_326 rfl ⟨by decide, by decide⟩ ⟨Nat.zero_le _, Nat.zero_le _⟩ (Nat.le_of_ble_eq_true rfl) dX7_judge_15 rfl ?_
    refine g_if_eq (pc := 18) C 31 dX7_judge_18 (by decide) (fun q4 => ?_) (fun q4 => ?_)
    · replace hf := (if_pos q4).symm.trans hf
      refine g_iconst (pc := 31) C dX7_judge_31 ic_m1 ?_
      cases hf
      exact g_iret (pc := 32) C hr dX7_judge_32
    · replace hf := (if_neg q4).symm.trans hf
      refine g_iload_n (pc := 21) C dX7_judge_21 3 rfl rfl ?_
      refine g_iconst (pc := 22) C dX7_judge_22 ic_0 ?_
      refine g_bipush (pc := 23) C dX7_judge_23 bp_99 ?_
      obtain ⟨r5, h5, hf⟩ := bd_some hf
      refine g_cSi (pc := 25) C (st := []) jW.rf (c_X7_isFromTo l D hw h5) y_X7_isFromTo tw_326 rfl ⟨by decide, by decide⟩ ⟨Nat.zero_le _, Nat.zero_le _⟩ (Nat.le_of_ble_eq_true rfl) dX7_judge_25 rfl ?_
      refine g_if_ne (pc := 28) C 33 dX7_judge_28 (by decide) (fun q6 => ?_) (fun q6 => ?_)
      · replace hf := (if_neg q6).symm.trans hf
        refine g_iload_n (pc := 33) C dX7_judge_33 1 rfl rfl ?_
        refine g_if_ne (pc := 34) C 46 dX7_judge_34 (by decide) (fun q7 => ?_) (fun q7 => ?_)
        · replace hf := (if_neg q7).symm.trans hf
          refine g_aload_n (pc := 46) C dX7_judge_46 0 rfl rfl ?_
          refine g_iload_n (pc := 47) C dX7_judge_47 1 rfl rfl ?_
          refine g_iload_n (pc := 48) C dX7_judge_48 2 rfl rfl ?_
          refine g_iload_n (pc := 49) C dX7_judge_49 3 rfl rfl ?_
          obtain ⟨r8, h8, hf⟩ := bd_some hf
          refine g_cVi (pc := 50) C (st := []) jW.rf (c_X7_judgeNote l D hw h8) y_X7_judgeNote tw_580 rfl ⟨by decide, by decide⟩ ⟨Nat.zero_le _, Nat.zero_le _⟩ (Nat.le_of_ble_eq_true rfl) wc_0 cl_X7 rfl dX7_judge_50 rfl ?_
          cases hf
          exact g_iret (pc := 53) C hr dX7_judge_53
        · replace hf := (if_pos q7).symm.trans hf
          refine g_aload_n (pc := 37) C dX7_judge_37 0 rfl rfl ?_
          refine g_iload_n (pc := 38) C dX7_judge_38 2 rfl rfl ?_
          refine g_iload_n (pc := 39) C dX7_judge_39 3 rfl rfl ?_
          obtain ⟨r9, h9, hf⟩ := bd_some hf
          refine g_cVi (pc := 40) C (st := []) jW.rf (c_X7_judgeStar l D hw h9) y_X7_judgeStar tw_576 rfl ⟨by decide, by decide⟩ ⟨Nat.zero_le _, Nat.zero_le _⟩ (Nat.le_of_ble_eq_true rfl) wc_0 cl_X7 rfl dX7_judge_40 rfl ?_
          refine g_goto (pc := 43) C 53 dX7_judge_43 (by decide) ?_
          cases hf
          exact g_iret (pc := 53) C hr dX7_judge_53
      · replace hf := (if_pos q6).symm.trans hf
        refine g_iconst (pc := 31) C dX7_judge_31 ic_m1 ?_
        cases hf
        exact g_iret (pc := 32) C hr dX7_judge_32

set_option maxHeartbeats 4000000 in
set_option maxRecDepth 100000 in
theorem c_X7_pack (l : Launch) (D : va_G) {cI cH cE cJ : ClassId} {a : Nat → Nat} (hw : ∀ σ, va_D (Pc a) (wc cI cH cE a σ)) {σ : Me} {x1 : Int32} {x2 : Int32} {x3 : Int32} {r : Int32} (hf : f_X7_pack σ x1 x2 x3 = some r) : Mq l D (tyc cI cH cE cJ) (wc cI cH cE a) (Pc a) yX7_pack cX7_pack 7 (Option.some Jvm.ClassFile.FieldType.int) 4 [.ref (a 0), .int x1, .int x2, .int x3] σ (qI D (wc cI cH cE a) (Pc a) σ r) := by
  refine mOf (plainFor_of_name (by decide)) hw (Nat.le_of_ble_eq_true rfl) [(0, .ref (a 0)), (1, .int x1), (2, .int x2), (3, .int x3)] rfl ?_
  intro p e s m args below meth c C hr
  unfold f_X7_pack at hf
  refine g_aload_n (pc := 0) C dX7_pack_0 0 rfl rfl ?_
  obtain ⟨q1, hf⟩ := gd_some hf
  refine g_get (pc := 1) C in_X7 wc_0 cl_X7 3 (by decide) tw_308 rfl dX7_pack_1 ?_
  refine g_iload_n (pc := 4) C dX7_pack_4 1 rfl rfl ?_
  obtain ⟨r2, h2, hf⟩ := bd_some hf
  refine g_cVe (pc := 5) C (st := []) jW.rf (c_X2_seriesAt l D hw (of_decide_eq_true q1) h2) y_X2_seriesAt tw_377 rfl ⟨by decide, by decide⟩ ⟨Nat.zero_le _, Nat.zero_le _⟩ (Nat.le_of_ble_eq_true rfl) (wc_9 (of_decide_eq_true q1)) cl_X2 rfl dX7_pack_5 rfl ?_
  rcases r2 with _ | k902
  · replace hf := oc_n.symm.trans hf
    refine g_top (v1 := .null) rfl ?_
    refine g_astoreN (pc := 8) C [(4, .null), (0, .ref (a 0)), (1, .int x1), (2, .int x2), (3, .int x3)] dX7_pack_8 (by decide) rfl ?_
    refine g_aloadN (pc := 10) C dX7_pack_10 0 rfl ?_
    refine g_ifnullN (pc := 12) C 40 dX7_pack_12 (by decide) ?_
    refine g_iconst (pc := 40) C dX7_pack_40 ic_m1 ?_
    cases hf
    exact g_iret (pc := 41) C hr dX7_pack_41
  · replace hf := oc_s.symm.trans hf
    obtain ⟨hk902, hf⟩ := gd_some hf
    replace hk902 := of_decide_eq_true hk902
    refine g_top (v1 := .ref (a k902)) rfl ?_
    refine g_astore (pc := 8) C [(4, .ref (a k902)), (0, .ref (a 0)), (1, .int x1), (2, .int x2), (3, .int x3)] dX7_pack_8 (by decide) rfl ?_
    refine g_aload (pc := 10) C dX7_pack_10 0 rfl ?_
    refine g_ifnull (pc := 12) C dX7_pack_12 ?_
    refine g_iload_n (pc := 15) C dX7_pack_15 3 rfl rfl ?_
    refine g_iconst (pc := 16) C dX7_pack_16 ic_0 ?_
    refine g_aload (pc := 17) C dX7_pack_17 0 rfl ?_
    obtain ⟨r3, h3, hf⟩ := bd_some hf
    refine g_cVi (pc := 19) C (st := [.int 0, .int x2]) jW.rf (c_X3_packs l D hw hk902 h3) y_X3_packs tw_477 rfl ⟨by decide, by decide⟩ ⟨Nat.zero_le _, Nat.zero_le _⟩ (Nat.le_of_ble_eq_true rfl) (wc_12 hk902) cl_X3 rfl dX7_pack_19 rfl ?_
    refine g_iconst (pc := 22) C dX7_pack_22 ic_1 ?_
    refine g_isub (pc := 23) C dX7_pack_23 ?_
    obtain ⟨r4, h4, hf⟩ := bd_some hf
    refine g_cSi (pc := 24) C (st := []) jW.rf (c_X7_isFromTo l D hw h4) y_X7_isFromTo tw_326 rfl ⟨by decide, by decide⟩ ⟨Nat.zero_le _, Nat.zero_le _⟩ (Nat.le_of_ble_eq_true rfl) dX7_pack_24 rfl ?_
    refine g_if_eq (pc := 27) C 40 dX7_pack_27 (by decide) (fun q5 => ?_) (fun q5 => ?_)
    · replace hf := (if_pos q5).symm.trans hf
      refine g_iconst (pc := 40) C dX7_pack_40 ic_m1 ?_
      cases hf
      exact g_iret (pc := 41) C hr dX7_pack_41
    · replace hf := (if_neg q5).symm.trans hf
      refine g_iload_n (pc := 30) C dX7_pack_30 4 rfl rfl ?_
      refine g_iconst (pc := 31) C dX7_pack_31 ic_0 ?_
      refine g_bipush (pc := 32) C dX7_pack_32 bp_9 ?_
      obtain ⟨r6, h6, hf⟩ := bd_some hf
      refine g_cSi (pc := 34) C (st := []) jW.rf (c_X7_isFromTo l D hw h6) y_X7_isFromTo tw_326 rfl ⟨by decide, by decide⟩ ⟨Nat.zero_le _, Nat.zero_le _⟩ (Nat.le_of_ble_eq_true rfl) dX7_pack_34 rfl ?_
      refine g_if_ne (pc := 37) C 42 dX7_pack_37 (by decide) (fun q7 => ?_) (fun q7 => ?_)
      · replace hf := (if_neg q7).symm.trans hf
        refine g_aload (pc := 42) C dX7_pack_42 0 rfl ?_
        refine g_iload_n (pc := 44) C dX7_pack_44 3 rfl rfl ?_
        obtain ⟨r8, h8, hf⟩ := bd_some hf
        refine g_cVi (pc := 45) C (st := []) jW.rf (c_X3_isWhole l D hw hk902 h8) y_X3_isWhole tw_589 rfl ⟨by decide, by decide⟩ ⟨Nat.zero_le _, Nat.zero_le _⟩ (Nat.le_of_ble_eq_true rfl) (wc_12 hk902) cl_X3 rfl dX7_pack_45 rfl ?_
        refine g_if_ne (pc := 48) C 54 dX7_pack_48 (by decide) (fun q9 => ?_) (fun q9 => ?_)
        · replace hf := (if_neg q9).symm.trans hf
          refine g_bipush (pc := 54) C dX7_pack_54 bp_10 ?_
          refine g_iload_n (pc := 56) C dX7_pack_56 3 rfl rfl ?_
          refine g_imul (pc := 57) C dX7_pack_57 ?_
          refine g_iload_n (pc := 58) C dX7_pack_58 4 rfl rfl ?_
          refine g_iadd (pc := 59) C dX7_pack_59 ?_
          refine g_istore (pc := 60) C [(5, .int ((10 * x2) + x3)), (4, .ref (a k902)), (0, .ref (a 0)), (1, .int x1), (2, .int x2), (3, .int x3)] dX7_pack_60 (by decide) rfl ?_
          refine g_aload (pc := 62) C dX7_pack_62 1 rfl ?_
          refine g_iload (pc := 64) C dX7_pack_64 0 rfl ?_
          obtain ⟨r10, h10, hf⟩ := bd_some hf
          refine g_cVi (pc := 66) C (st := []) jW.rf (c_X3_hasNumber l D hw hk902 h10) y_X3_hasNumber tw_378 rfl ⟨by decide, by decide⟩ ⟨Nat.zero_le _, Nat.zero_le _⟩ (Nat.le_of_ble_eq_true rfl) (wc_12 hk902) cl_X3 rfl dX7_pack_66 rfl ?_
          refine g_if_ne (pc := 69) C 75 dX7_pack_69 (by decide) (fun q11 => ?_) (fun q11 => ?_)
          · replace hf := (if_neg q11).symm.trans hf
            refine g_aload_n (pc := 75) C dX7_pack_75 2 rfl rfl ?_
            refine g_get (pc := 76) C in_X7 wc_0 cl_X7 1 (by decide) tw_306 rfl dX7_pack_76 ?_
            refine g_iload_n (pc := 79) C dX7_pack_79 3 rfl rfl ?_
            refine g_iload (pc := 80) C dX7_pack_80 0 rfl ?_
            obtain ⟨r12, h12, hf⟩ := bd_some hf
            refine g_cVi (pc := 82) C (st := []) jW.rf (c_X5_standingFor l D hw h12) y_X5_standingFor tw_571 rfl ⟨by decide, by decide⟩ ⟨Nat.zero_le _, Nat.zero_le _⟩ (Nat.le_of_ble_eq_true rfl) wc_3 cl_X5 rfl dX7_pack_82 rfl ?_
            refine g_istore (pc := 85) C [(6, .int r12), (5, .int ((10 * x2) + x3)), (4, .ref (a k902)), (0, .ref (a 0)), (1, .int x1), (2, .int x2), (3, .int x3)] dX7_pack_85 (by decide) rfl ?_
            refine g_iload (pc := 87) C dX7_pack_87 0 rfl ?_
            refine g_bipush (pc := 89) C dX7_pack_89 bp_m4 ?_
            refine g_icmp_ne (pc := 91) C 99 dX7_pack_91 (by decide) (fun q13 => ?_) (fun q13 => ?_)
            · replace hf := (if_neg q13).symm.trans hf
              refine g_sipush (pc := 99) C dX7_pack_99 sp_1000 ?_
              refine g_iload (pc := 102) C dX7_pack_102 0 rfl ?_
              refine g_iadd (pc := 104) C dX7_pack_104 ?_
              cases hf
              exact g_iret (pc := 105) C hr dX7_pack_105
            · replace hf := (if_pos q13).symm.trans hf
              refine g_iload (pc := 94) C dX7_pack_94 1 rfl ?_
              refine g_goto (pc := 96) C 105 dX7_pack_96 (by decide) ?_
              cases hf
              exact g_iret (pc := 105) C hr dX7_pack_105
          · replace hf := (if_pos q11).symm.trans hf
            refine g_bipush (pc := 72) C dX7_pack_72 bp_m4 ?_
            cases hf
            exact g_iret (pc := 74) C hr dX7_pack_74
        · replace hf := (if_pos q9).symm.trans hf
          refine g_bipush (pc := 51) C dX7_pack_51 bp_m2 ?_
          cases hf
          exact g_iret (pc := 53) C hr dX7_pack_53
      · replace hf := (if_pos q7).symm.trans hf
        refine g_iconst (pc := 40) C dX7_pack_40 ic_m1 ?_
        cases hf
        exact g_iret (pc := 41) C hr dX7_pack_41

set_option maxHeartbeats 4000000 in
set_option maxRecDepth 100000 in
theorem c_X7_count (l : Launch) (D : va_G) {cI cH cE cJ : ClassId} {a : Nat → Nat} (hw : ∀ σ, va_D (Pc a) (wc cI cH cE a σ)) {σ : Me} {x1 : Int32} {r : Int32} (hf : f_X7_count σ x1 = some r) : Mq l D (tyc cI cH cE cJ) (wc cI cH cE a) (Pc a) yX7_count cX7_count 2 (Option.some Jvm.ClassFile.FieldType.int) 6 [.ref (a 0), .int x1] σ (qI D (wc cI cH cE a) (Pc a) σ r) := by
  refine mOf (plainFor_of_name (by decide)) hw (Nat.le_of_ble_eq_true rfl) [(0, .ref (a 0)), (1, .int x1)] rfl ?_
  intro p e s m args below meth c C hr
  unfold f_X7_count at hf
  refine g_iload_n (pc := 0) C dX7_count_0 1 rfl rfl ?_
  by_cases q1 : x1 = 0
  · replace hf := (if_pos q1).symm.trans hf
    refine g_tabIn (pc := 1) C (off := 55) 56 dX7_count_1 (by rw [q1]; decide) (by rw [q1]; decide) (by rw [q1]; rfl) (by decide) ?_
    refine g_aload_n (pc := 56) C dX7_count_56 0 rfl rfl ?_
    obtain ⟨q2, hf⟩ := gd_some hf
    refine g_get (pc := 57) C in_X7 wc_0 cl_X7 3 (by decide) tw_308 rfl dX7_count_57 ?_
    refine g_getN (pc := 60) C in_X2 (wc_9 (of_decide_eq_true q2)) cl_X2 2 (by decide) tn_21 rfl dX7_count_60 ?_
    cases hf
    exact g_iret (pc := 63) C hr dX7_count_63
  replace hf := (if_neg q1).symm.trans hf
  by_cases q3 : x1 = 1
  · replace hf := (if_pos q3).symm.trans hf
    refine g_tabIn (pc := 1) C (off := 63) 64 dX7_count_1 (by rw [q3]; decide) (by rw [q3]; decide) (by rw [q3]; rfl) (by decide) ?_
    refine g_aload_n (pc := 64) C dX7_count_64 0 rfl rfl ?_
    obtain ⟨q4, hf⟩ := gd_some hf
    refine g_get (pc := 65) C in_X7 wc_0 cl_X7 3 (by decide) tw_308 rfl dX7_count_65 ?_
    refine g_getN (pc := 68) C in_X2 (wc_9 (of_decide_eq_true q4)) cl_X2 3 (by decide) tn_22 rfl dX7_count_68 ?_
    cases hf
    exact g_iret (pc := 71) C hr dX7_count_71
  replace hf := (if_neg q3).symm.trans hf
  by_cases q5 : x1 = 2
  · replace hf := (if_pos q5).symm.trans hf
    refine g_tabIn (pc := 1) C (off := 71) 72 dX7_count_1 (by rw [q5]; decide) (by rw [q5]; decide) (by rw [q5]; rfl) (by decide) ?_
    refine g_aload_n (pc := 72) C dX7_count_72 0 rfl rfl ?_
    refine g_get (pc := 73) C in_X7 wc_0 cl_X7 1 (by decide) tw_306 rfl dX7_count_73 ?_
    refine g_getN (pc := 76) C in_X5 wc_3 cl_X5 2 (by decide) tn_3 rfl dX7_count_76 ?_
    cases hf
    exact g_iret (pc := 79) C hr dX7_count_79
  replace hf := (if_neg q5).symm.trans hf
  by_cases q6 : x1 = 3
  · replace hf := (if_pos q6).symm.trans hf
    refine g_tabIn (pc := 1) C (off := 79) 80 dX7_count_1 (by rw [q6]; decide) (by rw [q6]; decide) (by rw [q6]; rfl) (by decide) ?_
    refine g_aload_n (pc := 80) C dX7_count_80 0 rfl rfl ?_
    refine g_get (pc := 81) C in_X7 wc_0 cl_X7 1 (by decide) tw_306 rfl dX7_count_81 ?_
    refine g_getN (pc := 84) C in_X5 wc_3 cl_X5 3 (by decide) tn_4 rfl dX7_count_84 ?_
    cases hf
    exact g_iret (pc := 87) C hr dX7_count_87
  replace hf := (if_neg q6).symm.trans hf
  by_cases q7 : x1 = 4
  · replace hf := (if_pos q7).symm.trans hf
    refine g_tabIn (pc := 1) C (off := 87) 88 dX7_count_1 (by rw [q7]; decide) (by rw [q7]; decide) (by rw [q7]; rfl) (by decide) ?_
    refine g_aload_n (pc := 88) C dX7_count_88 0 rfl rfl ?_
    obtain ⟨q8, hf⟩ := gd_some hf
    refine g_get (pc := 89) C in_X7 wc_0 cl_X7 3 (by decide) tw_308 rfl dX7_count_89 ?_
    obtain ⟨r9, h9, hf⟩ := bd_some hf
    refine g_cVi (pc := 92) C (st := []) jW.rf (c_X2_notesPrinted l D hw (of_decide_eq_true q8) h9) y_X2_notesPrinted tw_594 rfl ⟨by decide, by decide⟩ ⟨Nat.zero_le _, Nat.zero_le _⟩ (Nat.le_of_ble_eq_true rfl) (wc_9 (of_decide_eq_true q8)) cl_X2 rfl dX7_count_92 rfl ?_
    cases hf
    exact g_iret (pc := 95) C hr dX7_count_95
  replace hf := (if_neg q7).symm.trans hf
  by_cases q10 : x1 = 5
  · replace hf := (if_pos q10).symm.trans hf
    refine g_tabIn (pc := 1) C (off := 95) 96 dX7_count_1 (by rw [q10]; decide) (by rw [q10]; decide) (by rw [q10]; rfl) (by decide) ?_
    refine g_aload_n (pc := 96) C dX7_count_96 0 rfl rfl ?_
    refine g_get (pc := 97) C in_X7 wc_0 cl_X7 1 (by decide) tw_306 rfl dX7_count_97 ?_
    refine g_getN (pc := 100) C in_X5 wc_3 cl_X5 3 (by decide) tn_4 rfl dX7_count_100 ?_
    cases hf
    exact g_iret (pc := 103) C hr dX7_count_103
  replace hf := (if_neg q10).symm.trans hf
  by_cases q11 : x1 = 6
  · replace hf := (if_pos q11).symm.trans hf
    refine g_tabIn (pc := 1) C (off := 103) 104 dX7_count_1 (by rw [q11]; decide) (by rw [q11]; decide) (by rw [q11]; rfl) (by decide) ?_
    refine g_aload_n (pc := 104) C dX7_count_104 0 rfl rfl ?_
    obtain ⟨q12, hf⟩ := gd_some hf
    refine g_get (pc := 105) C in_X7 wc_0 cl_X7 3 (by decide) tw_308 rfl dX7_count_105 ?_
    obtain ⟨r13, h13, hf⟩ := bd_some hf
    refine g_cVi (pc := 108) C (st := []) jW.rf (c_X2_sheetsRun l D hw (of_decide_eq_true q12) h13) y_X2_sheetsRun tw_599 rfl ⟨by decide, by decide⟩ ⟨Nat.zero_le _, Nat.zero_le _⟩ (Nat.le_of_ble_eq_true rfl) (wc_9 (of_decide_eq_true q12)) cl_X2 rfl dX7_count_108 rfl ?_
    cases hf
    exact g_iret (pc := 111) C hr dX7_count_111
  replace hf := (if_neg q11).symm.trans hf
  by_cases q14 : x1 = 7
  · replace hf := (if_pos q14).symm.trans hf
    refine g_tabIn (pc := 1) C (off := 111) 112 dX7_count_1 (by rw [q14]; decide) (by rw [q14]; decide) (by rw [q14]; rfl) (by decide) ?_
    refine g_aload_n (pc := 112) C dX7_count_112 0 rfl rfl ?_
    obtain ⟨q15, hf⟩ := gd_some hf
    refine g_get (pc := 113) C in_X7 wc_0 cl_X7 3 (by decide) tw_308 rfl dX7_count_113 ?_
    obtain ⟨r16, h16, hf⟩ := bd_some hf
    refine g_cVi (pc := 116) C (st := []) jW.rf (c_X2_wholePacks l D hw (of_decide_eq_true q15) h16) y_X2_wholePacks tw_607 rfl ⟨by decide, by decide⟩ ⟨Nat.zero_le _, Nat.zero_le _⟩ (Nat.le_of_ble_eq_true rfl) (wc_9 (of_decide_eq_true q15)) cl_X2 rfl dX7_count_116 rfl ?_
    cases hf
    exact g_iret (pc := 119) C hr dX7_count_119
  replace hf := (if_neg q14).symm.trans hf
  by_cases q17 : x1 = 8
  · replace hf := (if_pos q17).symm.trans hf
    refine g_tabIn (pc := 1) C (off := 119) 120 dX7_count_1 (by rw [q17]; decide) (by rw [q17]; decide) (by rw [q17]; rfl) (by decide) ?_
    refine g_aload_n (pc := 120) C dX7_count_120 0 rfl rfl ?_
    refine g_get (pc := 121) C in_X7 wc_0 cl_X7 2 (by decide) tw_307 rfl dX7_count_121 ?_
    refine g_getN (pc := 124) C in_X0 wc_6 cl_X0 2 (by decide) tn_6 rfl dX7_count_124 ?_
    cases hf
    exact g_iret (pc := 127) C hr dX7_count_127
  replace hf := (if_neg q17).symm.trans hf
  by_cases q18 : x1 = 9
  · replace hf := (if_pos q18).symm.trans hf
    refine g_tabIn (pc := 1) C (off := 127) 128 dX7_count_1 (by rw [q18]; decide) (by rw [q18]; decide) (by rw [q18]; rfl) (by decide) ?_
    refine g_aload_n (pc := 128) C dX7_count_128 0 rfl rfl ?_
    refine g_get (pc := 129) C in_X7 wc_0 cl_X7 0 (by decide) tw_305 rfl dX7_count_129 ?_
    refine g_getN (pc := 132) C in_X6 wc_1 cl_X6 1 (by decide) tn_1 rfl dX7_count_132 ?_
    cases hf
    exact g_iret (pc := 135) C hr dX7_count_135
  replace hf := (if_neg q18).symm.trans hf
  refine g_tabOut (pc := 1) C 136 dX7_count_1 (by have zq1 := lv_neT q1 (a := 0) rfl; have zq3 := lv_neT q3 (a := 1) rfl; have zq5 := lv_neT q5 (a := 2) rfl; have zq6 := lv_neT q6 (a := 3) rfl; have zq7 := lv_neT q7 (a := 4) rfl; have zq10 := lv_neT q10 (a := 5) rfl; have zq11 := lv_neT q11 (a := 6) rfl; have zq14 := lv_neT q14 (a := 7) rfl; have zq17 := lv_neT q17 (a := 8) rfl; have zq18 := lv_neT q18 (a := 9) rfl; omega) (by decide) ?_
  refine g_iconst (pc := 136) C dX7_count_136 ic_m1 ?_
  cases hf
  exact g_iret (pc := 137) C hr dX7_count_137
