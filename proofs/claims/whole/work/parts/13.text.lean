set_option maxHeartbeats 4000000 in
set_option maxRecDepth 100000 in
theorem c_X6_append (l : Launch) (D : va_G) {cI cH cE cJ : ClassId} {a : Nat → Nat} (hw : ∀ σ, va_D (Pc a) (wc cI cH cE a σ)) {σ : Me} {x1 : Int32} {σ' : Me} {r : Bool} (hf : f_X6_append σ x1 = some (σ', r)) : Mq l D (tyc cI cH cE cJ) (wc cI cH cE a) (Pc a) yX6_append cX6_append 2 (Option.some Jvm.ClassFile.FieldType.boolean) 0 [.ref (a 1), .int x1] σ (qI D (wc cI cH cE a) (Pc a) σ' (bI r)) := by
  refine mOf (plainFor_of_name (by decide)) hw (Nat.le_of_ble_eq_true rfl) [(0, .ref (a 1)), (1, .int x1)] rfl ?_
  intro p e s m args below meth c C hr
  unfold f_X6_append at hf
  refine g_aload_n (pc := 0) C dX6_append_0 0 rfl rfl ?_
  refine g_get (pc := 1) C in_X6 wc_1 cl_X6 1 (by decide) tw_30 rfl dX6_append_1 ?_
  refine g_sipush (pc := 4) C dX6_append_4 sp_200 ?_
  refine g_icmp_lt (pc := 7) C 12 dX6_append_7 (by decide) (fun q1 => ?_) (fun q1 => ?_)
  · replace hf := (if_pos q1).symm.trans hf
    refine g_aload_n (pc := 12) C dX6_append_12 0 rfl rfl ?_
    refine g_get (pc := 13) C in_X6 wc_1 cl_X6 0 (by decide) tw_29 rfl dX6_append_13 ?_
    refine g_aload_n (pc := 16) C dX6_append_16 0 rfl rfl ?_
    refine g_get (pc := 17) C in_X6 wc_1 cl_X6 1 (by decide) tw_30 rfl dX6_append_17 ?_
    refine g_iload_n (pc := 20) C dX6_append_20 1 rfl rfl ?_
    obtain ⟨q2, hf⟩ := gd_some hf
    refine g_iast (pc := 21) C 0 wc_2 rfl q2 rfl wa_2 dX6_append_21 ?_
    refine g_aload_n (pc := 22) C dX6_append_22 0 rfl rfl ?_
    refine g_dup (pc := 23) C dX6_append_23 rfl ?_
    refine g_get (pc := 24) C in_X6 wc_1 cl_X6 1 (by decide) tw_30 rfl dX6_append_24 ?_
    refine g_iconst (pc := 27) C dX6_append_27 ic_1 ?_
    refine g_iadd (pc := 28) C dX6_append_28 ?_
    refine g_put (pc := 29) C in_X6 tyX6 tyX6_ok nmX6 wc_1 cl_X6 1 (by decide) tw_30 rfl rfl rfl (Nat.le_of_ble_eq_true rfl) wp_1_1 dX6_append_29 ?_
    refine g_iconst (pc := 32) C dX6_append_32 ic_1 ?_
    cases hf
    exact g_zret (pc := 33) (b := true) C hr dX6_append_33
  · replace hf := (if_neg q1).symm.trans hf
    refine g_iconst (pc := 10) C dX6_append_10 ic_0 ?_
    cases hf
    exact g_zret (pc := 11) (b := false) C hr dX6_append_11

set_option maxHeartbeats 4000000 in
set_option maxRecDepth 100000 in
theorem c_X6_clear (l : Launch) (D : va_G) {cI cH cE cJ : ClassId} {a : Nat → Nat} (hw : ∀ σ, va_D (Pc a) (wc cI cH cE a σ)) {σ : Me} {σ' : Me}  (hf : f_X6_clear σ = some σ') : Mq l D (tyc cI cH cE cJ) (wc cI cH cE a) (Pc a) yX6_clear cX6_clear 1 (Option.none : Option Jvm.ClassFile.FieldType) 0 [.ref (a 1)] σ (qV D (wc cI cH cE a) (Pc a) σ') := by
  refine mOf (plainFor_of_name (by decide)) hw (Nat.le_of_ble_eq_true rfl) [(0, .ref (a 1))] rfl ?_
  intro p e s m args below meth c C hr
  unfold f_X6_clear at hf
  refine g_aload_n (pc := 0) C dX6_clear_0 0 rfl rfl ?_
  refine g_iconst (pc := 1) C dX6_clear_1 ic_0 ?_
  refine g_put (pc := 2) C in_X6 tyX6 tyX6_ok nmX6 wc_1 cl_X6 1 (by decide) tw_30 rfl rfl rfl (Nat.le_of_ble_eq_true rfl) wp_1_1 dX6_clear_2 ?_
  cases hf
  exact g_vret (pc := 5) C hr dX6_clear_5

set_option maxHeartbeats 4000000 in
set_option maxRecDepth 100000 in
theorem c_X6_readFigure (l : Launch) (D : va_G) {cI cH cE cJ : ClassId} {a : Nat → Nat} (hw : ∀ σ, va_D (Pc a) (wc cI cH cE a σ)) {σ : Me} {σ' : Me} {r : Int32} (hf : f_X6_readFigure σ = some (σ', r)) : Mq l D (tyc cI cH cE cJ) (wc cI cH cE a) (Pc a) yX6_readFigure cX6_readFigure 1 (Option.some Jvm.ClassFile.FieldType.int) 0 [.ref (a 1)] σ (qI D (wc cI cH cE a) (Pc a) σ' r) := by
  refine mOf (plainFor_of_name (by decide)) hw (Nat.le_of_ble_eq_true rfl) [(0, .ref (a 1))] rfl ?_
  intro p e s m args below meth c C hr
  unfold f_X6_readFigure at hf
  refine g_aload_n (pc := 0) C dX6_readFigure_0 0 rfl rfl ?_
  refine g_get (pc := 1) C in_X6 wc_1 cl_X6 2 (by decide) tw_32 rfl dX6_readFigure_1 ?_
  refine g_aload_n (pc := 4) C dX6_readFigure_4 0 rfl rfl ?_
  refine g_get (pc := 5) C in_X6 wc_1 cl_X6 1 (by decide) tw_30 rfl dX6_readFigure_5 ?_
  refine g_icmp_ge (pc := 8) C 39 dX6_readFigure_8 (by decide) (fun q1 => ?_) (fun q1 => ?_)
  · replace hf := (if_pos q1).symm.trans hf
    refine g_bipush (pc := 39) C dX6_readFigure_39 bp_m4 ?_
    cases hf
    exact g_iret (pc := 41) C hr dX6_readFigure_41
  · replace hf := (if_neg q1).symm.trans hf
    refine g_aload_n (pc := 11) C dX6_readFigure_11 0 rfl rfl ?_
    refine g_get (pc := 12) C in_X6 wc_1 cl_X6 0 (by decide) tw_29 rfl dX6_readFigure_12 ?_
    refine g_aload_n (pc := 15) C dX6_readFigure_15 0 rfl rfl ?_
    refine g_get (pc := 16) C in_X6 wc_1 cl_X6 2 (by decide) tw_32 rfl dX6_readFigure_16 ?_
    obtain ⟨q2, hf⟩ := gd_some hf
    refine g_iald (pc := 19) C 0 wc_2 rfl q2 rfl dX6_readFigure_19 ?_
    refine g_bipush (pc := 20) C dX6_readFigure_20 bp_48 ?_
    refine g_icmp_lt (pc := 22) C 39 dX6_readFigure_22 (by decide) (fun q3 => ?_) (fun q3 => ?_)
    · replace hf := (if_pos q3).symm.trans hf
      refine g_bipush (pc := 39) C dX6_readFigure_39 bp_m4 ?_
      cases hf
      exact g_iret (pc := 41) C hr dX6_readFigure_41
    · replace hf := (if_neg q3).symm.trans hf
      refine g_aload_n (pc := 25) C dX6_readFigure_25 0 rfl rfl ?_
      refine g_get (pc := 26) C in_X6 wc_1 cl_X6 0 (by decide) tw_29 rfl dX6_readFigure_26 ?_
      refine g_aload_n (pc := 29) C dX6_readFigure_29 0 rfl rfl ?_
      refine g_get (pc := 30) C in_X6 wc_1 cl_X6 2 (by decide) tw_32 rfl dX6_readFigure_30 ?_
      obtain ⟨q4, hf⟩ := gd_some hf
      refine g_iald (pc := 33) C 0 wc_2 rfl q4 rfl dX6_readFigure_33 ?_
      refine g_bipush (pc := 34) C dX6_readFigure_34 bp_57 ?_
      refine g_icmp_le (pc := 36) C 42 dX6_readFigure_36 (by decide) (fun q5 => ?_) (fun q5 => ?_)
      · replace hf := (if_pos q5).symm.trans hf
        refine g_aload_n (pc := 42) C dX6_readFigure_42 0 rfl rfl ?_
        refine g_dup (pc := 43) C dX6_readFigure_43 rfl ?_
        refine g_get (pc := 44) C in_X6 wc_1 cl_X6 2 (by decide) tw_32 rfl dX6_readFigure_44 ?_
        refine g_iconst (pc := 47) C dX6_readFigure_47 ic_1 ?_
        refine g_iadd (pc := 48) C dX6_readFigure_48 ?_
        refine g_put (pc := 49) C in_X6 tyX6 tyX6_ok nmX6 wc_1 cl_X6 2 (by decide) tw_32 rfl rfl rfl (Nat.le_of_ble_eq_true rfl) wp_1_2 dX6_readFigure_49 ?_
        refine g_aload_n (pc := 52) C dX6_readFigure_52 0 rfl rfl ?_
        refine g_get (pc := 53) C in_X6 wc_1 cl_X6 0 (by decide) tw_29 rfl dX6_readFigure_53 ?_
        refine g_aload_n (pc := 56) C dX6_readFigure_56 0 rfl rfl ?_
        refine g_get (pc := 57) C in_X6 wc_1 cl_X6 2 (by decide) tw_32 rfl dX6_readFigure_57 ?_
        refine g_iconst (pc := 60) C dX6_readFigure_60 ic_1 ?_
        refine g_isub (pc := 61) C dX6_readFigure_61 ?_
        obtain ⟨q6, hf⟩ := gd_some hf
        refine g_iald (pc := 62) C 0 wc_2 rfl q6 rfl dX6_readFigure_62 ?_
        refine g_bipush (pc := 63) C dX6_readFigure_63 bp_48 ?_
        refine g_isub (pc := 65) C dX6_readFigure_65 ?_
        cases hf
        exact g_iret (pc := 66) C hr dX6_readFigure_66
      · replace hf := (if_neg q5).symm.trans hf
        refine g_bipush (pc := 39) C dX6_readFigure_39 bp_m4 ?_
        cases hf
        exact g_iret (pc := 41) C hr dX6_readFigure_41

set_option maxHeartbeats 4000000 in
set_option maxRecDepth 100000 in
theorem c_X6_readNumber (l : Launch) (D : va_G) {cI cH cE cJ : ClassId} {a : Nat → Nat} (hw : ∀ σ, va_D (Pc a) (wc cI cH cE a σ)) {σ : Me} {σ' : Me} {r : Int32} (hf : f_X6_readNumber σ = some (σ', r)) : Mq l D (tyc cI cH cE cJ) (wc cI cH cE a) (Pc a) yX6_readNumber cX6_readNumber 3 (Option.some Jvm.ClassFile.FieldType.int) 1 [.ref (a 1)] σ (qI D (wc cI cH cE a) (Pc a) σ' r) := by
  refine mOf (plainFor_of_name (by decide)) hw (Nat.le_of_ble_eq_true rfl) [(0, .ref (a 1))] rfl ?_
  intro p e s m args below meth c C hr
  unfold f_X6_readNumber at hf
  refine g_aload_n (pc := 0) C dX6_readNumber_0 0 rfl rfl ?_
  obtain ⟨s1, r1, h1, hf⟩ := bd2_some hf
  refine g_cVi (pc := 1) C (st := []) jW.rf (c_X6_readFigure l D hw h1) y_X6_readFigure tw_243 rfl ⟨by decide, by decide⟩ ⟨Nat.zero_le _, Nat.zero_le _⟩ (Nat.le_of_ble_eq_true rfl) wc_1 cl_X6 rfl dX6_readNumber_1 rfl ?_
  refine g_istore_n (pc := 4) C [(1, .int r1), (0, .ref (a 1))] dX6_readNumber_4 rfl (by decide) rfl ?_
  refine g_iload_n (pc := 5) C dX6_readNumber_5 0 rfl rfl ?_
  refine g_bipush (pc := 6) C dX6_readNumber_6 bp_m4 ?_
  refine g_icmp_ne (pc := 8) C 14 dX6_readNumber_8 (by decide) (fun q2 => ?_) (fun q2 => ?_)
  · replace hf := (if_neg q2).symm.trans hf
    refine g_aload_n (pc := 14) C dX6_readNumber_14 1 rfl rfl ?_
    obtain ⟨s3, r3, h3, hf⟩ := bd2_some hf
    refine g_cVi (pc := 15) C (st := []) jW.rf (c_X6_readFigure l D hw h3) y_X6_readFigure tw_243 rfl ⟨by decide, by decide⟩ ⟨Nat.zero_le _, Nat.zero_le _⟩ (Nat.le_of_ble_eq_true rfl) wc_1 cl_X6 rfl dX6_readNumber_15 rfl ?_
    refine g_istore_n (pc := 18) C [(2, .int r3), (1, .int r1), (0, .ref (a 1))] dX6_readNumber_18 rfl (by decide) rfl ?_
    refine g_iload_n (pc := 19) C dX6_readNumber_19 0 rfl rfl ?_
    refine g_bipush (pc := 20) C dX6_readNumber_20 bp_m4 ?_
    refine g_icmp_ne (pc := 22) C 29 dX6_readNumber_22 (by decide) (fun q4 => ?_) (fun q4 => ?_)
    · replace hf := (if_neg q4).symm.trans hf
      refine g_bipush (pc := 29) C dX6_readNumber_29 bp_10 ?_
      refine g_iload_n (pc := 31) C dX6_readNumber_31 1 rfl rfl ?_
      refine g_imul (pc := 32) C dX6_readNumber_32 ?_
      refine g_iload_n (pc := 33) C dX6_readNumber_33 0 rfl rfl ?_
      refine g_iadd (pc := 34) C dX6_readNumber_34 ?_
      cases hf
      exact g_iret (pc := 35) C hr dX6_readNumber_35
    · replace hf := (if_pos q4).symm.trans hf
      refine g_iload_n (pc := 25) C dX6_readNumber_25 1 rfl rfl ?_
      refine g_goto (pc := 26) C 35 dX6_readNumber_26 (by decide) ?_
      cases hf
      exact g_iret (pc := 35) C hr dX6_readNumber_35
  · replace hf := (if_pos q2).symm.trans hf
    refine g_bipush (pc := 11) C dX6_readNumber_11 bp_m4 ?_
    cases hf
    exact g_iret (pc := 13) C hr dX6_readNumber_13

set_option maxHeartbeats 4000000 in
set_option maxRecDepth 100000 in
theorem c_X6_skip (l : Launch) (D : va_G) {cI cH cE cJ : ClassId} {a : Nat → Nat} (hw : ∀ σ, va_D (Pc a) (wc cI cH cE a σ)) {σ : Me} {x1 : Int32} {σ' : Me} {r : Bool} (hf : f_X6_skip σ x1 = some (σ', r)) : Mq l D (tyc cI cH cE cJ) (wc cI cH cE a) (Pc a) yX6_skip cX6_skip 2 (Option.some Jvm.ClassFile.FieldType.boolean) 0 [.ref (a 1), .int x1] σ (qI D (wc cI cH cE a) (Pc a) σ' (bI r)) := by
  refine mOf (plainFor_of_name (by decide)) hw (Nat.le_of_ble_eq_true rfl) [(0, .ref (a 1)), (1, .int x1)] rfl ?_
  intro p e s m args below meth c C hr
  unfold f_X6_skip at hf
  refine g_aload_n (pc := 0) C dX6_skip_0 0 rfl rfl ?_
  refine g_get (pc := 1) C in_X6 wc_1 cl_X6 2 (by decide) tw_32 rfl dX6_skip_1 ?_
  refine g_aload_n (pc := 4) C dX6_skip_4 0 rfl rfl ?_
  refine g_get (pc := 5) C in_X6 wc_1 cl_X6 1 (by decide) tw_30 rfl dX6_skip_5 ?_
  refine g_icmp_ge (pc := 8) C 24 dX6_skip_8 (by decide) (fun q1 => ?_) (fun q1 => ?_)
  · replace hf := (if_pos q1).symm.trans hf
    refine g_iconst (pc := 24) C dX6_skip_24 ic_0 ?_
    cases hf
    exact g_zret (pc := 25) (b := false) C hr dX6_skip_25
  · replace hf := (if_neg q1).symm.trans hf
    refine g_aload_n (pc := 11) C dX6_skip_11 0 rfl rfl ?_
    refine g_get (pc := 12) C in_X6 wc_1 cl_X6 0 (by decide) tw_29 rfl dX6_skip_12 ?_
    refine g_aload_n (pc := 15) C dX6_skip_15 0 rfl rfl ?_
    refine g_get (pc := 16) C in_X6 wc_1 cl_X6 2 (by decide) tw_32 rfl dX6_skip_16 ?_
    obtain ⟨q2, hf⟩ := gd_some hf
    refine g_iald (pc := 19) C 0 wc_2 rfl q2 rfl dX6_skip_19 ?_
    refine g_iload_n (pc := 20) C dX6_skip_20 1 rfl rfl ?_
    refine g_icmp_eq (pc := 21) C 26 dX6_skip_21 (by decide) (fun q3 => ?_) (fun q3 => ?_)
    · replace hf := (if_pos q3).symm.trans hf
      refine g_aload_n (pc := 26) C dX6_skip_26 0 rfl rfl ?_
      refine g_dup (pc := 27) C dX6_skip_27 rfl ?_
      refine g_get (pc := 28) C in_X6 wc_1 cl_X6 2 (by decide) tw_32 rfl dX6_skip_28 ?_
      refine g_iconst (pc := 31) C dX6_skip_31 ic_1 ?_
      refine g_iadd (pc := 32) C dX6_skip_32 ?_
      refine g_put (pc := 33) C in_X6 tyX6 tyX6_ok nmX6 wc_1 cl_X6 2 (by decide) tw_32 rfl rfl rfl (Nat.le_of_ble_eq_true rfl) wp_1_2 dX6_skip_33 ?_
      refine g_iconst (pc := 36) C dX6_skip_36 ic_1 ?_
      cases hf
      exact g_zret (pc := 37) (b := true) C hr dX6_skip_37
    · replace hf := (if_neg q3).symm.trans hf
      refine g_iconst (pc := 24) C dX6_skip_24 ic_0 ?_
      cases hf
      exact g_zret (pc := 25) (b := false) C hr dX6_skip_25

set_option maxHeartbeats 4000000 in
set_option maxRecDepth 100000 in
theorem c_X6_readPress (l : Launch) (D : va_G) {cI cH cE cJ : ClassId} {a : Nat → Nat} (hw : ∀ σ, va_D (Pc a) (wc cI cH cE a σ)) {σ : Me} {k1 : Nat} (hk1 : kd k1 = 9) {σ' : Me} {r : Bool} (hf : f_X6_readPress σ k1 = some (σ', r)) : Mq l D (tyc cI cH cE cJ) (wc cI cH cE a) (Pc a) yX6_readPress cX6_readPress 3 (Option.some Jvm.ClassFile.FieldType.boolean) 2 [.ref (a 1), .ref (a k1)] σ (qI D (wc cI cH cE a) (Pc a) σ' (bI r)) := by
  refine mOf (plainFor_of_name (by decide)) hw (Nat.le_of_ble_eq_true rfl) [(0, .ref (a 1)), (1, .ref (a k1))] rfl ?_
  intro p e s m args below meth c C hr
  unfold f_X6_readPress at hf
  refine g_aload_n (pc := 0) C dX6_readPress_0 0 rfl rfl ?_
  obtain ⟨s1, r1, h1, hf⟩ := bd2_some hf
  refine g_cVi (pc := 1) C (st := []) jW.rf (c_X6_readNumber l D hw h1) y_X6_readNumber tw_239 rfl ⟨by decide, by decide⟩ ⟨Nat.zero_le _, Nat.zero_le _⟩ (Nat.le_of_ble_eq_true rfl) wc_1 cl_X6 rfl dX6_readPress_1 rfl ?_
  refine g_istore_n (pc := 4) C [(2, .int r1), (0, .ref (a 1)), (1, .ref (a k1))] dX6_readPress_4 rfl (by decide) rfl ?_
  refine g_iload_n (pc := 5) C dX6_readPress_5 0 rfl rfl ?_
  refine g_iconst (pc := 6) C dX6_readPress_6 ic_1 ?_
  refine g_bipush (pc := 7) C dX6_readPress_7 bp_8 ?_
  obtain ⟨r2, h2, hf⟩ := bd_some hf
  refine g_cNi (pc := 9) C (st := []) jW.rf (c_X7_isFromTo l D hw h2) y_X7_isFromTo tn_25 rfl ⟨by decide, by decide⟩ ⟨Nat.zero_le _, Nat.zero_le _⟩ (Nat.le_of_ble_eq_true rfl) dX6_readPress_9 rfl ?_
  refine g_if_eq (pc := 12) C 36 dX6_readPress_12 (by decide) (fun q3 => ?_) (fun q3 => ?_)
  · replace hf := (if_pos q3).symm.trans hf
    refine g_iconst (pc := 36) C dX6_readPress_36 ic_0 ?_
    cases hf
    exact g_zret (pc := 37) (b := false) C hr dX6_readPress_37
  · replace hf := (if_neg q3).symm.trans hf
    refine g_aload_n (pc := 15) C dX6_readPress_15 1 rfl rfl ?_
    refine g_bipush (pc := 16) C dX6_readPress_16 bp_59 ?_
    obtain ⟨s4, r4, h4, hf⟩ := bd2_some hf
    refine g_cVi (pc := 18) C (st := []) jW.rf (c_X6_skip l D hw h4) y_X6_skip tw_231 rfl ⟨by decide, by decide⟩ ⟨Nat.zero_le _, Nat.zero_le _⟩ (Nat.le_of_ble_eq_true rfl) wc_1 cl_X6 rfl dX6_readPress_18 rfl ?_
    refine g_if_eq (pc := 21) C 36 dX6_readPress_21 (by decide) (fun q5 => ?_) (fun q5 => ?_)
    · replace hf := (if_pos q5).symm.trans hf
      refine g_iconst (pc := 36) C dX6_readPress_36 ic_0 ?_
      cases hf
      exact g_zret (pc := 37) (b := false) C hr dX6_readPress_37
    · replace hf := (if_neg q5).symm.trans hf
      refine g_aload_n (pc := 24) C dX6_readPress_24 2 rfl rfl ?_
      refine g_iload_n (pc := 25) C dX6_readPress_25 0 rfl rfl ?_
      obtain ⟨s6, r6, h6, hf⟩ := bd2_some hf
      refine g_cVi (pc := 26) C (st := []) jW.rf (c_X2_addPress l D hw hk1 h6) y_X2_addPress tw_250 rfl ⟨by decide, by decide⟩ ⟨Nat.zero_le _, Nat.zero_le _⟩ (Nat.le_of_ble_eq_true rfl) (wc_9 hk1) cl_X2 rfl dX6_readPress_26 rfl ?_
      refine g_if_eq (pc := 29) C 36 dX6_readPress_29 (by decide) (fun q7 => ?_) (fun q7 => ?_)
      · replace hf := (if_pos q7).symm.trans hf
        refine g_iconst (pc := 36) C dX6_readPress_36 ic_0 ?_
        cases hf
        exact g_zret (pc := 37) (b := false) C hr dX6_readPress_37
      · replace hf := (if_neg q7).symm.trans hf
        refine g_iconst (pc := 32) C dX6_readPress_32 ic_1 ?_
        refine g_goto (pc := 33) C 37 dX6_readPress_33 (by decide) ?_
        cases hf
        exact g_zret (pc := 37) (b := true) C hr dX6_readPress_37

set_option maxHeartbeats 4000000 in
set_option maxRecDepth 100000 in
theorem c_X6_readLetter (l : Launch) (D : va_G) {cI cH cE cJ : ClassId} {a : Nat → Nat} (hw : ∀ σ, va_D (Pc a) (wc cI cH cE a σ)) {σ : Me} {σ' : Me} {r : Int32} (hf : f_X6_readLetter σ = some (σ', r)) : Mq l D (tyc cI cH cE cJ) (wc cI cH cE a) (Pc a) yX6_readLetter cX6_readLetter 1 (Option.some Jvm.ClassFile.FieldType.int) 0 [.ref (a 1)] σ (qI D (wc cI cH cE a) (Pc a) σ' r) := by
  refine mOf (plainFor_of_name (by decide)) hw (Nat.le_of_ble_eq_true rfl) [(0, .ref (a 1))] rfl ?_
  intro p e s m args below meth c C hr
  unfold f_X6_readLetter at hf
  refine g_aload_n (pc := 0) C dX6_readLetter_0 0 rfl rfl ?_
  refine g_get (pc := 1) C in_X6 wc_1 cl_X6 2 (by decide) tw_32 rfl dX6_readLetter_1 ?_
  refine g_aload_n (pc := 4) C dX6_readLetter_4 0 rfl rfl ?_
  refine g_get (pc := 5) C in_X6 wc_1 cl_X6 1 (by decide) tw_30 rfl dX6_readLetter_5 ?_
  refine g_icmp_ge (pc := 8) C 39 dX6_readLetter_8 (by decide) (fun q1 => ?_) (fun q1 => ?_)
  · replace hf := (if_pos q1).symm.trans hf
    refine g_bipush (pc := 39) C dX6_readLetter_39 bp_m4 ?_
    cases hf
    exact g_iret (pc := 41) C hr dX6_readLetter_41
  · replace hf := (if_neg q1).symm.trans hf
    refine g_aload_n (pc := 11) C dX6_readLetter_11 0 rfl rfl ?_
    refine g_get (pc := 12) C in_X6 wc_1 cl_X6 0 (by decide) tw_29 rfl dX6_readLetter_12 ?_
    refine g_aload_n (pc := 15) C dX6_readLetter_15 0 rfl rfl ?_
    refine g_get (pc := 16) C in_X6 wc_1 cl_X6 2 (by decide) tw_32 rfl dX6_readLetter_16 ?_
    obtain ⟨q2, hf⟩ := gd_some hf
    refine g_iald (pc := 19) C 0 wc_2 rfl q2 rfl dX6_readLetter_19 ?_
    refine g_bipush (pc := 20) C dX6_readLetter_20 bp_97 ?_
    refine g_icmp_lt (pc := 22) C 39 dX6_readLetter_22 (by decide) (fun q3 => ?_) (fun q3 => ?_)
    · replace hf := (if_pos q3).symm.trans hf
      refine g_bipush (pc := 39) C dX6_readLetter_39 bp_m4 ?_
      cases hf
      exact g_iret (pc := 41) C hr dX6_readLetter_41
    · replace hf := (if_neg q3).symm.trans hf
      refine g_aload_n (pc := 25) C dX6_readLetter_25 0 rfl rfl ?_
      refine g_get (pc := 26) C in_X6 wc_1 cl_X6 0 (by decide) tw_29 rfl dX6_readLetter_26 ?_
      refine g_aload_n (pc := 29) C dX6_readLetter_29 0 rfl rfl ?_
      refine g_get (pc := 30) C in_X6 wc_1 cl_X6 2 (by decide) tw_32 rfl dX6_readLetter_30 ?_
      obtain ⟨q4, hf⟩ := gd_some hf
      refine g_iald (pc := 33) C 0 wc_2 rfl q4 rfl dX6_readLetter_33 ?_
      refine g_bipush (pc := 34) C dX6_readLetter_34 bp_122 ?_
      refine g_icmp_le (pc := 36) C 42 dX6_readLetter_36 (by decide) (fun q5 => ?_) (fun q5 => ?_)
      · replace hf := (if_pos q5).symm.trans hf
        refine g_aload_n (pc := 42) C dX6_readLetter_42 0 rfl rfl ?_
        refine g_dup (pc := 43) C dX6_readLetter_43 rfl ?_
        refine g_get (pc := 44) C in_X6 wc_1 cl_X6 2 (by decide) tw_32 rfl dX6_readLetter_44 ?_
        refine g_iconst (pc := 47) C dX6_readLetter_47 ic_1 ?_
        refine g_iadd (pc := 48) C dX6_readLetter_48 ?_
        refine g_put (pc := 49) C in_X6 tyX6 tyX6_ok nmX6 wc_1 cl_X6 2 (by decide) tw_32 rfl rfl rfl (Nat.le_of_ble_eq_true rfl) wp_1_2 dX6_readLetter_49 ?_
        refine g_aload_n (pc := 52) C dX6_readLetter_52 0 rfl rfl ?_
        refine g_get (pc := 53) C in_X6 wc_1 cl_X6 0 (by decide) tw_29 rfl dX6_readLetter_53 ?_
        refine g_aload_n (pc := 56) C dX6_readLetter_56 0 rfl rfl ?_
        refine g_get (pc := 57) C in_X6 wc_1 cl_X6 2 (by decide) tw_32 rfl dX6_readLetter_57 ?_
        refine g_iconst (pc := 60) C dX6_readLetter_60 ic_1 ?_
        refine g_isub (pc := 61) C dX6_readLetter_61 ?_
        obtain ⟨q6, hf⟩ := gd_some hf
        refine g_iald (pc := 62) C 0 wc_2 rfl q6 rfl dX6_readLetter_62 ?_
        refine g_bipush (pc := 63) C dX6_readLetter_63 bp_97 ?_
        refine g_isub (pc := 65) C dX6_readLetter_65 ?_
        refine g_iconst (pc := 66) C dX6_readLetter_66 ic_1 ?_
        refine g_iadd (pc := 67) C dX6_readLetter_67 ?_
        cases hf
        exact g_iret (pc := 68) C hr dX6_readLetter_68
      · replace hf := (if_neg q5).symm.trans hf
        refine g_bipush (pc := 39) C dX6_readLetter_39 bp_m4 ?_
        cases hf
        exact g_iret (pc := 41) C hr dX6_readLetter_41

set_option maxHeartbeats 4000000 in
set_option maxRecDepth 100000 in
theorem c_X6_readSeries (l : Launch) (D : va_G) {cI cH cE cJ : ClassId} {a : Nat → Nat} (hw : ∀ σ, va_D (Pc a) (wc cI cH cE a σ)) {σ : Me} {k1 : Nat} (hk1 : kd k1 = 9) {σ' : Me} {r : Bool} (hf : f_X6_readSeries σ k1 = some (σ', r)) : Mq l D (tyc cI cH cE cJ) (wc cI cH cE a) (Pc a) yX6_readSeries cX6_readSeries 7 (Option.some Jvm.ClassFile.FieldType.boolean) 2 [.ref (a 1), .ref (a k1)] σ (qI D (wc cI cH cE a) (Pc a) σ' (bI r)) := by
  refine mOf (plainFor_of_name (by decide)) hw (Nat.le_of_ble_eq_true rfl) [(0, .ref (a 1)), (1, .ref (a k1))] rfl ?_
  intro p e s m args below meth c C hr
  have b96 : ∀ (K69 : Me → Nat → Nat → Int32 → Option (Me × Bool)) (hK69 : ∀ (σ : Me) (k2 : Nat) (hk2 : kd k2 = 12) (x5 : Int32), K69 σ k1 k2 x5 = some (σ', r) → Gg p l e (rmd 2) s m args below meth c D (Pc a) (wc cI cH cE a) 7 0 0 (MQ below ((qI D (wc cI cH cE a) (Pc a) σ' (bI r)) s.heap.size) args s 0 0 (fR (Pc a) s.heap.size)) σ [(0, .ref (a 1)), (1, .ref (a k1)), (2, .ref (a k2)), (5, .int x5)] 69 []) (σ : Me) (k2 : Nat) (hk2 : kd k2 = 12) (x5 : Int32) (t0 : Int32) (hf : f_X6_readSeries_96 K69 σ k1 k2 x5 t0 = some (σ', r)), Gg p l e (rmd 2) s m args below meth c D (Pc a) (wc cI cH cE a) 7 0 0 (MQ below ((qI D (wc cI cH cE a) (Pc a) σ' (bI r)) s.heap.size) args s 0 0 (fR (Pc a) s.heap.size)) σ [(0, .ref (a 1)), (1, .ref (a k1)), (2, .ref (a k2)), (5, .int x5)] 96 [.int t0] := by
    intro K69 hK69 σ k2 hk2 x5 t0 hf
    unfold f_X6_readSeries_96 at hf
    refine g_istore (pc := 96) C [(6, .int t0), (0, .ref (a 1)), (1, .ref (a k1)), (2, .ref (a k2)), (5, .int x5)] dX6_readSeries_96 (by decide) rfl ?_
    refine g_iload (pc := 98) C dX6_readSeries_98 0 rfl ?_
    refine g_iconst (pc := 100) C dX6_readSeries_100 ic_0 ?_
    refine g_bipush (pc := 101) C dX6_readSeries_101 bp_40 ?_
    obtain ⟨r1, h1, hf⟩ := bd_some hf
    refine g_cNi (pc := 103) C (st := []) jW.rf (c_X7_isFromTo l D hw h1) y_X7_isFromTo tn_25 rfl ⟨by decide, by decide⟩ ⟨Nat.zero_le _, Nat.zero_le _⟩ (Nat.le_of_ble_eq_true rfl) dX6_readSeries_103 rfl ?_
    refine g_if_ne (pc := 106) C 111 dX6_readSeries_106 (by decide) (fun q2 => ?_) (fun q2 => ?_)
    · replace hf := (if_neg q2).symm.trans hf
      refine g_aload_n (pc := 111) C dX6_readSeries_111 3 rfl rfl ?_
      refine g_aload_n (pc := 112) C dX6_readSeries_112 2 rfl rfl ?_
      refine g_getN (pc := 113) C in_X2 (wc_9 hk1) cl_X2 0 (by decide) tn_19 rfl dX6_readSeries_113 ?_
      refine g_iload (pc := 116) C dX6_readSeries_116 4 rfl ?_
      obtain ⟨q3, hf⟩ := gd_some hf
      refine g_iald (pc := 118) C 0 (wc_10 (kd_9_1 hk1)) rfl q3 rfl dX6_readSeries_118 ?_
      refine g_iload (pc := 119) C dX6_readSeries_119 0 rfl ?_
      obtain ⟨s4, h4, hf⟩ := bd_some hf
      refine g_cVv (pc := 121) C (st := []) jW.rf (c_X3_addShare l D hw hk2 h4) y_X3_addShare tw_274 rfl ⟨by decide, by decide⟩ ⟨Nat.zero_le _, Nat.zero_le _⟩ (Nat.le_of_ble_eq_true rfl) (wc_12 hk2) cl_X3 rfl dX6_readSeries_121 rfl ?_
      refine g_iinc (pc := 124) C [(5, .int (x5 + 1)), (6, .int t0), (0, .ref (a 1)), (1, .ref (a k1)), (2, .ref (a k2))] 4 dX6_readSeries_124 rfl ic_1 (by decide) rfl ?_
      refine g_goto (pc := 127) C 69 dX6_readSeries_127 (by decide) ?_
      exact g_sub [2, 3, 4, 0] rfl (hK69 s4 k2 hk2 (x5 + 1) hf)
    · replace hf := (if_pos q2).symm.trans hf
      refine g_iconst (pc := 109) C dX6_readSeries_109 ic_0 ?_
      cases hf
      exact g_zret (pc := 110) (b := false) C hr dX6_readSeries_110
  have b69 : ∀ (n : Nat) (σ : Me) (k2 : Nat) (hk2 : kd k2 = 12) (x5 : Int32) (hf : f_X6_readSeries_69 n σ k1 k2 x5 = some (σ', r)), Gg p l e (rmd 2) s m args below meth c D (Pc a) (wc cI cH cE a) 7 0 0 (MQ below ((qI D (wc cI cH cE a) (Pc a) σ' (bI r)) s.heap.size) args s 0 0 (fR (Pc a) s.heap.size)) σ [(0, .ref (a 1)), (1, .ref (a k1)), (2, .ref (a k2)), (5, .int x5)] 69 [] := by
    intro n
    induction n with
    | zero => intro σ k2 hk2 x5 hf; exact absurd hf (by simp [f_X6_readSeries_69])
    | succ n ih =>
      intro σ k2 hk2 x5 hf
      rw [f_X6_readSeries_69] at hf
      refine g_iload (pc := 69) C dX6_readSeries_69 3 rfl ?_
      refine g_aload_n (pc := 71) C dX6_readSeries_71 1 rfl rfl ?_
      refine g_getN (pc := 72) C in_X2 (wc_9 hk1) cl_X2 2 (by decide) tn_20 rfl dX6_readSeries_72 ?_
      refine g_icmp_ge (pc := 75) C 130 dX6_readSeries_75 (by decide) (fun q5 => ?_) (fun q5 => ?_)
      · replace hf := (if_pos q5).symm.trans hf
        refine g_aload_n (pc := 130) C dX6_readSeries_130 0 rfl rfl ?_
        refine g_bipush (pc := 131) C dX6_readSeries_131 bp_59 ?_
        obtain ⟨s6, r6, h6, hf⟩ := bd2_some hf
        refine g_cVi (pc := 133) C (st := []) jW.rf (c_X6_skip l D hw h6) y_X6_skip tw_231 rfl ⟨by decide, by decide⟩ ⟨Nat.zero_le _, Nat.zero_le _⟩ (Nat.le_of_ble_eq_true rfl) wc_1 cl_X6 rfl dX6_readSeries_133 rfl ?_
        refine g_if_eq (pc := 136) C 153 dX6_readSeries_136 (by decide) (fun q7 => ?_) (fun q7 => ?_)
        · replace hf := (if_pos q7).symm.trans hf
          refine g_iconst (pc := 153) C dX6_readSeries_153 ic_0 ?_
          cases hf
          exact g_zret (pc := 154) (b := false) C hr dX6_readSeries_154
        · replace hf := (if_neg q7).symm.trans hf
          refine g_aload_n (pc := 139) C dX6_readSeries_139 2 rfl rfl ?_
          refine g_getN (pc := 140) C in_X3 (wc_12 hk2) cl_X3 4 (by decide) tn_17 rfl dX6_readSeries_140 ?_
          refine g_iconst (pc := 143) C dX6_readSeries_143 ic_1 ?_
          refine g_sipush (pc := 144) C dX6_readSeries_144 sp_999 ?_
          obtain ⟨r8, h8, hf⟩ := bd_some hf
          refine g_cNi (pc := 147) C (st := []) jW.rf (c_X7_isFromTo l D hw h8) y_X7_isFromTo tn_25 rfl ⟨by decide, by decide⟩ ⟨Nat.zero_le _, Nat.zero_le _⟩ (Nat.le_of_ble_eq_true rfl) dX6_readSeries_147 rfl ?_
          refine g_if_ne (pc := 150) C 155 dX6_readSeries_150 (by decide) (fun q9 => ?_) (fun q9 => ?_)
          · replace hf := (if_neg q9).symm.trans hf
            refine g_aload_n (pc := 155) C dX6_readSeries_155 1 rfl rfl ?_
            obtain ⟨s10, h10, hf⟩ := bd_some hf
            refine g_cVv (pc := 156) C (st := []) jW.rf (c_X2_keepNextSeries l D hw hk1 h10) y_X2_keepNextSeries tw_282 rfl ⟨by decide, by decide⟩ ⟨Nat.zero_le _, Nat.zero_le _⟩ (Nat.le_of_ble_eq_true rfl) (wc_9 hk1) cl_X2 rfl dX6_readSeries_156 rfl ?_
            refine g_iconst (pc := 159) C dX6_readSeries_159 ic_1 ?_
            cases hf
            exact g_zret (pc := 160) (b := true) C hr dX6_readSeries_160
          · replace hf := (if_pos q9).symm.trans hf
            refine g_iconst (pc := 153) C dX6_readSeries_153 ic_0 ?_
            cases hf
            exact g_zret (pc := 154) (b := false) C hr dX6_readSeries_154
      · replace hf := (if_neg q5).symm.trans hf
        refine g_aload_n (pc := 78) C dX6_readSeries_78 0 rfl rfl ?_
        refine g_bipush (pc := 79) C dX6_readSeries_79 bp_44 ?_
        obtain ⟨s11, r11, h11, hf⟩ := bd2_some hf
        refine g_cVi (pc := 81) C (st := []) jW.rf (c_X6_skip l D hw h11) y_X6_skip tw_231 rfl ⟨by decide, by decide⟩ ⟨Nat.zero_le _, Nat.zero_le _⟩ (Nat.le_of_ble_eq_true rfl) wc_1 cl_X6 rfl dX6_readSeries_81 rfl ?_
        refine g_if_eq (pc := 84) C 94 dX6_readSeries_84 (by decide) (fun q12 => ?_) (fun q12 => ?_)
        · replace hf := (if_pos q12).symm.trans hf
          refine g_bipush (pc := 94) C dX6_readSeries_94 bp_m4 ?_
          exact g_sub [0, 1, 2, 3] rfl (b96 (f_X6_readSeries_69 n) ih s11 k2 hk2 x5 (-4) hf)
        · replace hf := (if_neg q12).symm.trans hf
          refine g_aload_n (pc := 87) C dX6_readSeries_87 0 rfl rfl ?_
          obtain ⟨s13, r13, h13, hf⟩ := bd2_some hf
          refine g_cVi (pc := 88) C (st := []) jW.rf (c_X6_readNumber l D hw h13) y_X6_readNumber tw_239 rfl ⟨by decide, by decide⟩ ⟨Nat.zero_le _, Nat.zero_le _⟩ (Nat.le_of_ble_eq_true rfl) wc_1 cl_X6 rfl dX6_readSeries_88 rfl ?_
          refine g_goto (pc := 91) C 96 dX6_readSeries_91 (by decide) ?_
          exact g_sub [0, 1, 2, 3] rfl (b96 (f_X6_readSeries_69 n) ih s13 k2 hk2 x5 r13 hf)
  unfold f_X6_readSeries at hf
  refine g_aload_n (pc := 0) C dX6_readSeries_0 1 rfl rfl ?_
  obtain ⟨r14, h14, hf⟩ := bd_some hf
  refine g_cVe (pc := 1) C (st := []) jW.rf (c_X2_nextSeries l D hw hk1 h14) y_X2_nextSeries tw_258 rfl ⟨by decide, by decide⟩ ⟨Nat.zero_le _, Nat.zero_le _⟩ (Nat.le_of_ble_eq_true rfl) (wc_9 hk1) cl_X2 rfl dX6_readSeries_1 rfl ?_
  rcases r14 with _ | k914
  · replace hf := oc_n.symm.trans hf
    refine g_top (v1 := .null) rfl ?_
    refine g_astore_nN (pc := 4) C [(2, .null), (0, .ref (a 1)), (1, .ref (a k1))] dX6_readSeries_4 rfl (by decide) rfl ?_
    refine g_aload_n (pc := 5) C dX6_readSeries_5 1 rfl rfl ?_
    obtain ⟨s15, r15, h15, hf⟩ := bd2_some hf
    refine g_cVi (pc := 6) C (st := []) jW.rf (c_X6_readLetter l D hw h15) y_X6_readLetter tw_262 rfl ⟨by decide, by decide⟩ ⟨Nat.zero_le _, Nat.zero_le _⟩ (Nat.le_of_ble_eq_true rfl) wc_1 cl_X6 rfl dX6_readSeries_6 rfl ?_
    refine g_istore_n (pc := 9) C [(3, .int r15), (2, .null), (0, .ref (a 1)), (1, .ref (a k1))] dX6_readSeries_9 rfl (by decide) rfl ?_
    refine g_aload_nN (pc := 10) C dX6_readSeries_10 1 rfl rfl ?_
    refine g_ifnullN (pc := 11) C 39 dX6_readSeries_11 (by decide) ?_
    refine g_iconst (pc := 39) C dX6_readSeries_39 ic_0 ?_
    cases hf
    exact g_zret (pc := 40) (b := false) C hr dX6_readSeries_40
  · replace hf := oc_s.symm.trans hf
    obtain ⟨hk914, hf⟩ := gd_some hf
    replace hk914 := of_decide_eq_true hk914
    refine g_top (v1 := .ref (a k914)) rfl ?_
    refine g_astore_n (pc := 4) C [(2, .ref (a k914)), (0, .ref (a 1)), (1, .ref (a k1))] dX6_readSeries_4 rfl (by decide) rfl ?_
    refine g_aload_n (pc := 5) C dX6_readSeries_5 1 rfl rfl ?_
    obtain ⟨s16, r16, h16, hf⟩ := bd2_some hf
    refine g_cVi (pc := 6) C (st := []) jW.rf (c_X6_readLetter l D hw h16) y_X6_readLetter tw_262 rfl ⟨by decide, by decide⟩ ⟨Nat.zero_le _, Nat.zero_le _⟩ (Nat.le_of_ble_eq_true rfl) wc_1 cl_X6 rfl dX6_readSeries_6 rfl ?_
    refine g_istore_n (pc := 9) C [(3, .int r16), (2, .ref (a k914)), (0, .ref (a 1)), (1, .ref (a k1))] dX6_readSeries_9 rfl (by decide) rfl ?_
    refine g_aload_n (pc := 10) C dX6_readSeries_10 1 rfl rfl ?_
    refine g_ifnull (pc := 11) C dX6_readSeries_11 ?_
    refine g_iload_n (pc := 14) C dX6_readSeries_14 0 rfl rfl ?_
    refine g_bipush (pc := 15) C dX6_readSeries_15 bp_m4 ?_
    refine g_icmp_eq (pc := 17) C 39 dX6_readSeries_17 (by decide) (fun q17 => ?_) (fun q17 => ?_)
    · replace hf := (if_pos q17).symm.trans hf
      refine g_iconst (pc := 39) C dX6_readSeries_39 ic_0 ?_
      cases hf
      exact g_zret (pc := 40) (b := false) C hr dX6_readSeries_40
    · replace hf := (if_neg q17).symm.trans hf
      refine g_aload_n (pc := 20) C dX6_readSeries_20 3 rfl rfl ?_
      refine g_iload_n (pc := 21) C dX6_readSeries_21 0 rfl rfl ?_
      obtain ⟨r18, h18, hf⟩ := bd_some hf
      refine g_cVi (pc := 22) C (st := []) jW.rf (c_X2_seriesOfLetter l D hw hk1 h18) y_X2_seriesOfLetter tw_266 rfl ⟨by decide, by decide⟩ ⟨Nat.zero_le _, Nat.zero_le _⟩ (Nat.le_of_ble_eq_true rfl) (wc_9 hk1) cl_X2 rfl dX6_readSeries_22 rfl ?_
      refine g_bipush (pc := 25) C dX6_readSeries_25 bp_m4 ?_
      refine g_icmp_ne (pc := 27) C 39 dX6_readSeries_27 (by decide) (fun q19 => ?_) (fun q19 => ?_)
      · replace hf := (if_neg q19).symm.trans hf
        refine g_iconst (pc := 39) C dX6_readSeries_39 ic_0 ?_
        cases hf
        exact g_zret (pc := 40) (b := false) C hr dX6_readSeries_40
      · replace hf := (if_pos q19).symm.trans hf
        refine g_aload_n (pc := 30) C dX6_readSeries_30 2 rfl rfl ?_
        refine g_bipush (pc := 31) C dX6_readSeries_31 bp_44 ?_
        obtain ⟨s20, r20, h20, hf⟩ := bd2_some hf
        refine g_cVi (pc := 33) C (st := []) jW.rf (c_X6_skip l D hw h20) y_X6_skip tw_231 rfl ⟨by decide, by decide⟩ ⟨Nat.zero_le _, Nat.zero_le _⟩ (Nat.le_of_ble_eq_true rfl) wc_1 cl_X6 rfl dX6_readSeries_33 rfl ?_
        refine g_if_ne (pc := 36) C 41 dX6_readSeries_36 (by decide) (fun q21 => ?_) (fun q21 => ?_)
        · replace hf := (if_neg q21).symm.trans hf
          refine g_aload_n (pc := 41) C dX6_readSeries_41 2 rfl rfl ?_
          obtain ⟨s22, r22, h22, hf⟩ := bd2_some hf
          refine g_cVi (pc := 42) C (st := []) jW.rf (c_X6_readNumber l D hw h22) y_X6_readNumber tw_239 rfl ⟨by decide, by decide⟩ ⟨Nat.zero_le _, Nat.zero_le _⟩ (Nat.le_of_ble_eq_true rfl) wc_1 cl_X6 rfl dX6_readSeries_42 rfl ?_
          refine g_istore (pc := 45) C [(4, .int r22), (3, .int r16), (2, .ref (a k914)), (0, .ref (a 1)), (1, .ref (a k1))] dX6_readSeries_45 (by decide) rfl ?_
          refine g_iload (pc := 47) C dX6_readSeries_47 0 rfl ?_
          refine g_iconst (pc := 49) C dX6_readSeries_49 ic_0 ?_
          refine g_iconst (pc := 50) C dX6_readSeries_50 ic_2 ?_
          obtain ⟨r23, h23, hf⟩ := bd_some hf
          refine g_cNi (pc := 51) C (st := []) jW.rf (c_X7_isFromTo l D hw h23) y_X7_isFromTo tn_25 rfl ⟨by decide, by decide⟩ ⟨Nat.zero_le _, Nat.zero_le _⟩ (Nat.le_of_ble_eq_true rfl) dX6_readSeries_51 rfl ?_
          refine g_if_ne (pc := 54) C 59 dX6_readSeries_54 (by decide) (fun q24 => ?_) (fun q24 => ?_)
          · replace hf := (if_neg q24).symm.trans hf
            refine g_aload_n (pc := 59) C dX6_readSeries_59 2 rfl rfl ?_
            refine g_iload_n (pc := 60) C dX6_readSeries_60 1 rfl rfl ?_
            refine g_iload (pc := 61) C dX6_readSeries_61 0 rfl ?_
            obtain ⟨s25, h25, hf⟩ := bd_some hf
            refine g_cVv (pc := 63) C (st := []) jW.rf (c_X3_begin l D hw hk914 h25) y_X3_begin tw_270 rfl ⟨by decide, by decide⟩ ⟨Nat.zero_le _, Nat.zero_le _⟩ (Nat.le_of_ble_eq_true rfl) (wc_12 hk914) cl_X3 rfl dX6_readSeries_63 rfl ?_
            refine g_iconst (pc := 66) C dX6_readSeries_66 ic_0 ?_
            refine g_istore (pc := 67) C [(5, .int 0), (4, .int r22), (3, .int r16), (2, .ref (a k914)), (0, .ref (a 1)), (1, .ref (a k1))] dX6_readSeries_67 (by decide) rfl ?_
            exact g_sub [4, 5, 3, 0] rfl (b69 1000 s25 k914 hk914 0 hf)
          · replace hf := (if_pos q24).symm.trans hf
            refine g_iconst (pc := 57) C dX6_readSeries_57 ic_0 ?_
            cases hf
            exact g_zret (pc := 58) (b := false) C hr dX6_readSeries_58
        · replace hf := (if_pos q21).symm.trans hf
          refine g_iconst (pc := 39) C dX6_readSeries_39 ic_0 ?_
          cases hf
          exact g_zret (pc := 40) (b := false) C hr dX6_readSeries_40

set_option maxHeartbeats 4000000 in
set_option maxRecDepth 100000 in
theorem c_X6_readStars (l : Launch) (D : va_G) {cI cH cE cJ : ClassId} {a : Nat → Nat} (hw : ∀ σ, va_D (Pc a) (wc cI cH cE a σ)) {σ : Me} {k1 : Nat} (hk1 : kd k1 = 9) {σ' : Me} {r : Bool} (hf : f_X6_readStars σ k1 = some (σ', r)) : Mq l D (tyc cI cH cE cJ) (wc cI cH cE a) (Pc a) yX6_readStars cX6_readStars 3 (Option.some Jvm.ClassFile.FieldType.boolean) 2 [.ref (a 1), .ref (a k1)] σ (qI D (wc cI cH cE a) (Pc a) σ' (bI r)) := by
  refine mOf (plainFor_of_name (by decide)) hw (Nat.le_of_ble_eq_true rfl) [(0, .ref (a 1)), (1, .ref (a k1))] rfl ?_
  intro p e s m args below meth c C hr
  unfold f_X6_readStars at hf
  refine g_aload_n (pc := 0) C dX6_readStars_0 0 rfl rfl ?_
  obtain ⟨s1, r1, h1, hf⟩ := bd2_some hf
  refine g_cVi (pc := 1) C (st := []) jW.rf (c_X6_readNumber l D hw h1) y_X6_readNumber tw_239 rfl ⟨by decide, by decide⟩ ⟨Nat.zero_le _, Nat.zero_le _⟩ (Nat.le_of_ble_eq_true rfl) wc_1 cl_X6 rfl dX6_readStars_1 rfl ?_
  refine g_istore_n (pc := 4) C [(2, .int r1), (0, .ref (a 1)), (1, .ref (a k1))] dX6_readStars_4 rfl (by decide) rfl ?_
  refine g_iload_n (pc := 5) C dX6_readStars_5 0 rfl rfl ?_
  refine g_iconst (pc := 6) C dX6_readStars_6 ic_0 ?_
  refine g_bipush (pc := 7) C dX6_readStars_7 bp_99 ?_
  obtain ⟨r2, h2, hf⟩ := bd_some hf
  refine g_cNi (pc := 9) C (st := []) jW.rf (c_X7_isFromTo l D hw h2) y_X7_isFromTo tn_25 rfl ⟨by decide, by decide⟩ ⟨Nat.zero_le _, Nat.zero_le _⟩ (Nat.le_of_ble_eq_true rfl) dX6_readStars_9 rfl ?_
  refine g_if_eq (pc := 12) C 24 dX6_readStars_12 (by decide) (fun q3 => ?_) (fun q3 => ?_)
  · replace hf := (if_pos q3).symm.trans hf
    refine g_iconst (pc := 24) C dX6_readStars_24 ic_0 ?_
    cases hf
    exact g_zret (pc := 25) (b := false) C hr dX6_readStars_25
  · replace hf := (if_neg q3).symm.trans hf
    refine g_aload_n (pc := 15) C dX6_readStars_15 1 rfl rfl ?_
    refine g_bipush (pc := 16) C dX6_readStars_16 bp_59 ?_
    obtain ⟨s4, r4, h4, hf⟩ := bd2_some hf
    refine g_cVi (pc := 18) C (st := []) jW.rf (c_X6_skip l D hw h4) y_X6_skip tw_231 rfl ⟨by decide, by decide⟩ ⟨Nat.zero_le _, Nat.zero_le _⟩ (Nat.le_of_ble_eq_true rfl) wc_1 cl_X6 rfl dX6_readStars_18 rfl ?_
    refine g_if_ne (pc := 21) C 26 dX6_readStars_21 (by decide) (fun q5 => ?_) (fun q5 => ?_)
    · replace hf := (if_neg q5).symm.trans hf
      refine g_aload_n (pc := 26) C dX6_readStars_26 2 rfl rfl ?_
      refine g_iload_n (pc := 27) C dX6_readStars_27 0 rfl rfl ?_
      refine g_putN (pc := 28) C in_X2 tyX2 tyX2_ok nmX2 (wc_9 hk1) cl_X2 4 (by decide) tn_23 rfl rfl rfl (Nat.le_of_ble_eq_true rfl) (wp_9_4 hk1) dX6_readStars_28 ?_
      refine g_iconst (pc := 31) C dX6_readStars_31 ic_1 ?_
      cases hf
      exact g_zret (pc := 32) (b := true) C hr dX6_readStars_32
    · replace hf := (if_pos q5).symm.trans hf
      refine g_iconst (pc := 24) C dX6_readStars_24 ic_0 ?_
      cases hf
      exact g_zret (pc := 25) (b := false) C hr dX6_readStars_25

set_option maxHeartbeats 4000000 in
set_option maxRecDepth 100000 in
theorem c_X6_readItem (l : Launch) (D : va_G) {cI cH cE cJ : ClassId} {a : Nat → Nat} (hw : ∀ σ, va_D (Pc a) (wc cI cH cE a σ)) {σ : Me} {k1 : Nat} (hk1 : kd k1 = 9) {σ' : Me} {r : Bool} (hf : f_X6_readItem σ k1 = some (σ', r)) : Mq l D (tyc cI cH cE cJ) (wc cI cH cE a) (Pc a) yX6_readItem cX6_readItem 2 (Option.some Jvm.ClassFile.FieldType.boolean) 3 [.ref (a 1), .ref (a k1)] σ (qI D (wc cI cH cE a) (Pc a) σ' (bI r)) := by
  refine mOf (plainFor_of_name (by decide)) hw (Nat.le_of_ble_eq_true rfl) [(0, .ref (a 1)), (1, .ref (a k1))] rfl ?_
  intro p e s m args below meth c C hr
  unfold f_X6_readItem at hf
  refine g_aload_n (pc := 0) C dX6_readItem_0 0 rfl rfl ?_
  refine g_bipush (pc := 1) C dX6_readItem_1 bp_112 ?_
  obtain ⟨s1, r1, h1, hf⟩ := bd2_some hf
  refine g_cVi (pc := 3) C (st := []) jW.rf (c_X6_skip l D hw h1) y_X6_skip tw_231 rfl ⟨by decide, by decide⟩ ⟨Nat.zero_le _, Nat.zero_le _⟩ (Nat.le_of_ble_eq_true rfl) wc_1 cl_X6 rfl dX6_readItem_3 rfl ?_
  refine g_if_eq (pc := 6) C 15 dX6_readItem_6 (by decide) (fun q2 => ?_) (fun q2 => ?_)
  · replace hf := (if_pos q2).symm.trans hf
    refine g_aload_n (pc := 15) C dX6_readItem_15 0 rfl rfl ?_
    refine g_bipush (pc := 16) C dX6_readItem_16 bp_115 ?_
    obtain ⟨s3, r3, h3, hf⟩ := bd2_some hf
    refine g_cVi (pc := 18) C (st := []) jW.rf (c_X6_skip l D hw h3) y_X6_skip tw_231 rfl ⟨by decide, by decide⟩ ⟨Nat.zero_le _, Nat.zero_le _⟩ (Nat.le_of_ble_eq_true rfl) wc_1 cl_X6 rfl dX6_readItem_18 rfl ?_
    refine g_if_eq (pc := 21) C 30 dX6_readItem_21 (by decide) (fun q4 => ?_) (fun q4 => ?_)
    · replace hf := (if_pos q4).symm.trans hf
      refine g_aload_n (pc := 30) C dX6_readItem_30 0 rfl rfl ?_
      refine g_bipush (pc := 31) C dX6_readItem_31 bp_122 ?_
      obtain ⟨s5, r5, h5, hf⟩ := bd2_some hf
      refine g_cVi (pc := 33) C (st := []) jW.rf (c_X6_skip l D hw h5) y_X6_skip tw_231 rfl ⟨by decide, by decide⟩ ⟨Nat.zero_le _, Nat.zero_le _⟩ (Nat.le_of_ble_eq_true rfl) wc_1 cl_X6 rfl dX6_readItem_33 rfl ?_
      refine g_if_eq (pc := 36) C 51 dX6_readItem_36 (by decide) (fun q6 => ?_) (fun q6 => ?_)
      · replace hf := (if_pos q6).symm.trans hf
        refine g_iconst (pc := 51) C dX6_readItem_51 ic_0 ?_
        cases hf
        exact g_zret (pc := 52) (b := false) C hr dX6_readItem_52
      · replace hf := (if_neg q6).symm.trans hf
        refine g_aload_n (pc := 39) C dX6_readItem_39 0 rfl rfl ?_
        refine g_aload_n (pc := 40) C dX6_readItem_40 1 rfl rfl ?_
        obtain ⟨s7, r7, h7, hf⟩ := bd2_some hf
        refine g_cVi (pc := 41) C (st := []) jW.rf (c_X6_readStars l D hw hk1 h7) y_X6_readStars tw_286 rfl ⟨by decide, by decide⟩ ⟨Nat.zero_le _, Nat.zero_le _⟩ (Nat.le_of_ble_eq_true rfl) wc_1 cl_X6 rfl dX6_readItem_41 rfl ?_
        refine g_if_eq (pc := 44) C 51 dX6_readItem_44 (by decide) (fun q8 => ?_) (fun q8 => ?_)
        · replace hf := (if_pos q8).symm.trans hf
          refine g_iconst (pc := 51) C dX6_readItem_51 ic_0 ?_
          cases hf
          exact g_zret (pc := 52) (b := false) C hr dX6_readItem_52
        · replace hf := (if_neg q8).symm.trans hf
          refine g_iconst (pc := 47) C dX6_readItem_47 ic_1 ?_
          refine g_goto (pc := 48) C 52 dX6_readItem_48 (by decide) ?_
          cases hf
          exact g_zret (pc := 52) (b := true) C hr dX6_readItem_52
    · replace hf := (if_neg q4).symm.trans hf
      refine g_aload_n (pc := 24) C dX6_readItem_24 0 rfl rfl ?_
      refine g_aload_n (pc := 25) C dX6_readItem_25 1 rfl rfl ?_
      obtain ⟨s9, r9, h9, hf⟩ := bd2_some hf
      refine g_cVi (pc := 26) C (st := []) jW.rf (c_X6_readSeries l D hw hk1 h9) y_X6_readSeries tw_254 rfl ⟨by decide, by decide⟩ ⟨Nat.zero_le _, Nat.zero_le _⟩ (Nat.le_of_ble_eq_true rfl) wc_1 cl_X6 rfl dX6_readItem_26 rfl ?_
      cases hf
      exact g_zret (pc := 29) (b := _) C hr dX6_readItem_29
  · replace hf := (if_neg q2).symm.trans hf
    refine g_aload_n (pc := 9) C dX6_readItem_9 0 rfl rfl ?_
    refine g_aload_n (pc := 10) C dX6_readItem_10 1 rfl rfl ?_
    obtain ⟨s10, r10, h10, hf⟩ := bd2_some hf
    refine g_cVi (pc := 11) C (st := []) jW.rf (c_X6_readPress l D hw hk1 h10) y_X6_readPress tw_235 rfl ⟨by decide, by decide⟩ ⟨Nat.zero_le _, Nat.zero_le _⟩ (Nat.le_of_ble_eq_true rfl) wc_1 cl_X6 rfl dX6_readItem_11 rfl ?_
    cases hf
    exact g_zret (pc := 14) (b := _) C hr dX6_readItem_14

set_option maxHeartbeats 4000000 in
set_option maxRecDepth 100000 in
theorem c_X6_readInto (l : Launch) (D : va_G) {cI cH cE cJ : ClassId} {a : Nat → Nat} (hw : ∀ σ, va_D (Pc a) (wc cI cH cE a σ)) {σ : Me} {k1 : Nat} (hk1 : kd k1 = 9) {σ' : Me} {r : Int32} (hf : f_X6_readInto σ k1 = some (σ', r)) : Mq l D (tyc cI cH cE cJ) (wc cI cH cE a) (Pc a) yX6_readInto cX6_readInto 4 (Option.some Jvm.ClassFile.FieldType.int) 4 [.ref (a 1), .ref (a k1)] σ (qI D (wc cI cH cE a) (Pc a) σ' r) := by
  refine mOf (plainFor_of_name (by decide)) hw (Nat.le_of_ble_eq_true rfl) [(0, .ref (a 1)), (1, .ref (a k1))] rfl ?_
  intro p e s m args below meth c C hr
  have b11 : ∀ (n : Nat) (σ : Me) (x2 : Int32) (hf : f_X6_readInto_11 n σ k1 x2 = some (σ', r)), Gg p l e (rmd 4) s m args below meth c D (Pc a) (wc cI cH cE a) 4 0 0 (MQ below ((qI D (wc cI cH cE a) (Pc a) σ' r) s.heap.size) args s 0 0 (fR (Pc a) s.heap.size)) σ [(0, .ref (a 1)), (1, .ref (a k1)), (2, .int x2)] 11 [] := by
    intro n
    induction n with
    | zero => intro σ x2 hf; exact absurd hf (by simp [f_X6_readInto_11])
    | succ n ih =>
      intro σ x2 hf
      rw [f_X6_readInto_11] at hf
      refine g_iload_n (pc := 11) C dX6_readInto_11 2 rfl rfl ?_
      refine g_sipush (pc := 12) C dX6_readInto_12 sp_200 ?_
      refine g_icmp_ge (pc := 15) C 50 dX6_readInto_15 (by decide) (fun q1 => ?_) (fun q1 => ?_)
      · replace hf := (if_pos q1).symm.trans hf
        refine g_bipush (pc := 50) C dX6_readInto_50 bp_m4 ?_
        cases hf
        exact g_iret (pc := 52) C hr dX6_readInto_52
      · replace hf := (if_neg q1).symm.trans hf
        refine g_aload_n (pc := 18) C dX6_readInto_18 0 rfl rfl ?_
        refine g_get (pc := 19) C in_X6 wc_1 cl_X6 2 (by decide) tw_32 rfl dX6_readInto_19 ?_
        refine g_aload_n (pc := 22) C dX6_readInto_22 0 rfl rfl ?_
        refine g_get (pc := 23) C in_X6 wc_1 cl_X6 1 (by decide) tw_30 rfl dX6_readInto_23 ?_
        refine g_icmp_ge (pc := 26) C 50 dX6_readInto_26 (by decide) (fun q2 => ?_) (fun q2 => ?_)
        · replace hf := (if_pos q2).symm.trans hf
          refine g_bipush (pc := 50) C dX6_readInto_50 bp_m4 ?_
          cases hf
          exact g_iret (pc := 52) C hr dX6_readInto_52
        · replace hf := (if_neg q2).symm.trans hf
          refine g_aload_n (pc := 29) C dX6_readInto_29 0 rfl rfl ?_
          refine g_get (pc := 30) C in_X6 wc_1 cl_X6 2 (by decide) tw_32 rfl dX6_readInto_30 ?_
          refine g_istore_n (pc := 33) C [(3, .int (σ 1 2)), (0, .ref (a 1)), (1, .ref (a k1)), (2, .int x2)] dX6_readInto_33 rfl (by decide) rfl ?_
          refine g_aload_n (pc := 34) C dX6_readInto_34 1 rfl rfl ?_
          refine g_aload_n (pc := 35) C dX6_readInto_35 2 rfl rfl ?_
          obtain ⟨s3, r3, h3, hf⟩ := bd2_some hf
          refine g_cVi (pc := 36) C (st := []) jW.rf (c_X6_readItem l D hw hk1 h3) y_X6_readItem tw_227 rfl ⟨by decide, by decide⟩ ⟨Nat.zero_le _, Nat.zero_le _⟩ (Nat.le_of_ble_eq_true rfl) wc_1 cl_X6 rfl dX6_readInto_36 rfl ?_
          refine g_if_ne (pc := 39) C 44 dX6_readInto_39 (by decide) (fun q4 => ?_) (fun q4 => ?_)
          · replace hf := (if_neg q4).symm.trans hf
            refine g_iinc (pc := 44) C [(2, .int (x2 + 1)), (3, .int (σ 1 2)), (0, .ref (a 1)), (1, .ref (a k1))] 3 dX6_readInto_44 rfl ic_1 (by decide) rfl ?_
            refine g_goto (pc := 47) C 11 dX6_readInto_47 (by decide) ?_
            exact g_sub [2, 3, 0] rfl (ih s3 (x2 + 1) hf)
          · replace hf := (if_pos q4).symm.trans hf
            refine g_iload_n (pc := 42) C dX6_readInto_42 0 rfl rfl ?_
            cases hf
            exact g_iret (pc := 43) C hr dX6_readInto_43
  unfold f_X6_readInto at hf
  refine g_aload_n (pc := 0) C dX6_readInto_0 1 rfl rfl ?_
  obtain ⟨s5, h5, hf⟩ := bd_some hf
  refine g_cVv (pc := 1) C (st := []) jW.rf (c_X2_clear l D hw hk1 h5) y_X2_clear tw_223 rfl ⟨by decide, by decide⟩ ⟨Nat.zero_le _, Nat.zero_le _⟩ (Nat.le_of_ble_eq_true rfl) (wc_9 hk1) cl_X2 rfl dX6_readInto_1 rfl ?_
  refine g_aload_n (pc := 4) C dX6_readInto_4 0 rfl rfl ?_
  refine g_iconst (pc := 5) C dX6_readInto_5 ic_0 ?_
  refine g_put (pc := 6) C in_X6 tyX6 tyX6_ok nmX6 wc_1 cl_X6 2 (by decide) tw_32 rfl rfl rfl (Nat.le_of_ble_eq_true rfl) wp_1_2 dX6_readInto_6 ?_
  refine g_iconst (pc := 9) C dX6_readInto_9 ic_0 ?_
  refine g_istore_n (pc := 10) C [(2, .int 0), (0, .ref (a 1)), (1, .ref (a k1))] dX6_readInto_10 rfl (by decide) rfl ?_
  exact g_sub [1, 2, 0] rfl (b11 1000 (up s5 1 2 0) 0 hf)
