set_option maxHeartbeats 4000000 in
set_option maxRecDepth 100000 in
theorem c_X2_clear (l : Launch) (D : va_G) {cI cH cE cJ : ClassId} {a : Nat → Nat} (hw : ∀ σ, va_D (Pc a) (wc cI cH cE a σ)) {σ : Me} {k0 : Nat} (hk0 : kd k0 = 9) {σ' : Me}  (hf : f_X2_clear σ k0 = some σ') : Mq l D (tyc cI cH cE cJ) (wc cI cH cE a) (Pc a) yX2_clear cX2_clear 1 (Option.none : Option Jvm.ClassFile.FieldType) 0 [.ref (a k0)] σ (qV D (wc cI cH cE a) (Pc a) σ') := by
  refine mOf (plainFor_of_name (by decide)) hw (Nat.le_of_ble_eq_true rfl) [(0, .ref (a k0))] rfl ?_
  intro p e s m args below meth c C hr
  unfold f_X2_clear at hf
  refine g_aload_n (pc := 0) C dX2_clear_0 0 rfl rfl ?_
  refine g_iconst (pc := 1) C dX2_clear_1 ic_0 ?_
  refine g_put (pc := 2) C in_X2 tyX2 tyX2_ok nmX2 (wc_9 hk0) cl_X2 2 (by decide) tw_143 rfl rfl rfl (Nat.le_of_ble_eq_true rfl) (wp_9_2 hk0) dX2_clear_2 ?_
  refine g_aload_n (pc := 5) C dX2_clear_5 0 rfl rfl ?_
  refine g_iconst (pc := 6) C dX2_clear_6 ic_0 ?_
  refine g_put (pc := 7) C in_X2 tyX2 tyX2_ok nmX2 (wc_9 hk0) cl_X2 3 (by decide) tw_146 rfl rfl rfl (Nat.le_of_ble_eq_true rfl) (wp_9_3 hk0) dX2_clear_7 ?_
  refine g_aload_n (pc := 10) C dX2_clear_10 0 rfl rfl ?_
  refine g_bipush (pc := 11) C dX2_clear_11 bp_20 ?_
  refine g_put (pc := 13) C in_X2 tyX2 tyX2_ok nmX2 (wc_9 hk0) cl_X2 4 (by decide) tw_148 rfl rfl rfl (Nat.le_of_ble_eq_true rfl) (wp_9_4 hk0) dX2_clear_13 ?_
  cases hf
  exact g_vret (pc := 16) C hr dX2_clear_16

set_option maxHeartbeats 4000000 in
set_option maxRecDepth 100000 in
theorem c_X2_addPress (l : Launch) (D : va_G) {cI cH cE cJ : ClassId} {a : Nat → Nat} (hw : ∀ σ, va_D (Pc a) (wc cI cH cE a σ)) {σ : Me} {k0 : Nat} {x1 : Int32} (hk0 : kd k0 = 9) {σ' : Me} {r : Bool} (hf : f_X2_addPress σ k0 x1 = some (σ', r)) : Mq l D (tyc cI cH cE cJ) (wc cI cH cE a) (Pc a) yX2_addPress cX2_addPress 2 (Option.some Jvm.ClassFile.FieldType.boolean) 0 [.ref (a k0), .int x1] σ (qI D (wc cI cH cE a) (Pc a) σ' (bI r)) := by
  refine mOf (plainFor_of_name (by decide)) hw (Nat.le_of_ble_eq_true rfl) [(0, .ref (a k0)), (1, .int x1)] rfl ?_
  intro p e s m args below meth c C hr
  unfold f_X2_addPress at hf
  refine g_aload_n (pc := 0) C dX2_addPress_0 0 rfl rfl ?_
  refine g_get (pc := 1) C in_X2 (wc_9 hk0) cl_X2 2 (by decide) tw_143 rfl dX2_addPress_1 ?_
  refine g_iconst (pc := 4) C dX2_addPress_4 ic_4 ?_
  refine g_icmp_ge (pc := 5) C 15 dX2_addPress_5 (by decide) (fun q1 => ?_) (fun q1 => ?_)
  · replace hf := (if_pos q1).symm.trans hf
    refine g_iconst (pc := 15) C dX2_addPress_15 ic_0 ?_
    cases hf
    exact g_zret (pc := 16) (b := false) C hr dX2_addPress_16
  · replace hf := (if_neg q1).symm.trans hf
    refine g_aload_n (pc := 8) C dX2_addPress_8 0 rfl rfl ?_
    refine g_get (pc := 9) C in_X2 (wc_9 hk0) cl_X2 3 (by decide) tw_146 rfl dX2_addPress_9 ?_
    refine g_if_le (pc := 12) C 17 dX2_addPress_12 (by decide) (fun q2 => ?_) (fun q2 => ?_)
    · replace hf := (if_pos q2).symm.trans hf
      refine g_aload_n (pc := 17) C dX2_addPress_17 0 rfl rfl ?_
      refine g_get (pc := 18) C in_X2 (wc_9 hk0) cl_X2 0 (by decide) tw_140 rfl dX2_addPress_18 ?_
      refine g_aload_n (pc := 21) C dX2_addPress_21 0 rfl rfl ?_
      refine g_get (pc := 22) C in_X2 (wc_9 hk0) cl_X2 2 (by decide) tw_143 rfl dX2_addPress_22 ?_
      refine g_iload_n (pc := 25) C dX2_addPress_25 1 rfl rfl ?_
      obtain ⟨q3, hf⟩ := gd_some hf
      refine g_iast (pc := 26) C 0 (wc_10 (kd_9_1 hk0)) rfl q3 rfl (wa_10 (kd_9_1 hk0)) dX2_addPress_26 ?_
      refine g_aload_n (pc := 27) C dX2_addPress_27 0 rfl rfl ?_
      refine g_dup (pc := 28) C dX2_addPress_28 rfl ?_
      refine g_get (pc := 29) C in_X2 (wc_9 hk0) cl_X2 2 (by decide) tw_143 rfl dX2_addPress_29 ?_
      refine g_iconst (pc := 32) C dX2_addPress_32 ic_1 ?_
      refine g_iadd (pc := 33) C dX2_addPress_33 ?_
      refine g_put (pc := 34) C in_X2 tyX2 tyX2_ok nmX2 (wc_9 hk0) cl_X2 2 (by decide) tw_143 rfl rfl rfl (Nat.le_of_ble_eq_true rfl) (wp_9_2 hk0) dX2_addPress_34 ?_
      refine g_iconst (pc := 37) C dX2_addPress_37 ic_1 ?_
      cases hf
      exact g_zret (pc := 38) (b := true) C hr dX2_addPress_38
    · replace hf := (if_neg q2).symm.trans hf
      refine g_iconst (pc := 15) C dX2_addPress_15 ic_0 ?_
      cases hf
      exact g_zret (pc := 16) (b := false) C hr dX2_addPress_16

set_option maxHeartbeats 4000000 in
set_option maxRecDepth 100000 in
theorem c_X2_nextSeries (l : Launch) (D : va_G) {cI cH cE cJ : ClassId} {a : Nat → Nat} (hw : ∀ σ, va_D (Pc a) (wc cI cH cE a σ)) {σ : Me} {k0 : Nat} (hk0 : kd k0 = 9) {r : Option Nat} (hf : f_X2_nextSeries σ k0 = some r) : Mq l D (tyc cI cH cE cJ) (wc cI cH cE a) (Pc a) yX2_nextSeries cX2_nextSeries 1 (Option.some (Jvm.ClassFile.FieldType.object "NotePress$Series")) 0 [.ref (a k0)] σ (qE a D (wc cI cH cE a) (Pc a) σ r) := by
  refine mOf (plainFor_of_name (by decide)) hw (Nat.le_of_ble_eq_true rfl) [(0, .ref (a k0))] rfl ?_
  intro p e s m args below meth c C hr
  unfold f_X2_nextSeries at hf
  refine g_aload_n (pc := 0) C dX2_nextSeries_0 0 rfl rfl ?_
  refine g_get (pc := 1) C in_X2 (wc_9 hk0) cl_X2 3 (by decide) tw_146 rfl dX2_nextSeries_1 ?_
  refine g_iconst (pc := 4) C dX2_nextSeries_4 ic_3 ?_
  refine g_icmp_ge (pc := 5) C 20 dX2_nextSeries_5 (by decide) (fun q1 => ?_) (fun q1 => ?_)
  · replace hf := (if_pos q1).symm.trans hf
    refine g_null (pc := 20) C dX2_nextSeries_20 ?_
    cases hf
    exact g_eret (pc := 21) (a := a) (r := none) C hr dX2_nextSeries_21
  · replace hf := (if_neg q1).symm.trans hf
    refine g_aload_n (pc := 8) C dX2_nextSeries_8 0 rfl rfl ?_
    refine g_get (pc := 9) C in_X2 (wc_9 hk0) cl_X2 1 (by decide) tw_142 rfl dX2_nextSeries_9 ?_
    refine g_aload_n (pc := 12) C dX2_nextSeries_12 0 rfl rfl ?_
    refine g_get (pc := 13) C in_X2 (wc_9 hk0) cl_X2 3 (by decide) tw_146 rfl dX2_nextSeries_13 ?_
    obtain ⟨q2, hf⟩ := gd_some hf
    refine g_aald (pc := 16) C 2 (.ref (a ((k0 + 2) + 1 + 6 * (σ k0 3).toNatClampNeg))) (wc_11 (kd_9_2 hk0)) rfl q2 rfl dX2_nextSeries_16 ?_
    refine g_goto (pc := 17) C 21 dX2_nextSeries_17 (by decide) ?_
    cases hf
    exact g_eret (pc := 21) (a := a) (r := (some ((k0 + 2) + 1 + 6 * (σ k0 3).toNatClampNeg))) C hr dX2_nextSeries_21

set_option maxHeartbeats 4000000 in
set_option maxRecDepth 100000 in
theorem c_X2_keepNextSeries (l : Launch) (D : va_G) {cI cH cE cJ : ClassId} {a : Nat → Nat} (hw : ∀ σ, va_D (Pc a) (wc cI cH cE a σ)) {σ : Me} {k0 : Nat} (hk0 : kd k0 = 9) {σ' : Me}  (hf : f_X2_keepNextSeries σ k0 = some σ') : Mq l D (tyc cI cH cE cJ) (wc cI cH cE a) (Pc a) yX2_keepNextSeries cX2_keepNextSeries 1 (Option.none : Option Jvm.ClassFile.FieldType) 0 [.ref (a k0)] σ (qV D (wc cI cH cE a) (Pc a) σ') := by
  refine mOf (plainFor_of_name (by decide)) hw (Nat.le_of_ble_eq_true rfl) [(0, .ref (a k0))] rfl ?_
  intro p e s m args below meth c C hr
  unfold f_X2_keepNextSeries at hf
  refine g_aload_n (pc := 0) C dX2_keepNextSeries_0 0 rfl rfl ?_
  refine g_get (pc := 1) C in_X2 (wc_9 hk0) cl_X2 3 (by decide) tw_146 rfl dX2_keepNextSeries_1 ?_
  refine g_iconst (pc := 4) C dX2_keepNextSeries_4 ic_3 ?_
  refine g_icmp_ge (pc := 5) C 18 dX2_keepNextSeries_5 (by decide) (fun q1 => ?_) (fun q1 => ?_)
  · replace hf := (if_pos q1).symm.trans hf
    cases hf
    exact g_vret (pc := 18) C hr dX2_keepNextSeries_18
  · replace hf := (if_neg q1).symm.trans hf
    refine g_aload_n (pc := 8) C dX2_keepNextSeries_8 0 rfl rfl ?_
    refine g_dup (pc := 9) C dX2_keepNextSeries_9 rfl ?_
    refine g_get (pc := 10) C in_X2 (wc_9 hk0) cl_X2 3 (by decide) tw_146 rfl dX2_keepNextSeries_10 ?_
    refine g_iconst (pc := 13) C dX2_keepNextSeries_13 ic_1 ?_
    refine g_iadd (pc := 14) C dX2_keepNextSeries_14 ?_
    refine g_put (pc := 15) C in_X2 tyX2 tyX2_ok nmX2 (wc_9 hk0) cl_X2 3 (by decide) tw_146 rfl rfl rfl (Nat.le_of_ble_eq_true rfl) (wp_9_3 hk0) dX2_keepNextSeries_15 ?_
    cases hf
    exact g_vret (pc := 18) C hr dX2_keepNextSeries_18

set_option maxHeartbeats 4000000 in
set_option maxRecDepth 100000 in
theorem c_X2_seriesAt (l : Launch) (D : va_G) {cI cH cE cJ : ClassId} {a : Nat → Nat} (hw : ∀ σ, va_D (Pc a) (wc cI cH cE a σ)) {σ : Me} {k0 : Nat} {x1 : Int32} (hk0 : kd k0 = 9) {r : Option Nat} (hf : f_X2_seriesAt σ k0 x1 = some r) : Mq l D (tyc cI cH cE cJ) (wc cI cH cE a) (Pc a) yX2_seriesAt cX2_seriesAt 2 (Option.some (Jvm.ClassFile.FieldType.object "NotePress$Series")) 1 [.ref (a k0), .int x1] σ (qE a D (wc cI cH cE a) (Pc a) σ r) := by
  refine mOf (plainFor_of_name (by decide)) hw (Nat.le_of_ble_eq_true rfl) [(0, .ref (a k0)), (1, .int x1)] rfl ?_
  intro p e s m args below meth c C hr
  unfold f_X2_seriesAt at hf
  refine g_iload_n (pc := 0) C dX2_seriesAt_0 1 rfl rfl ?_
  refine g_iconst (pc := 1) C dX2_seriesAt_1 ic_0 ?_
  refine g_aload_n (pc := 2) C dX2_seriesAt_2 0 rfl rfl ?_
  refine g_get (pc := 3) C in_X2 (wc_9 hk0) cl_X2 3 (by decide) tw_146 rfl dX2_seriesAt_3 ?_
  refine g_iconst (pc := 6) C dX2_seriesAt_6 ic_1 ?_
  refine g_isub (pc := 7) C dX2_seriesAt_7 ?_
  obtain ⟨r1, h1, hf⟩ := bd_some hf
  refine g_cNi (pc := 8) C (st := []) jW.rf (c_X7_isFromTo l D hw h1) y_X7_isFromTo tn_26 rfl ⟨by decide, by decide⟩ ⟨Nat.zero_le _, Nat.zero_le _⟩ (Nat.le_of_ble_eq_true rfl) dX2_seriesAt_8 rfl ?_
  refine g_if_eq (pc := 11) C 23 dX2_seriesAt_11 (by decide) (fun q2 => ?_) (fun q2 => ?_)
  · replace hf := (if_pos q2).symm.trans hf
    refine g_null (pc := 23) C dX2_seriesAt_23 ?_
    cases hf
    exact g_eret (pc := 24) (a := a) (r := none) C hr dX2_seriesAt_24
  · replace hf := (if_neg q2).symm.trans hf
    refine g_aload_n (pc := 14) C dX2_seriesAt_14 0 rfl rfl ?_
    refine g_get (pc := 15) C in_X2 (wc_9 hk0) cl_X2 1 (by decide) tw_142 rfl dX2_seriesAt_15 ?_
    refine g_iload_n (pc := 18) C dX2_seriesAt_18 1 rfl rfl ?_
    obtain ⟨q3, hf⟩ := gd_some hf
    refine g_aald (pc := 19) C 2 (.ref (a ((k0 + 2) + 1 + 6 * x1.toNatClampNeg))) (wc_11 (kd_9_2 hk0)) rfl q3 rfl dX2_seriesAt_19 ?_
    refine g_goto (pc := 20) C 24 dX2_seriesAt_20 (by decide) ?_
    cases hf
    exact g_eret (pc := 24) (a := a) (r := (some ((k0 + 2) + 1 + 6 * x1.toNatClampNeg))) C hr dX2_seriesAt_24

set_option maxHeartbeats 4000000 in
set_option maxRecDepth 100000 in
theorem c_X3_shareAt (l : Launch) (D : va_G) {cI cH cE cJ : ClassId} {a : Nat → Nat} (hw : ∀ σ, va_D (Pc a) (wc cI cH cE a σ)) {σ : Me} {k0 : Nat} {x1 : Int32} (hk0 : kd k0 = 12) {r : Option Nat} (hf : f_X3_shareAt σ k0 x1 = some r) : Mq l D (tyc cI cH cE cJ) (wc cI cH cE a) (Pc a) yX3_shareAt cX3_shareAt 2 (Option.some (Jvm.ClassFile.FieldType.object "NotePress$Share")) 1 [.ref (a k0), .int x1] σ (qE a D (wc cI cH cE a) (Pc a) σ r) := by
  refine mOf (plainFor_of_name (by decide)) hw (Nat.le_of_ble_eq_true rfl) [(0, .ref (a k0)), (1, .int x1)] rfl ?_
  intro p e s m args below meth c C hr
  unfold f_X3_shareAt at hf
  refine g_iload_n (pc := 0) C dX3_shareAt_0 1 rfl rfl ?_
  refine g_iconst (pc := 1) C dX3_shareAt_1 ic_0 ?_
  refine g_aload_n (pc := 2) C dX3_shareAt_2 0 rfl rfl ?_
  refine g_get (pc := 3) C in_X3 (wc_12 hk0) cl_X3 1 (by decide) tw_120 rfl dX3_shareAt_3 ?_
  refine g_iconst (pc := 6) C dX3_shareAt_6 ic_1 ?_
  refine g_isub (pc := 7) C dX3_shareAt_7 ?_
  obtain ⟨r1, h1, hf⟩ := bd_some hf
  refine g_cNi (pc := 8) C (st := []) jW.rf (c_X7_isFromTo l D hw h1) y_X7_isFromTo tn_27 rfl ⟨by decide, by decide⟩ ⟨Nat.zero_le _, Nat.zero_le _⟩ (Nat.le_of_ble_eq_true rfl) dX3_shareAt_8 rfl ?_
  refine g_if_eq (pc := 11) C 23 dX3_shareAt_11 (by decide) (fun q2 => ?_) (fun q2 => ?_)
  · replace hf := (if_pos q2).symm.trans hf
    refine g_null (pc := 23) C dX3_shareAt_23 ?_
    cases hf
    exact g_eret (pc := 24) (a := a) (r := none) C hr dX3_shareAt_24
  · replace hf := (if_neg q2).symm.trans hf
    refine g_aload_n (pc := 14) C dX3_shareAt_14 0 rfl rfl ?_
    refine g_get (pc := 15) C in_X3 (wc_12 hk0) cl_X3 0 (by decide) tw_119 rfl dX3_shareAt_15 ?_
    refine g_iload_n (pc := 18) C dX3_shareAt_18 1 rfl rfl ?_
    obtain ⟨q3, hf⟩ := gd_some hf
    refine g_aald (pc := 19) C 1 (.ref (a ((k0 + 1) + 1 + x1.toNatClampNeg))) (wc_13 (kd_12_1 hk0)) rfl q3 rfl dX3_shareAt_19 ?_
    refine g_goto (pc := 20) C 24 dX3_shareAt_20 (by decide) ?_
    cases hf
    exact g_eret (pc := 24) (a := a) (r := (some ((k0 + 1) + 1 + x1.toNatClampNeg))) C hr dX3_shareAt_24

set_option maxHeartbeats 4000000 in
set_option maxRecDepth 100000 in
theorem c_X2_shareAt (l : Launch) (D : va_G) {cI cH cE cJ : ClassId} {a : Nat → Nat} (hw : ∀ σ, va_D (Pc a) (wc cI cH cE a σ)) {σ : Me} {k0 : Nat} {x1 : Int32} {x2 : Int32} (hk0 : kd k0 = 9) {r : Option Nat} (hf : f_X2_shareAt σ k0 x1 x2 = some r) : Mq l D (tyc cI cH cE cJ) (wc cI cH cE a) (Pc a) yX2_shareAt cX2_shareAt 4 (Option.some (Jvm.ClassFile.FieldType.object "NotePress$Share")) 2 [.ref (a k0), .int x1, .int x2] σ (qE a D (wc cI cH cE a) (Pc a) σ r) := by
  refine mOf (plainFor_of_name (by decide)) hw (Nat.le_of_ble_eq_true rfl) [(0, .ref (a k0)), (1, .int x1), (2, .int x2)] rfl ?_
  intro p e s m args below meth c C hr
  unfold f_X2_shareAt at hf
  refine g_aload_n (pc := 0) C dX2_shareAt_0 0 rfl rfl ?_
  refine g_iload_n (pc := 1) C dX2_shareAt_1 1 rfl rfl ?_
  obtain ⟨r1, h1, hf⟩ := bd_some hf
  refine g_cVe (pc := 2) C (st := []) jW.rf (c_X2_seriesAt l D hw hk0 h1) y_X2_seriesAt tw_347 rfl ⟨by decide, by decide⟩ ⟨Nat.zero_le _, Nat.zero_le _⟩ (Nat.le_of_ble_eq_true rfl) (wc_9 hk0) cl_X2 rfl dX2_shareAt_2 rfl ?_
  rcases r1 with _ | k901
  · replace hf := oc_n.symm.trans hf
    refine g_top (v1 := .null) rfl ?_
    refine g_astore_nN (pc := 5) C [(3, .null), (0, .ref (a k0)), (1, .int x1), (2, .int x2)] dX2_shareAt_5 rfl (by decide) rfl ?_
    refine g_aload_nN (pc := 6) C dX2_shareAt_6 0 rfl rfl ?_
    refine g_ifnonnullN (pc := 7) C dX2_shareAt_7 ?_
    refine g_null (pc := 10) C dX2_shareAt_10 ?_
    refine g_goto (pc := 11) C 19 dX2_shareAt_11 (by decide) ?_
    cases hf
    exact g_eret (pc := 19) (a := a) (r := none) C hr dX2_shareAt_19
  · replace hf := oc_s.symm.trans hf
    obtain ⟨hk901, hf⟩ := gd_some hf
    replace hk901 := of_decide_eq_true hk901
    refine g_top (v1 := .ref (a k901)) rfl ?_
    refine g_astore_n (pc := 5) C [(3, .ref (a k901)), (0, .ref (a k0)), (1, .int x1), (2, .int x2)] dX2_shareAt_5 rfl (by decide) rfl ?_
    refine g_aload_n (pc := 6) C dX2_shareAt_6 0 rfl rfl ?_
    refine g_ifnonnull (pc := 7) C 14 dX2_shareAt_7 (by decide) ?_
    refine g_aload_n (pc := 14) C dX2_shareAt_14 0 rfl rfl ?_
    refine g_iload_n (pc := 15) C dX2_shareAt_15 3 rfl rfl ?_
    obtain ⟨r2, h2, hf⟩ := bd_some hf
    refine g_cVe (pc := 16) C (st := []) jW.rf (c_X3_shareAt l D hw hk901 h2) y_X3_shareAt tw_352 rfl ⟨by decide, by decide⟩ ⟨Nat.zero_le _, Nat.zero_le _⟩ (Nat.le_of_ble_eq_true rfl) (wc_12 hk901) cl_X3 rfl dX2_shareAt_16 rfl ?_
    rcases r2 with _ | k902
    · replace hf := oc_n.symm.trans hf
      refine g_top (v1 := .null) rfl ?_
      cases hf
      exact g_eret (pc := 19) (a := a) (r := none) C hr dX2_shareAt_19
    · replace hf := oc_s.symm.trans hf
      obtain ⟨hk902, hf⟩ := gd_some hf
      replace hk902 := of_decide_eq_true hk902
      refine g_top (v1 := .ref (a k902)) rfl ?_
      cases hf
      exact g_eret (pc := 19) (a := a) (r := (some k902)) C hr dX2_shareAt_19

set_option maxHeartbeats 4000000 in
set_option maxRecDepth 100000 in
theorem c_X2_seriesOfLetter (l : Launch) (D : va_G) {cI cH cE cJ : ClassId} {a : Nat → Nat} (hw : ∀ σ, va_D (Pc a) (wc cI cH cE a σ)) {σ : Me} {k0 : Nat} {x1 : Int32} (hk0 : kd k0 = 9) {r : Int32} (hf : f_X2_seriesOfLetter σ k0 x1 = some r) : Mq l D (tyc cI cH cE cJ) (wc cI cH cE a) (Pc a) yX2_seriesOfLetter cX2_seriesOfLetter 3 (Option.some Jvm.ClassFile.FieldType.int) 0 [.ref (a k0), .int x1] σ (qI D (wc cI cH cE a) (Pc a) σ r) := by
  refine mOf (plainFor_of_name (by decide)) hw (Nat.le_of_ble_eq_true rfl) [(0, .ref (a k0)), (1, .int x1)] rfl ?_
  intro p e s m args below meth c C hr
  have b2 : ∀ (n : Nat) (x2 : Int32) (hf : f_X2_seriesOfLetter_2 n σ k0 x1 x2 = some r), Gg p l e (rmd 0) s m args below meth c D (Pc a) (wc cI cH cE a) 3 0 0 (MQ below ((qI D (wc cI cH cE a) (Pc a) σ r) s.heap.size) args s 0 0 (fR (Pc a) s.heap.size)) σ [(0, .ref (a k0)), (1, .int x1), (2, .int x2)] 2 [] := by
    intro n
    induction n with
    | zero => intro x2 hf; exact absurd hf (by simp [f_X2_seriesOfLetter_2])
    | succ n ih =>
      intro x2 hf
      rw [f_X2_seriesOfLetter_2] at hf
      refine g_iload_n (pc := 2) C dX2_seriesOfLetter_2 2 rfl rfl ?_
      refine g_aload_n (pc := 3) C dX2_seriesOfLetter_3 0 rfl rfl ?_
      refine g_get (pc := 4) C in_X2 (wc_9 hk0) cl_X2 3 (by decide) tw_146 rfl dX2_seriesOfLetter_4 ?_
      refine g_icmp_ge (pc := 7) C 31 dX2_seriesOfLetter_7 (by decide) (fun q1 => ?_) (fun q1 => ?_)
      · replace hf := (if_pos q1).symm.trans hf
        refine g_bipush (pc := 31) C dX2_seriesOfLetter_31 bp_m4 ?_
        cases hf
        exact g_iret (pc := 33) C hr dX2_seriesOfLetter_33
      · replace hf := (if_neg q1).symm.trans hf
        refine g_aload_n (pc := 10) C dX2_seriesOfLetter_10 0 rfl rfl ?_
        refine g_get (pc := 11) C in_X2 (wc_9 hk0) cl_X2 1 (by decide) tw_142 rfl dX2_seriesOfLetter_11 ?_
        refine g_iload_n (pc := 14) C dX2_seriesOfLetter_14 2 rfl rfl ?_
        obtain ⟨q2, hf⟩ := gd_some hf
        refine g_aald (pc := 15) C 2 (.ref (a ((k0 + 2) + 1 + 6 * x2.toNatClampNeg))) (wc_11 (kd_9_2 hk0)) rfl q2 rfl dX2_seriesOfLetter_15 ?_
        refine g_getN (pc := 16) C in_X3 (wc_12 (kd_11_s (kd_9_2 hk0) (inb_lt q2))) cl_X3 2 (by decide) tn_14 rfl dX2_seriesOfLetter_16 ?_
        refine g_iload_n (pc := 19) C dX2_seriesOfLetter_19 1 rfl rfl ?_
        refine g_icmp_ne (pc := 20) C 25 dX2_seriesOfLetter_20 (by decide) (fun q3 => ?_) (fun q3 => ?_)
        · replace hf := (if_neg q3).symm.trans hf
          refine g_iinc (pc := 25) C [(2, .int (x2 + 1)), (0, .ref (a k0)), (1, .int x1)] 2 dX2_seriesOfLetter_25 rfl ic_1 (by decide) rfl ?_
          refine g_goto (pc := 28) C 2 dX2_seriesOfLetter_28 (by decide) ?_
          exact g_sub [1, 2, 0] rfl (ih (x2 + 1) hf)
        · replace hf := (if_pos q3).symm.trans hf
          refine g_iload_n (pc := 23) C dX2_seriesOfLetter_23 2 rfl rfl ?_
          cases hf
          exact g_iret (pc := 24) C hr dX2_seriesOfLetter_24
  unfold f_X2_seriesOfLetter at hf
  refine g_iconst (pc := 0) C dX2_seriesOfLetter_0 ic_0 ?_
  refine g_istore_n (pc := 1) C [(2, .int 0), (0, .ref (a k0)), (1, .int x1)] dX2_seriesOfLetter_1 rfl (by decide) rfl ?_
  exact g_sub [1, 2, 0] rfl (b2 1000 0 hf)

set_option maxHeartbeats 4000000 in
set_option maxRecDepth 100000 in
theorem c_X3_notesPrinted (l : Launch) (D : va_G) {cI cH cE cJ : ClassId} {a : Nat → Nat} (hw : ∀ σ, va_D (Pc a) (wc cI cH cE a σ)) {σ : Me} {k0 : Nat} (hk0 : kd k0 = 12) {r : Int32} (hf : f_X3_notesPrinted σ k0 = some r) : Mq l D (tyc cI cH cE cJ) (wc cI cH cE a) (Pc a) yX3_notesPrinted cX3_notesPrinted 3 (Option.some Jvm.ClassFile.FieldType.int) 0 [.ref (a k0)] σ (qI D (wc cI cH cE a) (Pc a) σ r) := by
  refine mOf (plainFor_of_name (by decide)) hw (Nat.le_of_ble_eq_true rfl) [(0, .ref (a k0))] rfl ?_
  intro p e s m args below meth c C hr
  have b4 : ∀ (n : Nat) (x1 : Int32) (x2 : Int32) (hf : f_X3_notesPrinted_4 n σ k0 x1 x2 = some r), Gg p l e (rmd 0) s m args below meth c D (Pc a) (wc cI cH cE a) 3 0 0 (MQ below ((qI D (wc cI cH cE a) (Pc a) σ r) s.heap.size) args s 0 0 (fR (Pc a) s.heap.size)) σ [(0, .ref (a k0)), (1, .int x1), (2, .int x2)] 4 [] := by
    intro n
    induction n with
    | zero => intro x1 x2 hf; exact absurd hf (by simp [f_X3_notesPrinted_4])
    | succ n ih =>
      intro x1 x2 hf
      rw [f_X3_notesPrinted_4] at hf
      refine g_iload_n (pc := 4) C dX3_notesPrinted_4 2 rfl rfl ?_
      refine g_aload_n (pc := 5) C dX3_notesPrinted_5 0 rfl rfl ?_
      refine g_get (pc := 6) C in_X3 (wc_12 hk0) cl_X3 1 (by decide) tw_120 rfl dX3_notesPrinted_6 ?_
      refine g_icmp_ge (pc := 9) C 40 dX3_notesPrinted_9 (by decide) (fun q1 => ?_) (fun q1 => ?_)
      · replace hf := (if_pos q1).symm.trans hf
        refine g_iload_n (pc := 40) C dX3_notesPrinted_40 1 rfl rfl ?_
        cases hf
        exact g_iret (pc := 41) C hr dX3_notesPrinted_41
      · replace hf := (if_neg q1).symm.trans hf
        refine g_iload_n (pc := 12) C dX3_notesPrinted_12 1 rfl rfl ?_
        refine g_aload_n (pc := 13) C dX3_notesPrinted_13 0 rfl rfl ?_
        refine g_get (pc := 14) C in_X3 (wc_12 hk0) cl_X3 0 (by decide) tw_119 rfl dX3_notesPrinted_14 ?_
        refine g_iload_n (pc := 17) C dX3_notesPrinted_17 2 rfl rfl ?_
        obtain ⟨q2, hf⟩ := gd_some hf
        refine g_aald (pc := 18) C 1 (.ref (a ((k0 + 1) + 1 + x2.toNatClampNeg))) (wc_13 (kd_12_1 hk0)) rfl q2 rfl dX3_notesPrinted_18 ?_
        refine g_getN (pc := 19) C in_X4 (wc_14 (kd_13_s (kd_12_1 hk0) (inb_lt q2))) cl_X4 3 (by decide) tn_13 rfl dX3_notesPrinted_19 ?_
        refine g_aload_n (pc := 22) C dX3_notesPrinted_22 0 rfl rfl ?_
        refine g_get (pc := 23) C in_X3 (wc_12 hk0) cl_X3 0 (by decide) tw_119 rfl dX3_notesPrinted_23 ?_
        refine g_iload_n (pc := 26) C dX3_notesPrinted_26 2 rfl rfl ?_
        obtain ⟨q3, hf⟩ := gd_some hf
        refine g_aald (pc := 27) C 1 (.ref (a ((k0 + 1) + 1 + x2.toNatClampNeg))) (wc_13 (kd_12_1 hk0)) rfl q3 rfl dX3_notesPrinted_27 ?_
        refine g_getN (pc := 28) C in_X4 (wc_14 (kd_13_s (kd_12_1 hk0) (inb_lt q3))) cl_X4 0 (by decide) tn_9 rfl dX3_notesPrinted_28 ?_
        refine g_imul (pc := 31) C dX3_notesPrinted_31 ?_
        refine g_iadd (pc := 32) C dX3_notesPrinted_32 ?_
        refine g_istore_n (pc := 33) C [(1, .int (x1 + ((σ ((k0 + 1) + 1 + x2.toNatClampNeg) 3) * (σ ((k0 + 1) + 1 + x2.toNatClampNeg) 0)))), (0, .ref (a k0)), (2, .int x2)] dX3_notesPrinted_33 rfl (by decide) rfl ?_
        refine g_iinc (pc := 34) C [(2, .int (x2 + 1)), (1, .int (x1 + ((σ ((k0 + 1) + 1 + x2.toNatClampNeg) 3) * (σ ((k0 + 1) + 1 + x2.toNatClampNeg) 0)))), (0, .ref (a k0))] 2 dX3_notesPrinted_34 rfl ic_1 (by decide) rfl ?_
        refine g_goto (pc := 37) C 4 dX3_notesPrinted_37 (by decide) ?_
        exact g_sub [2, 1, 0] rfl (ih (x1 + ((σ ((k0 + 1) + 1 + x2.toNatClampNeg) 3) * (σ ((k0 + 1) + 1 + x2.toNatClampNeg) 0))) (x2 + 1) hf)
  unfold f_X3_notesPrinted at hf
  refine g_iconst (pc := 0) C dX3_notesPrinted_0 ic_0 ?_
  refine g_istore_n (pc := 1) C [(1, .int 0), (0, .ref (a k0))] dX3_notesPrinted_1 rfl (by decide) rfl ?_
  refine g_iconst (pc := 2) C dX3_notesPrinted_2 ic_0 ?_
  refine g_istore_n (pc := 3) C [(2, .int 0), (1, .int 0), (0, .ref (a k0))] dX3_notesPrinted_3 rfl (by decide) rfl ?_
  exact g_sub [2, 1, 0] rfl (b4 1000 0 0 hf)

set_option maxHeartbeats 4000000 in
set_option maxRecDepth 100000 in
theorem c_X2_notesPrinted (l : Launch) (D : va_G) {cI cH cE cJ : ClassId} {a : Nat → Nat} (hw : ∀ σ, va_D (Pc a) (wc cI cH cE a σ)) {σ : Me} {k0 : Nat} (hk0 : kd k0 = 9) {r : Int32} (hf : f_X2_notesPrinted σ k0 = some r) : Mq l D (tyc cI cH cE cJ) (wc cI cH cE a) (Pc a) yX2_notesPrinted cX2_notesPrinted 3 (Option.some Jvm.ClassFile.FieldType.int) 1 [.ref (a k0)] σ (qI D (wc cI cH cE a) (Pc a) σ r) := by
  refine mOf (plainFor_of_name (by decide)) hw (Nat.le_of_ble_eq_true rfl) [(0, .ref (a k0))] rfl ?_
  intro p e s m args below meth c C hr
  have b4 : ∀ (n : Nat) (x1 : Int32) (x2 : Int32) (hf : f_X2_notesPrinted_4 n σ k0 x1 x2 = some r), Gg p l e (rmd 1) s m args below meth c D (Pc a) (wc cI cH cE a) 3 0 0 (MQ below ((qI D (wc cI cH cE a) (Pc a) σ r) s.heap.size) args s 0 0 (fR (Pc a) s.heap.size)) σ [(0, .ref (a k0)), (1, .int x1), (2, .int x2)] 4 [] := by
    intro n
    induction n with
    | zero => intro x1 x2 hf; exact absurd hf (by simp [f_X2_notesPrinted_4])
    | succ n ih =>
      intro x1 x2 hf
      rw [f_X2_notesPrinted_4] at hf
      refine g_iload_n (pc := 4) C dX2_notesPrinted_4 2 rfl rfl ?_
      refine g_aload_n (pc := 5) C dX2_notesPrinted_5 0 rfl rfl ?_
      refine g_get (pc := 6) C in_X2 (wc_9 hk0) cl_X2 3 (by decide) tw_146 rfl dX2_notesPrinted_6 ?_
      refine g_icmp_ge (pc := 9) C 30 dX2_notesPrinted_9 (by decide) (fun q1 => ?_) (fun q1 => ?_)
      · replace hf := (if_pos q1).symm.trans hf
        refine g_iload_n (pc := 30) C dX2_notesPrinted_30 1 rfl rfl ?_
        cases hf
        exact g_iret (pc := 31) C hr dX2_notesPrinted_31
      · replace hf := (if_neg q1).symm.trans hf
        refine g_iload_n (pc := 12) C dX2_notesPrinted_12 1 rfl rfl ?_
        refine g_aload_n (pc := 13) C dX2_notesPrinted_13 0 rfl rfl ?_
        refine g_get (pc := 14) C in_X2 (wc_9 hk0) cl_X2 1 (by decide) tw_142 rfl dX2_notesPrinted_14 ?_
        refine g_iload_n (pc := 17) C dX2_notesPrinted_17 2 rfl rfl ?_
        obtain ⟨q2, hf⟩ := gd_some hf
        refine g_aald (pc := 18) C 2 (.ref (a ((k0 + 2) + 1 + 6 * x2.toNatClampNeg))) (wc_11 (kd_9_2 hk0)) rfl q2 rfl dX2_notesPrinted_18 ?_
        obtain ⟨r3, h3, hf⟩ := bd_some hf
        refine g_cVi (pc := 19) C (st := [.int x1]) jW.rf (c_X3_notesPrinted l D hw (kd_11_s (kd_9_2 hk0) (inb_lt q2)) h3) y_X3_notesPrinted tw_598 rfl ⟨by decide, by decide⟩ ⟨Nat.zero_le _, Nat.zero_le _⟩ (Nat.le_of_ble_eq_true rfl) (wc_12 (kd_11_s (kd_9_2 hk0) (inb_lt q2))) cl_X3 rfl dX2_notesPrinted_19 rfl ?_
        refine g_iadd (pc := 22) C dX2_notesPrinted_22 ?_
        refine g_istore_n (pc := 23) C [(1, .int (x1 + r3)), (0, .ref (a k0)), (2, .int x2)] dX2_notesPrinted_23 rfl (by decide) rfl ?_
        refine g_iinc (pc := 24) C [(2, .int (x2 + 1)), (1, .int (x1 + r3)), (0, .ref (a k0))] 2 dX2_notesPrinted_24 rfl ic_1 (by decide) rfl ?_
        refine g_goto (pc := 27) C 4 dX2_notesPrinted_27 (by decide) ?_
        exact g_sub [2, 1, 0] rfl (ih (x1 + r3) (x2 + 1) hf)
  unfold f_X2_notesPrinted at hf
  refine g_iconst (pc := 0) C dX2_notesPrinted_0 ic_0 ?_
  refine g_istore_n (pc := 1) C [(1, .int 0), (0, .ref (a k0))] dX2_notesPrinted_1 rfl (by decide) rfl ?_
  refine g_iconst (pc := 2) C dX2_notesPrinted_2 ic_0 ?_
  refine g_istore_n (pc := 3) C [(2, .int 0), (1, .int 0), (0, .ref (a k0))] dX2_notesPrinted_3 rfl (by decide) rfl ?_
  exact g_sub [2, 1, 0] rfl (b4 1000 0 0 hf)

set_option maxHeartbeats 4000000 in
set_option maxRecDepth 100000 in
theorem c_X3_sheetsRun (l : Launch) (D : va_G) {cI cH cE cJ : ClassId} {a : Nat → Nat} (hw : ∀ σ, va_D (Pc a) (wc cI cH cE a σ)) {σ : Me} {k0 : Nat} (hk0 : kd k0 = 12) {r : Int32} (hf : f_X3_sheetsRun σ k0 = some r) : Mq l D (tyc cI cH cE cJ) (wc cI cH cE a) (Pc a) yX3_sheetsRun cX3_sheetsRun 3 (Option.some Jvm.ClassFile.FieldType.int) 0 [.ref (a k0)] σ (qI D (wc cI cH cE a) (Pc a) σ r) := by
  refine mOf (plainFor_of_name (by decide)) hw (Nat.le_of_ble_eq_true rfl) [(0, .ref (a k0))] rfl ?_
  intro p e s m args below meth c C hr
  have b4 : ∀ (n : Nat) (x1 : Int32) (x2 : Int32) (hf : f_X3_sheetsRun_4 n σ k0 x1 x2 = some r), Gg p l e (rmd 0) s m args below meth c D (Pc a) (wc cI cH cE a) 3 0 0 (MQ below ((qI D (wc cI cH cE a) (Pc a) σ r) s.heap.size) args s 0 0 (fR (Pc a) s.heap.size)) σ [(0, .ref (a k0)), (1, .int x1), (2, .int x2)] 4 [] := by
    intro n
    induction n with
    | zero => intro x1 x2 hf; exact absurd hf (by simp [f_X3_sheetsRun_4])
    | succ n ih =>
      intro x1 x2 hf
      rw [f_X3_sheetsRun_4] at hf
      refine g_iload_n (pc := 4) C dX3_sheetsRun_4 2 rfl rfl ?_
      refine g_aload_n (pc := 5) C dX3_sheetsRun_5 0 rfl rfl ?_
      refine g_get (pc := 6) C in_X3 (wc_12 hk0) cl_X3 1 (by decide) tw_120 rfl dX3_sheetsRun_6 ?_
      refine g_icmp_ge (pc := 9) C 30 dX3_sheetsRun_9 (by decide) (fun q1 => ?_) (fun q1 => ?_)
      · replace hf := (if_pos q1).symm.trans hf
        refine g_iload_n (pc := 30) C dX3_sheetsRun_30 1 rfl rfl ?_
        cases hf
        exact g_iret (pc := 31) C hr dX3_sheetsRun_31
      · replace hf := (if_neg q1).symm.trans hf
        refine g_iload_n (pc := 12) C dX3_sheetsRun_12 1 rfl rfl ?_
        refine g_aload_n (pc := 13) C dX3_sheetsRun_13 0 rfl rfl ?_
        refine g_get (pc := 14) C in_X3 (wc_12 hk0) cl_X3 0 (by decide) tw_119 rfl dX3_sheetsRun_14 ?_
        refine g_iload_n (pc := 17) C dX3_sheetsRun_17 2 rfl rfl ?_
        obtain ⟨q2, hf⟩ := gd_some hf
        refine g_aald (pc := 18) C 1 (.ref (a ((k0 + 1) + 1 + x2.toNatClampNeg))) (wc_13 (kd_12_1 hk0)) rfl q2 rfl dX3_sheetsRun_18 ?_
        refine g_getN (pc := 19) C in_X4 (wc_14 (kd_13_s (kd_12_1 hk0) (inb_lt q2))) cl_X4 3 (by decide) tn_13 rfl dX3_sheetsRun_19 ?_
        refine g_iadd (pc := 22) C dX3_sheetsRun_22 ?_
        refine g_istore_n (pc := 23) C [(1, .int (x1 + (σ ((k0 + 1) + 1 + x2.toNatClampNeg) 3))), (0, .ref (a k0)), (2, .int x2)] dX3_sheetsRun_23 rfl (by decide) rfl ?_
        refine g_iinc (pc := 24) C [(2, .int (x2 + 1)), (1, .int (x1 + (σ ((k0 + 1) + 1 + x2.toNatClampNeg) 3))), (0, .ref (a k0))] 2 dX3_sheetsRun_24 rfl ic_1 (by decide) rfl ?_
        refine g_goto (pc := 27) C 4 dX3_sheetsRun_27 (by decide) ?_
        exact g_sub [2, 1, 0] rfl (ih (x1 + (σ ((k0 + 1) + 1 + x2.toNatClampNeg) 3)) (x2 + 1) hf)
  unfold f_X3_sheetsRun at hf
  refine g_iconst (pc := 0) C dX3_sheetsRun_0 ic_0 ?_
  refine g_istore_n (pc := 1) C [(1, .int 0), (0, .ref (a k0))] dX3_sheetsRun_1 rfl (by decide) rfl ?_
  refine g_iconst (pc := 2) C dX3_sheetsRun_2 ic_0 ?_
  refine g_istore_n (pc := 3) C [(2, .int 0), (1, .int 0), (0, .ref (a k0))] dX3_sheetsRun_3 rfl (by decide) rfl ?_
  exact g_sub [2, 1, 0] rfl (b4 1000 0 0 hf)

set_option maxHeartbeats 4000000 in
set_option maxRecDepth 100000 in
theorem c_X2_sheetsRun (l : Launch) (D : va_G) {cI cH cE cJ : ClassId} {a : Nat → Nat} (hw : ∀ σ, va_D (Pc a) (wc cI cH cE a σ)) {σ : Me} {k0 : Nat} (hk0 : kd k0 = 9) {r : Int32} (hf : f_X2_sheetsRun σ k0 = some r) : Mq l D (tyc cI cH cE cJ) (wc cI cH cE a) (Pc a) yX2_sheetsRun cX2_sheetsRun 3 (Option.some Jvm.ClassFile.FieldType.int) 1 [.ref (a k0)] σ (qI D (wc cI cH cE a) (Pc a) σ r) := by
  refine mOf (plainFor_of_name (by decide)) hw (Nat.le_of_ble_eq_true rfl) [(0, .ref (a k0))] rfl ?_
  intro p e s m args below meth c C hr
  have b4 : ∀ (n : Nat) (x1 : Int32) (x2 : Int32) (hf : f_X2_sheetsRun_4 n σ k0 x1 x2 = some r), Gg p l e (rmd 1) s m args below meth c D (Pc a) (wc cI cH cE a) 3 0 0 (MQ below ((qI D (wc cI cH cE a) (Pc a) σ r) s.heap.size) args s 0 0 (fR (Pc a) s.heap.size)) σ [(0, .ref (a k0)), (1, .int x1), (2, .int x2)] 4 [] := by
    intro n
    induction n with
    | zero => intro x1 x2 hf; exact absurd hf (by simp [f_X2_sheetsRun_4])
    | succ n ih =>
      intro x1 x2 hf
      rw [f_X2_sheetsRun_4] at hf
      refine g_iload_n (pc := 4) C dX2_sheetsRun_4 2 rfl rfl ?_
      refine g_aload_n (pc := 5) C dX2_sheetsRun_5 0 rfl rfl ?_
      refine g_get (pc := 6) C in_X2 (wc_9 hk0) cl_X2 3 (by decide) tw_146 rfl dX2_sheetsRun_6 ?_
      refine g_icmp_ge (pc := 9) C 30 dX2_sheetsRun_9 (by decide) (fun q1 => ?_) (fun q1 => ?_)
      · replace hf := (if_pos q1).symm.trans hf
        refine g_iload_n (pc := 30) C dX2_sheetsRun_30 1 rfl rfl ?_
        cases hf
        exact g_iret (pc := 31) C hr dX2_sheetsRun_31
      · replace hf := (if_neg q1).symm.trans hf
        refine g_iload_n (pc := 12) C dX2_sheetsRun_12 1 rfl rfl ?_
        refine g_aload_n (pc := 13) C dX2_sheetsRun_13 0 rfl rfl ?_
        refine g_get (pc := 14) C in_X2 (wc_9 hk0) cl_X2 1 (by decide) tw_142 rfl dX2_sheetsRun_14 ?_
        refine g_iload_n (pc := 17) C dX2_sheetsRun_17 2 rfl rfl ?_
        obtain ⟨q2, hf⟩ := gd_some hf
        refine g_aald (pc := 18) C 2 (.ref (a ((k0 + 2) + 1 + 6 * x2.toNatClampNeg))) (wc_11 (kd_9_2 hk0)) rfl q2 rfl dX2_sheetsRun_18 ?_
        obtain ⟨r3, h3, hf⟩ := bd_some hf
        refine g_cVi (pc := 19) C (st := [.int x1]) jW.rf (c_X3_sheetsRun l D hw (kd_11_s (kd_9_2 hk0) (inb_lt q2)) h3) y_X3_sheetsRun tw_603 rfl ⟨by decide, by decide⟩ ⟨Nat.zero_le _, Nat.zero_le _⟩ (Nat.le_of_ble_eq_true rfl) (wc_12 (kd_11_s (kd_9_2 hk0) (inb_lt q2))) cl_X3 rfl dX2_sheetsRun_19 rfl ?_
        refine g_iadd (pc := 22) C dX2_sheetsRun_22 ?_
        refine g_istore_n (pc := 23) C [(1, .int (x1 + r3)), (0, .ref (a k0)), (2, .int x2)] dX2_sheetsRun_23 rfl (by decide) rfl ?_
        refine g_iinc (pc := 24) C [(2, .int (x2 + 1)), (1, .int (x1 + r3)), (0, .ref (a k0))] 2 dX2_sheetsRun_24 rfl ic_1 (by decide) rfl ?_
        refine g_goto (pc := 27) C 4 dX2_sheetsRun_27 (by decide) ?_
        exact g_sub [2, 1, 0] rfl (ih (x1 + r3) (x2 + 1) hf)
  unfold f_X2_sheetsRun at hf
  refine g_iconst (pc := 0) C dX2_sheetsRun_0 ic_0 ?_
  refine g_istore_n (pc := 1) C [(1, .int 0), (0, .ref (a k0))] dX2_sheetsRun_1 rfl (by decide) rfl ?_
  refine g_iconst (pc := 2) C dX2_sheetsRun_2 ic_0 ?_
  refine g_istore_n (pc := 3) C [(2, .int 0), (1, .int 0), (0, .ref (a k0))] dX2_sheetsRun_3 rfl (by decide) rfl ?_
  exact g_sub [2, 1, 0] rfl (b4 1000 0 0 hf)

set_option maxHeartbeats 4000000 in
set_option maxRecDepth 100000 in
theorem c_X4_hasNumber (l : Launch) (D : va_G) {cI cH cE cJ : ClassId} {a : Nat → Nat} (hw : ∀ σ, va_D (Pc a) (wc cI cH cE a σ)) {σ : Me} {k0 : Nat} {x1 : Int32} (hk0 : kd k0 = 14) {r : Bool} (hf : f_X4_hasNumber σ k0 x1 = some r) : Mq l D (tyc cI cH cE cJ) (wc cI cH cE a) (Pc a) yX4_hasNumber cX4_hasNumber 2 (Option.some Jvm.ClassFile.FieldType.boolean) 0 [.ref (a k0), .int x1] σ (qI D (wc cI cH cE a) (Pc a) σ (bI r)) := by
  refine mOf (plainFor_of_name (by decide)) hw (Nat.le_of_ble_eq_true rfl) [(0, .ref (a k0)), (1, .int x1)] rfl ?_
  intro p e s m args below meth c C hr
  unfold f_X4_hasNumber at hf
  refine g_iload_n (pc := 0) C dX4_hasNumber_0 1 rfl rfl ?_
  refine g_aload_n (pc := 1) C dX4_hasNumber_1 0 rfl rfl ?_
  refine g_get (pc := 2) C in_X4 (wc_14 hk0) cl_X4 2 (by decide) tw_105 rfl dX4_hasNumber_2 ?_
  refine g_icmp_lt (pc := 5) C 30 dX4_hasNumber_5 (by decide) (fun q1 => ?_) (fun q1 => ?_)
  · replace hf := (if_pos q1).symm.trans hf
    refine g_iconst (pc := 30) C dX4_hasNumber_30 ic_0 ?_
    cases hf
    exact g_zret (pc := 31) (b := false) C hr dX4_hasNumber_31
  · replace hf := (if_neg q1).symm.trans hf
    refine g_iload_n (pc := 8) C dX4_hasNumber_8 1 rfl rfl ?_
    refine g_aload_n (pc := 9) C dX4_hasNumber_9 0 rfl rfl ?_
    refine g_get (pc := 10) C in_X4 (wc_14 hk0) cl_X4 2 (by decide) tw_105 rfl dX4_hasNumber_10 ?_
    refine g_aload_n (pc := 13) C dX4_hasNumber_13 0 rfl rfl ?_
    refine g_get (pc := 14) C in_X4 (wc_14 hk0) cl_X4 0 (by decide) tw_100 rfl dX4_hasNumber_14 ?_
    refine g_aload_n (pc := 17) C dX4_hasNumber_17 0 rfl rfl ?_
    refine g_get (pc := 18) C in_X4 (wc_14 hk0) cl_X4 1 (by decide) tw_103 rfl dX4_hasNumber_18 ?_
    refine g_imul (pc := 21) C dX4_hasNumber_21 ?_
    refine g_iadd (pc := 22) C dX4_hasNumber_22 ?_
    refine g_icmp_ge (pc := 23) C 30 dX4_hasNumber_23 (by decide) (fun q2 => ?_) (fun q2 => ?_)
    · replace hf := (if_pos q2).symm.trans hf
      refine g_iconst (pc := 30) C dX4_hasNumber_30 ic_0 ?_
      cases hf
      exact g_zret (pc := 31) (b := false) C hr dX4_hasNumber_31
    · replace hf := (if_neg q2).symm.trans hf
      refine g_iconst (pc := 26) C dX4_hasNumber_26 ic_1 ?_
      refine g_goto (pc := 27) C 31 dX4_hasNumber_27 (by decide) ?_
      cases hf
      exact g_zret (pc := 31) (b := true) C hr dX4_hasNumber_31

set_option maxHeartbeats 4000000 in
set_option maxRecDepth 100000 in
theorem c_X3_pressOf (l : Launch) (D : va_G) {cI cH cE cJ : ClassId} {a : Nat → Nat} (hw : ∀ σ, va_D (Pc a) (wc cI cH cE a σ)) {σ : Me} {k0 : Nat} {x1 : Int32} (hk0 : kd k0 = 12) {r : Int32} (hf : f_X3_pressOf σ k0 x1 = some r) : Mq l D (tyc cI cH cE cJ) (wc cI cH cE a) (Pc a) yX3_pressOf cX3_pressOf 3 (Option.some Jvm.ClassFile.FieldType.int) 1 [.ref (a k0), .int x1] σ (qI D (wc cI cH cE a) (Pc a) σ r) := by
  refine mOf (plainFor_of_name (by decide)) hw (Nat.le_of_ble_eq_true rfl) [(0, .ref (a k0)), (1, .int x1)] rfl ?_
  intro p e s m args below meth c C hr
  have b2 : ∀ (n : Nat) (x2 : Int32) (hf : f_X3_pressOf_2 n σ k0 x1 x2 = some r), Gg p l e (rmd 1) s m args below meth c D (Pc a) (wc cI cH cE a) 3 0 0 (MQ below ((qI D (wc cI cH cE a) (Pc a) σ r) s.heap.size) args s 0 0 (fR (Pc a) s.heap.size)) σ [(0, .ref (a k0)), (1, .int x1), (2, .int x2)] 2 [] := by
    intro n
    induction n with
    | zero => intro x2 hf; exact absurd hf (by simp [f_X3_pressOf_2])
    | succ n ih =>
      intro x2 hf
      rw [f_X3_pressOf_2] at hf
      refine g_iload_n (pc := 2) C dX3_pressOf_2 2 rfl rfl ?_
      refine g_aload_n (pc := 3) C dX3_pressOf_3 0 rfl rfl ?_
      refine g_get (pc := 4) C in_X3 (wc_12 hk0) cl_X3 1 (by decide) tw_120 rfl dX3_pressOf_4 ?_
      refine g_icmp_ge (pc := 7) C 31 dX3_pressOf_7 (by decide) (fun q1 => ?_) (fun q1 => ?_)
      · replace hf := (if_pos q1).symm.trans hf
        refine g_bipush (pc := 31) C dX3_pressOf_31 bp_m4 ?_
        cases hf
        exact g_iret (pc := 33) C hr dX3_pressOf_33
      · replace hf := (if_neg q1).symm.trans hf
        refine g_aload_n (pc := 10) C dX3_pressOf_10 0 rfl rfl ?_
        refine g_get (pc := 11) C in_X3 (wc_12 hk0) cl_X3 0 (by decide) tw_119 rfl dX3_pressOf_11 ?_
        refine g_iload_n (pc := 14) C dX3_pressOf_14 2 rfl rfl ?_
        obtain ⟨q2, hf⟩ := gd_some hf
        refine g_aald (pc := 15) C 1 (.ref (a ((k0 + 1) + 1 + x2.toNatClampNeg))) (wc_13 (kd_12_1 hk0)) rfl q2 rfl dX3_pressOf_15 ?_
        refine g_iload_n (pc := 16) C dX3_pressOf_16 1 rfl rfl ?_
        obtain ⟨r3, h3, hf⟩ := bd_some hf
        refine g_cVi (pc := 17) C (st := []) jW.rf (c_X4_hasNumber l D hw (kd_13_s (kd_12_1 hk0) (inb_lt q2)) h3) y_X4_hasNumber tw_390 rfl ⟨by decide, by decide⟩ ⟨Nat.zero_le _, Nat.zero_le _⟩ (Nat.le_of_ble_eq_true rfl) (wc_14 (kd_13_s (kd_12_1 hk0) (inb_lt q2))) cl_X4 rfl dX3_pressOf_17 rfl ?_
        refine g_if_eq (pc := 20) C 25 dX3_pressOf_20 (by decide) (fun q4 => ?_) (fun q4 => ?_)
        · replace hf := (if_pos q4).symm.trans hf
          refine g_iinc (pc := 25) C [(2, .int (x2 + 1)), (0, .ref (a k0)), (1, .int x1)] 2 dX3_pressOf_25 rfl ic_1 (by decide) rfl ?_
          refine g_goto (pc := 28) C 2 dX3_pressOf_28 (by decide) ?_
          exact g_sub [1, 2, 0] rfl (ih (x2 + 1) hf)
        · replace hf := (if_neg q4).symm.trans hf
          refine g_iload_n (pc := 23) C dX3_pressOf_23 2 rfl rfl ?_
          cases hf
          exact g_iret (pc := 24) C hr dX3_pressOf_24
  unfold f_X3_pressOf at hf
  refine g_iconst (pc := 0) C dX3_pressOf_0 ic_0 ?_
  refine g_istore_n (pc := 1) C [(2, .int 0), (0, .ref (a k0)), (1, .int x1)] dX3_pressOf_1 rfl (by decide) rfl ?_
  exact g_sub [1, 2, 0] rfl (b2 1000 0 hf)

set_option maxHeartbeats 4000000 in
set_option maxRecDepth 100000 in
theorem c_X4_sheetOf (l : Launch) (D : va_G) {cI cH cE cJ : ClassId} {a : Nat → Nat} (hw : ∀ σ, va_D (Pc a) (wc cI cH cE a σ)) {σ : Me} {k0 : Nat} {x1 : Int32} (hk0 : kd k0 = 14) {r : Int32} (hf : f_X4_sheetOf σ k0 x1 = some r) : Mq l D (tyc cI cH cE cJ) (wc cI cH cE a) (Pc a) yX4_sheetOf cX4_sheetOf 2 (Option.some Jvm.ClassFile.FieldType.int) 0 [.ref (a k0), .int x1] σ (qI D (wc cI cH cE a) (Pc a) σ r) := by
  refine mOf (plainFor_of_name (by decide)) hw (Nat.le_of_ble_eq_true rfl) [(0, .ref (a k0)), (1, .int x1)] rfl ?_
  intro p e s m args below meth c C hr
  unfold f_X4_sheetOf at hf
  refine g_aload_n (pc := 0) C dX4_sheetOf_0 0 rfl rfl ?_
  refine g_get (pc := 1) C in_X4 (wc_14 hk0) cl_X4 1 (by decide) tw_103 rfl dX4_sheetOf_1 ?_
  refine g_iconst (pc := 4) C dX4_sheetOf_4 ic_1 ?_
  refine g_icmp_ge (pc := 5) C 13 dX4_sheetOf_5 (by decide) (fun q1 => ?_) (fun q1 => ?_)
  · replace hf := (if_pos q1).symm.trans hf
    refine g_iload_n (pc := 13) C dX4_sheetOf_13 1 rfl rfl ?_
    refine g_aload_n (pc := 14) C dX4_sheetOf_14 0 rfl rfl ?_
    refine g_get (pc := 15) C in_X4 (wc_14 hk0) cl_X4 2 (by decide) tw_105 rfl dX4_sheetOf_15 ?_
    refine g_isub (pc := 18) C dX4_sheetOf_18 ?_
    refine g_aload_n (pc := 19) C dX4_sheetOf_19 0 rfl rfl ?_
    refine g_get (pc := 20) C in_X4 (wc_14 hk0) cl_X4 1 (by decide) tw_103 rfl dX4_sheetOf_20 ?_
    obtain ⟨q2, hf⟩ := gd_some hf
    refine g_irem (pc := 23) C dX4_sheetOf_23 (of_decide_eq_true q2) ?_
    cases hf
    exact g_iret (pc := 24) C hr dX4_sheetOf_24
  · replace hf := (if_neg q1).symm.trans hf
    refine g_bipush (pc := 8) C dX4_sheetOf_8 bp_m4 ?_
    refine g_goto (pc := 10) C 24 dX4_sheetOf_10 (by decide) ?_
    cases hf
    exact g_iret (pc := 24) C hr dX4_sheetOf_24

set_option maxHeartbeats 4000000 in
set_option maxRecDepth 100000 in
theorem c_X3_isPrinted (l : Launch) (D : va_G) {cI cH cE cJ : ClassId} {a : Nat → Nat} (hw : ∀ σ, va_D (Pc a) (wc cI cH cE a σ)) {σ : Me} {k0 : Nat} {x1 : Int32} (hk0 : kd k0 = 12) {r : Bool} (hf : f_X3_isPrinted σ k0 x1 = some r) : Mq l D (tyc cI cH cE cJ) (wc cI cH cE a) (Pc a) yX3_isPrinted cX3_isPrinted 3 (Option.some Jvm.ClassFile.FieldType.boolean) 2 [.ref (a k0), .int x1] σ (qI D (wc cI cH cE a) (Pc a) σ (bI r)) := by
  refine mOf (plainFor_of_name (by decide)) hw (Nat.le_of_ble_eq_true rfl) [(0, .ref (a k0)), (1, .int x1)] rfl ?_
  intro p e s m args below meth c C hr
  unfold f_X3_isPrinted at hf
  refine g_aload_n (pc := 0) C dX3_isPrinted_0 0 rfl rfl ?_
  refine g_aload_n (pc := 1) C dX3_isPrinted_1 0 rfl rfl ?_
  refine g_iload_n (pc := 2) C dX3_isPrinted_2 1 rfl rfl ?_
  obtain ⟨r1, h1, hf⟩ := bd_some hf
  refine g_cVi (pc := 3) C (st := [.ref (a k0)]) jW.rf (c_X3_pressOf l D hw hk0 h1) y_X3_pressOf tw_386 rfl ⟨by decide, by decide⟩ ⟨Nat.zero_le _, Nat.zero_le _⟩ (Nat.le_of_ble_eq_true rfl) (wc_12 hk0) cl_X3 rfl dX3_isPrinted_3 rfl ?_
  obtain ⟨r2, h2, hf⟩ := bd_some hf
  refine g_cVe (pc := 6) C (st := []) jW.rf (c_X3_shareAt l D hw hk0 h2) y_X3_shareAt tw_394 rfl ⟨by decide, by decide⟩ ⟨Nat.zero_le _, Nat.zero_le _⟩ (Nat.le_of_ble_eq_true rfl) (wc_12 hk0) cl_X3 rfl dX3_isPrinted_6 rfl ?_
  rcases r2 with _ | k902
  · replace hf := oc_n.symm.trans hf
    refine g_top (v1 := .null) rfl ?_
    refine g_astore_nN (pc := 9) C [(2, .null), (0, .ref (a k0)), (1, .int x1)] dX3_isPrinted_9 rfl (by decide) rfl ?_
    refine g_aload_nN (pc := 10) C dX3_isPrinted_10 0 rfl rfl ?_
    refine g_ifnullN (pc := 11) C 30 dX3_isPrinted_11 (by decide) ?_
    refine g_iconst (pc := 30) C dX3_isPrinted_30 ic_0 ?_
    cases hf
    exact g_zret (pc := 31) (b := false) C hr dX3_isPrinted_31
  · replace hf := oc_s.symm.trans hf
    obtain ⟨hk902, hf⟩ := gd_some hf
    replace hk902 := of_decide_eq_true hk902
    refine g_top (v1 := .ref (a k902)) rfl ?_
    refine g_astore_n (pc := 9) C [(2, .ref (a k902)), (0, .ref (a k0)), (1, .int x1)] dX3_isPrinted_9 rfl (by decide) rfl ?_
    refine g_aload_n (pc := 10) C dX3_isPrinted_10 0 rfl rfl ?_
    refine g_ifnull (pc := 11) C dX3_isPrinted_11 ?_
    refine g_aload_n (pc := 14) C dX3_isPrinted_14 0 rfl rfl ?_
    refine g_iload_n (pc := 15) C dX3_isPrinted_15 2 rfl rfl ?_
    obtain ⟨r3, h3, hf⟩ := bd_some hf
    refine g_cVi (pc := 16) C (st := []) jW.rf (c_X4_sheetOf l D hw hk902 h3) y_X4_sheetOf tw_395 rfl ⟨by decide, by decide⟩ ⟨Nat.zero_le _, Nat.zero_le _⟩ (Nat.le_of_ble_eq_true rfl) (wc_14 hk902) cl_X4 rfl dX3_isPrinted_16 rfl ?_
    refine g_aload_n (pc := 19) C dX3_isPrinted_19 0 rfl rfl ?_
    refine g_getN (pc := 20) C in_X4 (wc_14 hk902) cl_X4 3 (by decide) tn_13 rfl dX3_isPrinted_20 ?_
    refine g_icmp_ge (pc := 23) C 30 dX3_isPrinted_23 (by decide) (fun q4 => ?_) (fun q4 => ?_)
    · replace hf := (if_pos q4).symm.trans hf
      refine g_iconst (pc := 30) C dX3_isPrinted_30 ic_0 ?_
      cases hf
      exact g_zret (pc := 31) (b := false) C hr dX3_isPrinted_31
    · replace hf := (if_neg q4).symm.trans hf
      refine g_iconst (pc := 26) C dX3_isPrinted_26 ic_1 ?_
      refine g_goto (pc := 27) C 31 dX3_isPrinted_27 (by decide) ?_
      cases hf
      exact g_zret (pc := 31) (b := true) C hr dX3_isPrinted_31

set_option maxHeartbeats 4000000 in
set_option maxRecDepth 100000 in
theorem c_X3_isWhole (l : Launch) (D : va_G) {cI cH cE cJ : ClassId} {a : Nat → Nat} (hw : ∀ σ, va_D (Pc a) (wc cI cH cE a σ)) {σ : Me} {k0 : Nat} {x1 : Int32} (hk0 : kd k0 = 12) {r : Bool} (hf : f_X3_isWhole σ k0 x1 = some r) : Mq l D (tyc cI cH cE cJ) (wc cI cH cE a) (Pc a) yX3_isWhole cX3_isWhole 4 (Option.some Jvm.ClassFile.FieldType.boolean) 3 [.ref (a k0), .int x1] σ (qI D (wc cI cH cE a) (Pc a) σ (bI r)) := by
  refine mOf (plainFor_of_name (by decide)) hw (Nat.le_of_ble_eq_true rfl) [(0, .ref (a k0)), (1, .int x1)] rfl ?_
  intro p e s m args below meth c C hr
  have b20 : ∀ (n : Nat) (x2 : Int32) (x3 : Int32) (hf : f_X3_isWhole_20 n σ k0 x2 x3 = some r), Gg p l e (rmd 3) s m args below meth c D (Pc a) (wc cI cH cE a) 4 0 0 (MQ below ((qI D (wc cI cH cE a) (Pc a) σ (bI r)) s.heap.size) args s 0 0 (fR (Pc a) s.heap.size)) σ [(0, .ref (a k0)), (2, .int x2), (3, .int x3)] 20 [] := by
    intro n
    induction n with
    | zero => intro x2 x3 hf; exact absurd hf (by simp [f_X3_isWhole_20])
    | succ n ih =>
      intro x2 x3 hf
      rw [f_X3_isWhole_20] at hf
      refine g_iload_n (pc := 20) C dX3_isWhole_20 2 rfl rfl ?_
      refine g_iload_n (pc := 21) C dX3_isWhole_21 1 rfl rfl ?_
      refine g_icmp_ge (pc := 22) C 41 dX3_isWhole_22 (by decide) (fun q1 => ?_) (fun q1 => ?_)
      · replace hf := (if_pos q1).symm.trans hf
        refine g_iconst (pc := 41) C dX3_isWhole_41 ic_1 ?_
        cases hf
        exact g_zret (pc := 42) (b := true) C hr dX3_isWhole_42
      · replace hf := (if_neg q1).symm.trans hf
        refine g_aload_n (pc := 25) C dX3_isWhole_25 0 rfl rfl ?_
        refine g_iload_n (pc := 26) C dX3_isWhole_26 2 rfl rfl ?_
        obtain ⟨r2, h2, hf⟩ := bd_some hf
        refine g_cVi (pc := 27) C (st := []) jW.rf (c_X3_isPrinted l D hw hk0 h2) y_X3_isPrinted tw_491 rfl ⟨by decide, by decide⟩ ⟨Nat.zero_le _, Nat.zero_le _⟩ (Nat.le_of_ble_eq_true rfl) (wc_12 hk0) cl_X3 rfl dX3_isWhole_27 rfl ?_
        refine g_if_ne (pc := 30) C 35 dX3_isWhole_30 (by decide) (fun q3 => ?_) (fun q3 => ?_)
        · replace hf := (if_neg q3).symm.trans hf
          refine g_iinc (pc := 35) C [(3, .int (x3 + 1)), (0, .ref (a k0)), (2, .int x2)] 2 dX3_isWhole_35 rfl ic_1 (by decide) rfl ?_
          refine g_goto (pc := 38) C 20 dX3_isWhole_38 (by decide) ?_
          exact g_sub [1, 2, 0] rfl (ih x2 (x3 + 1) hf)
        · replace hf := (if_pos q3).symm.trans hf
          refine g_iconst (pc := 33) C dX3_isWhole_33 ic_0 ?_
          cases hf
          exact g_zret (pc := 34) (b := false) C hr dX3_isWhole_34
  unfold f_X3_isWhole at hf
  refine g_bipush (pc := 0) C dX3_isWhole_0 bp_10 ?_
  refine g_iload_n (pc := 2) C dX3_isWhole_2 1 rfl rfl ?_
  refine g_imul (pc := 3) C dX3_isWhole_3 ?_
  refine g_bipush (pc := 4) C dX3_isWhole_4 bp_10 ?_
  refine g_iadd (pc := 6) C dX3_isWhole_6 ?_
  refine g_aload_n (pc := 7) C dX3_isWhole_7 0 rfl rfl ?_
  refine g_get (pc := 8) C in_X3 (wc_12 hk0) cl_X3 4 (by decide) tw_126 rfl dX3_isWhole_8 ?_
  obtain ⟨r4, h4, hf⟩ := bd_some hf
  refine g_cSi (pc := 11) C (st := []) jW.rf (c_J9_min_7cf53 l D hw h4) y_J9_min_7cf53 tw_490 rfl ⟨by decide, by decide⟩ ⟨Nat.zero_le _, Nat.zero_le _⟩ (Nat.le_of_ble_eq_true rfl) dX3_isWhole_11 rfl ?_
  refine g_istore_n (pc := 14) C [(2, .int r4), (0, .ref (a k0)), (1, .int x1)] dX3_isWhole_14 rfl (by decide) rfl ?_
  refine g_bipush (pc := 15) C dX3_isWhole_15 bp_10 ?_
  refine g_iload_n (pc := 17) C dX3_isWhole_17 2 rfl rfl ?_
  refine g_imul (pc := 18) C dX3_isWhole_18 ?_
  refine g_istore_n (pc := 19) C [(3, .int (10 * x1)), (2, .int r4), (0, .ref (a k0)), (1, .int x1)] dX3_isWhole_19 rfl (by decide) rfl ?_
  exact g_sub [2, 1, 0] rfl (b20 1000 r4 (10 * x1) hf)

set_option maxHeartbeats 4000000 in
set_option maxRecDepth 100000 in
theorem c_X3_packs (l : Launch) (D : va_G) {cI cH cE cJ : ClassId} {a : Nat → Nat} (hw : ∀ σ, va_D (Pc a) (wc cI cH cE a σ)) {σ : Me} {k0 : Nat} (hk0 : kd k0 = 12) {r : Int32} (hf : f_X3_packs σ k0 = some r) : Mq l D (tyc cI cH cE cJ) (wc cI cH cE a) (Pc a) yX3_packs cX3_packs 1 (Option.some Jvm.ClassFile.FieldType.int) 0 [.ref (a k0)] σ (qI D (wc cI cH cE a) (Pc a) σ r) := by
  refine mOf (plainFor_of_name (by decide)) hw (Nat.le_of_ble_eq_true rfl) [(0, .ref (a k0))] rfl ?_
  intro p e s m args below meth c C hr
  unfold f_X3_packs at hf
  refine g_aload_n (pc := 0) C dX3_packs_0 0 rfl rfl ?_
  refine g_get (pc := 1) C in_X3 (wc_12 hk0) cl_X3 4 (by decide) tw_126 rfl dX3_packs_1 ?_
  refine g_bipush (pc := 4) C dX3_packs_4 bp_10 ?_
  refine g_iadd (pc := 6) C dX3_packs_6 ?_
  refine g_iconst (pc := 7) C dX3_packs_7 ic_1 ?_
  refine g_isub (pc := 8) C dX3_packs_8 ?_
  refine g_bipush (pc := 9) C dX3_packs_9 bp_10 ?_
  refine g_idiv (pc := 11) C dX3_packs_11 (by decide) ?_
  cases hf
  exact g_iret (pc := 12) C hr dX3_packs_12

set_option maxHeartbeats 4000000 in
set_option maxRecDepth 100000 in
theorem c_X3_wholePacks (l : Launch) (D : va_G) {cI cH cE cJ : ClassId} {a : Nat → Nat} (hw : ∀ σ, va_D (Pc a) (wc cI cH cE a σ)) {σ : Me} {k0 : Nat} (hk0 : kd k0 = 12) {r : Int32} (hf : f_X3_wholePacks σ k0 = some r) : Mq l D (tyc cI cH cE cJ) (wc cI cH cE a) (Pc a) yX3_wholePacks cX3_wholePacks 3 (Option.some Jvm.ClassFile.FieldType.int) 4 [.ref (a k0)] σ (qI D (wc cI cH cE a) (Pc a) σ r) := by
  refine mOf (plainFor_of_name (by decide)) hw (Nat.le_of_ble_eq_true rfl) [(0, .ref (a k0))] rfl ?_
  intro p e s m args below meth c C hr
  have b4 : ∀ (n : Nat) (x1 : Int32) (x2 : Int32) (hf : f_X3_wholePacks_4 n σ k0 x1 x2 = some r), Gg p l e (rmd 4) s m args below meth c D (Pc a) (wc cI cH cE a) 3 0 0 (MQ below ((qI D (wc cI cH cE a) (Pc a) σ r) s.heap.size) args s 0 0 (fR (Pc a) s.heap.size)) σ [(0, .ref (a k0)), (1, .int x1), (2, .int x2)] 4 [] := by
    intro n
    induction n with
    | zero => intro x1 x2 hf; exact absurd hf (by simp [f_X3_wholePacks_4])
    | succ n ih =>
      intro x1 x2 hf
      rw [f_X3_wholePacks_4] at hf
      refine g_iload_n (pc := 4) C dX3_wholePacks_4 2 rfl rfl ?_
      refine g_aload_n (pc := 5) C dX3_wholePacks_5 0 rfl rfl ?_
      obtain ⟨r1, h1, hf⟩ := bd_some hf
      refine g_cVi (pc := 6) C (st := [.int x2]) jW.rf (c_X3_packs l D hw hk0 h1) y_X3_packs tw_485 rfl ⟨by decide, by decide⟩ ⟨Nat.zero_le _, Nat.zero_le _⟩ (Nat.le_of_ble_eq_true rfl) (wc_12 hk0) cl_X3 rfl dX3_wholePacks_6 rfl ?_
      refine g_icmp_ge (pc := 9) C 29 dX3_wholePacks_9 (by decide) (fun q2 => ?_) (fun q2 => ?_)
      · replace hf := (if_pos q2).symm.trans hf
        refine g_iload_n (pc := 29) C dX3_wholePacks_29 1 rfl rfl ?_
        cases hf
        exact g_iret (pc := 30) C hr dX3_wholePacks_30
      · replace hf := (if_neg q2).symm.trans hf
        refine g_aload_n (pc := 12) C dX3_wholePacks_12 0 rfl rfl ?_
        refine g_iload_n (pc := 13) C dX3_wholePacks_13 2 rfl rfl ?_
        obtain ⟨r3, h3, hf⟩ := bd_some hf
        refine g_cVi (pc := 14) C (st := []) jW.rf (c_X3_isWhole l D hw hk0 h3) y_X3_isWhole tw_486 rfl ⟨by decide, by decide⟩ ⟨Nat.zero_le _, Nat.zero_le _⟩ (Nat.le_of_ble_eq_true rfl) (wc_12 hk0) cl_X3 rfl dX3_wholePacks_14 rfl ?_
        refine g_if_eq (pc := 17) C 23 dX3_wholePacks_17 (by decide) (fun q4 => ?_) (fun q4 => ?_)
        · replace hf := (if_pos q4).symm.trans hf
          refine g_iinc (pc := 23) C [(2, .int (x2 + 1)), (0, .ref (a k0)), (1, .int x1)] 2 dX3_wholePacks_23 rfl ic_1 (by decide) rfl ?_
          refine g_goto (pc := 26) C 4 dX3_wholePacks_26 (by decide) ?_
          exact g_sub [1, 2, 0] rfl (ih x1 (x2 + 1) hf)
        · replace hf := (if_neg q4).symm.trans hf
          refine g_iinc (pc := 20) C [(1, .int (x1 + 1)), (0, .ref (a k0)), (2, .int x2)] 1 dX3_wholePacks_20 rfl ic_1 (by decide) rfl ?_
          refine g_iinc (pc := 23) C [(2, .int (x2 + 1)), (1, .int (x1 + 1)), (0, .ref (a k0))] 2 dX3_wholePacks_23 rfl ic_1 (by decide) rfl ?_
          refine g_goto (pc := 26) C 4 dX3_wholePacks_26 (by decide) ?_
          exact g_sub [2, 1, 0] rfl (ih (x1 + 1) (x2 + 1) hf)
  unfold f_X3_wholePacks at hf
  refine g_iconst (pc := 0) C dX3_wholePacks_0 ic_0 ?_
  refine g_istore_n (pc := 1) C [(1, .int 0), (0, .ref (a k0))] dX3_wholePacks_1 rfl (by decide) rfl ?_
  refine g_iconst (pc := 2) C dX3_wholePacks_2 ic_0 ?_
  refine g_istore_n (pc := 3) C [(2, .int 0), (1, .int 0), (0, .ref (a k0))] dX3_wholePacks_3 rfl (by decide) rfl ?_
  exact g_sub [2, 1, 0] rfl (b4 1000 0 0 hf)

set_option maxHeartbeats 4000000 in
set_option maxRecDepth 100000 in
theorem c_X2_wholePacks (l : Launch) (D : va_G) {cI cH cE cJ : ClassId} {a : Nat → Nat} (hw : ∀ σ, va_D (Pc a) (wc cI cH cE a σ)) {σ : Me} {k0 : Nat} (hk0 : kd k0 = 9) {r : Int32} (hf : f_X2_wholePacks σ k0 = some r) : Mq l D (tyc cI cH cE cJ) (wc cI cH cE a) (Pc a) yX2_wholePacks cX2_wholePacks 3 (Option.some Jvm.ClassFile.FieldType.int) 5 [.ref (a k0)] σ (qI D (wc cI cH cE a) (Pc a) σ r) := by
  refine mOf (plainFor_of_name (by decide)) hw (Nat.le_of_ble_eq_true rfl) [(0, .ref (a k0))] rfl ?_
  intro p e s m args below meth c C hr
  have b4 : ∀ (n : Nat) (x1 : Int32) (x2 : Int32) (hf : f_X2_wholePacks_4 n σ k0 x1 x2 = some r), Gg p l e (rmd 5) s m args below meth c D (Pc a) (wc cI cH cE a) 3 0 0 (MQ below ((qI D (wc cI cH cE a) (Pc a) σ r) s.heap.size) args s 0 0 (fR (Pc a) s.heap.size)) σ [(0, .ref (a k0)), (1, .int x1), (2, .int x2)] 4 [] := by
    intro n
    induction n with
    | zero => intro x1 x2 hf; exact absurd hf (by simp [f_X2_wholePacks_4])
    | succ n ih =>
      intro x1 x2 hf
      rw [f_X2_wholePacks_4] at hf
      refine g_iload_n (pc := 4) C dX2_wholePacks_4 2 rfl rfl ?_
      refine g_aload_n (pc := 5) C dX2_wholePacks_5 0 rfl rfl ?_
      refine g_get (pc := 6) C in_X2 (wc_9 hk0) cl_X2 3 (by decide) tw_146 rfl dX2_wholePacks_6 ?_
      refine g_icmp_ge (pc := 9) C 30 dX2_wholePacks_9 (by decide) (fun q1 => ?_) (fun q1 => ?_)
      · replace hf := (if_pos q1).symm.trans hf
        refine g_iload_n (pc := 30) C dX2_wholePacks_30 1 rfl rfl ?_
        cases hf
        exact g_iret (pc := 31) C hr dX2_wholePacks_31
      · replace hf := (if_neg q1).symm.trans hf
        refine g_iload_n (pc := 12) C dX2_wholePacks_12 1 rfl rfl ?_
        refine g_aload_n (pc := 13) C dX2_wholePacks_13 0 rfl rfl ?_
        refine g_get (pc := 14) C in_X2 (wc_9 hk0) cl_X2 1 (by decide) tw_142 rfl dX2_wholePacks_14 ?_
        refine g_iload_n (pc := 17) C dX2_wholePacks_17 2 rfl rfl ?_
        obtain ⟨q2, hf⟩ := gd_some hf
        refine g_aald (pc := 18) C 2 (.ref (a ((k0 + 2) + 1 + 6 * x2.toNatClampNeg))) (wc_11 (kd_9_2 hk0)) rfl q2 rfl dX2_wholePacks_18 ?_
        obtain ⟨r3, h3, hf⟩ := bd_some hf
        refine g_cVi (pc := 19) C (st := [.int x1]) jW.rf (c_X3_wholePacks l D hw (kd_11_s (kd_9_2 hk0) (inb_lt q2)) h3) y_X3_wholePacks tw_611 rfl ⟨by decide, by decide⟩ ⟨Nat.zero_le _, Nat.zero_le _⟩ (Nat.le_of_ble_eq_true rfl) (wc_12 (kd_11_s (kd_9_2 hk0) (inb_lt q2))) cl_X3 rfl dX2_wholePacks_19 rfl ?_
        refine g_iadd (pc := 22) C dX2_wholePacks_22 ?_
        refine g_istore_n (pc := 23) C [(1, .int (x1 + r3)), (0, .ref (a k0)), (2, .int x2)] dX2_wholePacks_23 rfl (by decide) rfl ?_
        refine g_iinc (pc := 24) C [(2, .int (x2 + 1)), (1, .int (x1 + r3)), (0, .ref (a k0))] 2 dX2_wholePacks_24 rfl ic_1 (by decide) rfl ?_
        refine g_goto (pc := 27) C 4 dX2_wholePacks_27 (by decide) ?_
        exact g_sub [2, 1, 0] rfl (ih (x1 + r3) (x2 + 1) hf)
  unfold f_X2_wholePacks at hf
  refine g_iconst (pc := 0) C dX2_wholePacks_0 ic_0 ?_
  refine g_istore_n (pc := 1) C [(1, .int 0), (0, .ref (a k0))] dX2_wholePacks_1 rfl (by decide) rfl ?_
  refine g_iconst (pc := 2) C dX2_wholePacks_2 ic_0 ?_
  refine g_istore_n (pc := 3) C [(2, .int 0), (1, .int 0), (0, .ref (a k0))] dX2_wholePacks_3 rfl (by decide) rfl ?_
  exact g_sub [2, 1, 0] rfl (b4 1000 0 0 hf)

set_option maxHeartbeats 4000000 in
set_option maxRecDepth 100000 in
theorem c_X3_begin (l : Launch) (D : va_G) {cI cH cE cJ : ClassId} {a : Nat → Nat} (hw : ∀ σ, va_D (Pc a) (wc cI cH cE a σ)) {σ : Me} {k0 : Nat} {x1 : Int32} {x2 : Int32} (hk0 : kd k0 = 12) {σ' : Me}  (hf : f_X3_begin σ k0 x1 x2 = some σ') : Mq l D (tyc cI cH cE cJ) (wc cI cH cE a) (Pc a) yX3_begin cX3_begin 3 (Option.none : Option Jvm.ClassFile.FieldType) 0 [.ref (a k0), .int x1, .int x2] σ (qV D (wc cI cH cE a) (Pc a) σ') := by
  refine mOf (plainFor_of_name (by decide)) hw (Nat.le_of_ble_eq_true rfl) [(0, .ref (a k0)), (1, .int x1), (2, .int x2)] rfl ?_
  intro p e s m args below meth c C hr
  unfold f_X3_begin at hf
  refine g_aload_n (pc := 0) C dX3_begin_0 0 rfl rfl ?_
  refine g_iload_n (pc := 1) C dX3_begin_1 1 rfl rfl ?_
  refine g_put (pc := 2) C in_X3 tyX3 tyX3_ok nmX3 (wc_12 hk0) cl_X3 2 (by decide) tw_121 rfl rfl rfl (Nat.le_of_ble_eq_true rfl) (wp_12_2 hk0) dX3_begin_2 ?_
  refine g_aload_n (pc := 5) C dX3_begin_5 0 rfl rfl ?_
  refine g_iload_n (pc := 6) C dX3_begin_6 2 rfl rfl ?_
  refine g_put (pc := 7) C in_X3 tyX3 tyX3_ok nmX3 (wc_12 hk0) cl_X3 3 (by decide) tw_124 rfl rfl rfl (Nat.le_of_ble_eq_true rfl) (wp_12_3 hk0) dX3_begin_7 ?_
  refine g_aload_n (pc := 10) C dX3_begin_10 0 rfl rfl ?_
  refine g_iconst (pc := 11) C dX3_begin_11 ic_0 ?_
  refine g_put (pc := 12) C in_X3 tyX3 tyX3_ok nmX3 (wc_12 hk0) cl_X3 1 (by decide) tw_120 rfl rfl rfl (Nat.le_of_ble_eq_true rfl) (wp_12_1 hk0) dX3_begin_12 ?_
  refine g_aload_n (pc := 15) C dX3_begin_15 0 rfl rfl ?_
  refine g_iconst (pc := 16) C dX3_begin_16 ic_0 ?_
  refine g_put (pc := 17) C in_X3 tyX3 tyX3_ok nmX3 (wc_12 hk0) cl_X3 4 (by decide) tw_126 rfl rfl rfl (Nat.le_of_ble_eq_true rfl) (wp_12_4 hk0) dX3_begin_17 ?_
  cases hf
  exact g_vret (pc := 20) C hr dX3_begin_20

set_option maxHeartbeats 4000000 in
set_option maxRecDepth 100000 in
theorem c_X4_begin (l : Launch) (D : va_G) {cI cH cE cJ : ClassId} {a : Nat → Nat} (hw : ∀ σ, va_D (Pc a) (wc cI cH cE a σ)) {σ : Me} {k0 : Nat} {x1 : Int32} {x2 : Int32} {x3 : Int32} (hk0 : kd k0 = 14) {σ' : Me}  (hf : f_X4_begin σ k0 x1 x2 x3 = some σ') : Mq l D (tyc cI cH cE cJ) (wc cI cH cE a) (Pc a) yX4_begin cX4_begin 4 (Option.none : Option Jvm.ClassFile.FieldType) 0 [.ref (a k0), .int x1, .int x2, .int x3] σ (qV D (wc cI cH cE a) (Pc a) σ') := by
  refine mOf (plainFor_of_name (by decide)) hw (Nat.le_of_ble_eq_true rfl) [(0, .ref (a k0)), (1, .int x1), (2, .int x2), (3, .int x3)] rfl ?_
  intro p e s m args below meth c C hr
  unfold f_X4_begin at hf
  refine g_aload_n (pc := 0) C dX4_begin_0 0 rfl rfl ?_
  refine g_iload_n (pc := 1) C dX4_begin_1 1 rfl rfl ?_
  refine g_put (pc := 2) C in_X4 tyX4 tyX4_ok nmX4 (wc_14 hk0) cl_X4 0 (by decide) tw_100 rfl rfl rfl (Nat.le_of_ble_eq_true rfl) (wp_14_0 hk0) dX4_begin_2 ?_
  refine g_aload_n (pc := 5) C dX4_begin_5 0 rfl rfl ?_
  refine g_iload_n (pc := 6) C dX4_begin_6 2 rfl rfl ?_
  refine g_put (pc := 7) C in_X4 tyX4 tyX4_ok nmX4 (wc_14 hk0) cl_X4 1 (by decide) tw_103 rfl rfl rfl (Nat.le_of_ble_eq_true rfl) (wp_14_1 hk0) dX4_begin_7 ?_
  refine g_aload_n (pc := 10) C dX4_begin_10 0 rfl rfl ?_
  refine g_iload_n (pc := 11) C dX4_begin_11 3 rfl rfl ?_
  refine g_put (pc := 12) C in_X4 tyX4 tyX4_ok nmX4 (wc_14 hk0) cl_X4 2 (by decide) tw_105 rfl rfl rfl (Nat.le_of_ble_eq_true rfl) (wp_14_2 hk0) dX4_begin_12 ?_
  refine g_aload_n (pc := 15) C dX4_begin_15 0 rfl rfl ?_
  refine g_iconst (pc := 16) C dX4_begin_16 ic_0 ?_
  refine g_put (pc := 17) C in_X4 tyX4 tyX4_ok nmX4 (wc_14 hk0) cl_X4 3 (by decide) tw_107 rfl rfl rfl (Nat.le_of_ble_eq_true rfl) (wp_14_3 hk0) dX4_begin_17 ?_
  cases hf
  exact g_vret (pc := 20) C hr dX4_begin_20

set_option maxHeartbeats 4000000 in
set_option maxRecDepth 100000 in
theorem c_X3_addShare (l : Launch) (D : va_G) {cI cH cE cJ : ClassId} {a : Nat → Nat} (hw : ∀ σ, va_D (Pc a) (wc cI cH cE a σ)) {σ : Me} {k0 : Nat} {x1 : Int32} {x2 : Int32} (hk0 : kd k0 = 12) {σ' : Me}  (hf : f_X3_addShare σ k0 x1 x2 = some σ') : Mq l D (tyc cI cH cE cJ) (wc cI cH cE a) (Pc a) yX3_addShare cX3_addShare 3 (Option.none : Option Jvm.ClassFile.FieldType) 1 [.ref (a k0), .int x1, .int x2] σ (qV D (wc cI cH cE a) (Pc a) σ') := by
  refine mOf (plainFor_of_name (by decide)) hw (Nat.le_of_ble_eq_true rfl) [(0, .ref (a k0)), (1, .int x1), (2, .int x2)] rfl ?_
  intro p e s m args below meth c C hr
  unfold f_X3_addShare at hf
  refine g_aload_n (pc := 0) C dX3_addShare_0 0 rfl rfl ?_
  refine g_get (pc := 1) C in_X3 (wc_12 hk0) cl_X3 1 (by decide) tw_120 rfl dX3_addShare_1 ?_
  refine g_iconst (pc := 4) C dX3_addShare_4 ic_4 ?_
  refine g_icmp_lt (pc := 5) C 9 dX3_addShare_5 (by decide) (fun q1 => ?_) (fun q1 => ?_)
  · replace hf := (if_pos q1).symm.trans hf
    refine g_aload_n (pc := 9) C dX3_addShare_9 0 rfl rfl ?_
    refine g_get (pc := 10) C in_X3 (wc_12 hk0) cl_X3 0 (by decide) tw_119 rfl dX3_addShare_10 ?_
    refine g_aload_n (pc := 13) C dX3_addShare_13 0 rfl rfl ?_
    refine g_get (pc := 14) C in_X3 (wc_12 hk0) cl_X3 1 (by decide) tw_120 rfl dX3_addShare_14 ?_
    obtain ⟨q2, hf⟩ := gd_some hf
    refine g_aald (pc := 17) C 1 (.ref (a ((k0 + 1) + 1 + (σ k0 1).toNatClampNeg))) (wc_13 (kd_12_1 hk0)) rfl q2 rfl dX3_addShare_17 ?_
    refine g_iload_n (pc := 18) C dX3_addShare_18 1 rfl rfl ?_
    refine g_iload_n (pc := 19) C dX3_addShare_19 2 rfl rfl ?_
    refine g_aload_n (pc := 20) C dX3_addShare_20 0 rfl rfl ?_
    refine g_get (pc := 21) C in_X3 (wc_12 hk0) cl_X3 4 (by decide) tw_126 rfl dX3_addShare_21 ?_
    obtain ⟨s3, h3, hf⟩ := bd_some hf
    refine g_cVv (pc := 24) C (st := []) jW.rf (c_X4_begin l D hw (kd_13_s (kd_12_1 hk0) (inb_lt q2)) h3) y_X4_begin tw_278 rfl ⟨by decide, by decide⟩ ⟨Nat.zero_le _, Nat.zero_le _⟩ (Nat.le_of_ble_eq_true rfl) (wc_14 (kd_13_s (kd_12_1 hk0) (inb_lt q2))) cl_X4 rfl dX3_addShare_24 rfl ?_
    refine g_aload_n (pc := 27) C dX3_addShare_27 0 rfl rfl ?_
    refine g_dup (pc := 28) C dX3_addShare_28 rfl ?_
    refine g_get (pc := 29) C in_X3 (wc_12 hk0) cl_X3 4 (by decide) tw_126 rfl dX3_addShare_29 ?_
    refine g_iload_n (pc := 32) C dX3_addShare_32 1 rfl rfl ?_
    refine g_iload_n (pc := 33) C dX3_addShare_33 2 rfl rfl ?_
    refine g_imul (pc := 34) C dX3_addShare_34 ?_
    refine g_iadd (pc := 35) C dX3_addShare_35 ?_
    refine g_put (pc := 36) C in_X3 tyX3 tyX3_ok nmX3 (wc_12 hk0) cl_X3 4 (by decide) tw_126 rfl rfl rfl (Nat.le_of_ble_eq_true rfl) (wp_12_4 hk0) dX3_addShare_36 ?_
    refine g_aload_n (pc := 39) C dX3_addShare_39 0 rfl rfl ?_
    refine g_dup (pc := 40) C dX3_addShare_40 rfl ?_
    refine g_get (pc := 41) C in_X3 (wc_12 hk0) cl_X3 1 (by decide) tw_120 rfl dX3_addShare_41 ?_
    refine g_iconst (pc := 44) C dX3_addShare_44 ic_1 ?_
    refine g_iadd (pc := 45) C dX3_addShare_45 ?_
    refine g_put (pc := 46) C in_X3 tyX3 tyX3_ok nmX3 (wc_12 hk0) cl_X3 1 (by decide) tw_120 rfl rfl rfl (Nat.le_of_ble_eq_true rfl) (wp_12_1 hk0) dX3_addShare_46 ?_
    cases hf
    exact g_vret (pc := 49) C hr dX3_addShare_49
  · replace hf := (if_neg q1).symm.trans hf
    cases hf
    exact g_vret (pc := 8) C hr dX3_addShare_8

set_option maxHeartbeats 4000000 in
set_option maxRecDepth 100000 in
theorem c_X3_hasNumber (l : Launch) (D : va_G) {cI cH cE cJ : ClassId} {a : Nat → Nat} (hw : ∀ σ, va_D (Pc a) (wc cI cH cE a σ)) {σ : Me} {k0 : Nat} {x1 : Int32} (hk0 : kd k0 = 12) {r : Bool} (hf : f_X3_hasNumber σ k0 x1 = some r) : Mq l D (tyc cI cH cE cJ) (wc cI cH cE a) (Pc a) yX3_hasNumber cX3_hasNumber 2 (Option.some Jvm.ClassFile.FieldType.boolean) 1 [.ref (a k0), .int x1] σ (qI D (wc cI cH cE a) (Pc a) σ (bI r)) := by
  refine mOf (plainFor_of_name (by decide)) hw (Nat.le_of_ble_eq_true rfl) [(0, .ref (a k0)), (1, .int x1)] rfl ?_
  intro p e s m args below meth c C hr
  unfold f_X3_hasNumber at hf
  refine g_iload_n (pc := 0) C dX3_hasNumber_0 1 rfl rfl ?_
  refine g_iconst (pc := 1) C dX3_hasNumber_1 ic_0 ?_
  refine g_aload_n (pc := 2) C dX3_hasNumber_2 0 rfl rfl ?_
  refine g_get (pc := 3) C in_X3 (wc_12 hk0) cl_X3 4 (by decide) tw_126 rfl dX3_hasNumber_3 ?_
  refine g_iconst (pc := 6) C dX3_hasNumber_6 ic_1 ?_
  refine g_isub (pc := 7) C dX3_hasNumber_7 ?_
  obtain ⟨r1, h1, hf⟩ := bd_some hf
  refine g_cNi (pc := 8) C (st := []) jW.rf (c_X7_isFromTo l D hw h1) y_X7_isFromTo tn_27 rfl ⟨by decide, by decide⟩ ⟨Nat.zero_le _, Nat.zero_le _⟩ (Nat.le_of_ble_eq_true rfl) dX3_hasNumber_8 rfl ?_
  cases hf
  exact g_zret (pc := 11) (b := _) C hr dX3_hasNumber_11

set_option maxHeartbeats 4000000 in
set_option maxRecDepth 100000 in
theorem c_X4_sheetsLeft (l : Launch) (D : va_G) {cI cH cE cJ : ClassId} {a : Nat → Nat} (hw : ∀ σ, va_D (Pc a) (wc cI cH cE a σ)) {σ : Me} {k0 : Nat} (hk0 : kd k0 = 14) {r : Int32} (hf : f_X4_sheetsLeft σ k0 = some r) : Mq l D (tyc cI cH cE cJ) (wc cI cH cE a) (Pc a) yX4_sheetsLeft cX4_sheetsLeft 1 (Option.some Jvm.ClassFile.FieldType.int) 0 [.ref (a k0)] σ (qI D (wc cI cH cE a) (Pc a) σ r) := by
  refine mOf (plainFor_of_name (by decide)) hw (Nat.le_of_ble_eq_true rfl) [(0, .ref (a k0))] rfl ?_
  intro p e s m args below meth c C hr
  unfold f_X4_sheetsLeft at hf
  refine g_aload_n (pc := 0) C dX4_sheetsLeft_0 0 rfl rfl ?_
  refine g_get (pc := 1) C in_X4 (wc_14 hk0) cl_X4 1 (by decide) tw_103 rfl dX4_sheetsLeft_1 ?_
  refine g_aload_n (pc := 4) C dX4_sheetsLeft_4 0 rfl rfl ?_
  refine g_get (pc := 5) C in_X4 (wc_14 hk0) cl_X4 3 (by decide) tw_107 rfl dX4_sheetsLeft_5 ?_
  refine g_isub (pc := 8) C dX4_sheetsLeft_8 ?_
  cases hf
  exact g_iret (pc := 9) C hr dX4_sheetsLeft_9

set_option maxHeartbeats 4000000 in
set_option maxRecDepth 100000 in
theorem c_X3_sheetsLeft (l : Launch) (D : va_G) {cI cH cE cJ : ClassId} {a : Nat → Nat} (hw : ∀ σ, va_D (Pc a) (wc cI cH cE a σ)) {σ : Me} {k0 : Nat} (hk0 : kd k0 = 12) {r : Int32} (hf : f_X3_sheetsLeft σ k0 = some r) : Mq l D (tyc cI cH cE cJ) (wc cI cH cE a) (Pc a) yX3_sheetsLeft cX3_sheetsLeft 3 (Option.some Jvm.ClassFile.FieldType.int) 1 [.ref (a k0)] σ (qI D (wc cI cH cE a) (Pc a) σ r) := by
  refine mOf (plainFor_of_name (by decide)) hw (Nat.le_of_ble_eq_true rfl) [(0, .ref (a k0))] rfl ?_
  intro p e s m args below meth c C hr
  have b4 : ∀ (n : Nat) (x1 : Int32) (x2 : Int32) (hf : f_X3_sheetsLeft_4 n σ k0 x1 x2 = some r), Gg p l e (rmd 1) s m args below meth c D (Pc a) (wc cI cH cE a) 3 0 0 (MQ below ((qI D (wc cI cH cE a) (Pc a) σ r) s.heap.size) args s 0 0 (fR (Pc a) s.heap.size)) σ [(0, .ref (a k0)), (1, .int x1), (2, .int x2)] 4 [] := by
    intro n
    induction n with
    | zero => intro x1 x2 hf; exact absurd hf (by simp [f_X3_sheetsLeft_4])
    | succ n ih =>
      intro x1 x2 hf
      rw [f_X3_sheetsLeft_4] at hf
      refine g_iload_n (pc := 4) C dX3_sheetsLeft_4 2 rfl rfl ?_
      refine g_aload_n (pc := 5) C dX3_sheetsLeft_5 0 rfl rfl ?_
      refine g_get (pc := 6) C in_X3 (wc_12 hk0) cl_X3 1 (by decide) tw_120 rfl dX3_sheetsLeft_6 ?_
      refine g_icmp_ge (pc := 9) C 30 dX3_sheetsLeft_9 (by decide) (fun q1 => ?_) (fun q1 => ?_)
      · replace hf := (if_pos q1).symm.trans hf
        refine g_iload_n (pc := 30) C dX3_sheetsLeft_30 1 rfl rfl ?_
        cases hf
        exact g_iret (pc := 31) C hr dX3_sheetsLeft_31
      · replace hf := (if_neg q1).symm.trans hf
        refine g_iload_n (pc := 12) C dX3_sheetsLeft_12 1 rfl rfl ?_
        refine g_aload_n (pc := 13) C dX3_sheetsLeft_13 0 rfl rfl ?_
        refine g_get (pc := 14) C in_X3 (wc_12 hk0) cl_X3 0 (by decide) tw_119 rfl dX3_sheetsLeft_14 ?_
        refine g_iload_n (pc := 17) C dX3_sheetsLeft_17 2 rfl rfl ?_
        obtain ⟨q2, hf⟩ := gd_some hf
        refine g_aald (pc := 18) C 1 (.ref (a ((k0 + 1) + 1 + x2.toNatClampNeg))) (wc_13 (kd_12_1 hk0)) rfl q2 rfl dX3_sheetsLeft_18 ?_
        obtain ⟨r3, h3, hf⟩ := bd_some hf
        refine g_cVi (pc := 19) C (st := [.int x1]) jW.rf (c_X4_sheetsLeft l D hw (kd_13_s (kd_12_1 hk0) (inb_lt q2)) h3) y_X4_sheetsLeft tw_476 rfl ⟨by decide, by decide⟩ ⟨Nat.zero_le _, Nat.zero_le _⟩ (Nat.le_of_ble_eq_true rfl) (wc_14 (kd_13_s (kd_12_1 hk0) (inb_lt q2))) cl_X4 rfl dX3_sheetsLeft_19 rfl ?_
        refine g_iadd (pc := 22) C dX3_sheetsLeft_22 ?_
        refine g_istore_n (pc := 23) C [(1, .int (x1 + r3)), (0, .ref (a k0)), (2, .int x2)] dX3_sheetsLeft_23 rfl (by decide) rfl ?_
        refine g_iinc (pc := 24) C [(2, .int (x2 + 1)), (1, .int (x1 + r3)), (0, .ref (a k0))] 2 dX3_sheetsLeft_24 rfl ic_1 (by decide) rfl ?_
        refine g_goto (pc := 27) C 4 dX3_sheetsLeft_27 (by decide) ?_
        exact g_sub [2, 1, 0] rfl (ih (x1 + r3) (x2 + 1) hf)
  unfold f_X3_sheetsLeft at hf
  refine g_iconst (pc := 0) C dX3_sheetsLeft_0 ic_0 ?_
  refine g_istore_n (pc := 1) C [(1, .int 0), (0, .ref (a k0))] dX3_sheetsLeft_1 rfl (by decide) rfl ?_
  refine g_iconst (pc := 2) C dX3_sheetsLeft_2 ic_0 ?_
  refine g_istore_n (pc := 3) C [(2, .int 0), (1, .int 0), (0, .ref (a k0))] dX3_sheetsLeft_3 rfl (by decide) rfl ?_
  exact g_sub [2, 1, 0] rfl (b4 1000 0 0 hf)

set_option maxHeartbeats 4000000 in
set_option maxRecDepth 100000 in
theorem c_X4_hasSheet (l : Launch) (D : va_G) {cI cH cE cJ : ClassId} {a : Nat → Nat} (hw : ∀ σ, va_D (Pc a) (wc cI cH cE a σ)) {σ : Me} {k0 : Nat} {x1 : Int32} (hk0 : kd k0 = 14) {r : Bool} (hf : f_X4_hasSheet σ k0 x1 = some r) : Mq l D (tyc cI cH cE cJ) (wc cI cH cE a) (Pc a) yX4_hasSheet cX4_hasSheet 2 (Option.some Jvm.ClassFile.FieldType.boolean) 1 [.ref (a k0), .int x1] σ (qI D (wc cI cH cE a) (Pc a) σ (bI r)) := by
  refine mOf (plainFor_of_name (by decide)) hw (Nat.le_of_ble_eq_true rfl) [(0, .ref (a k0)), (1, .int x1)] rfl ?_
  intro p e s m args below meth c C hr
  unfold f_X4_hasSheet at hf
  refine g_iload_n (pc := 0) C dX4_hasSheet_0 1 rfl rfl ?_
  refine g_iconst (pc := 1) C dX4_hasSheet_1 ic_0 ?_
  refine g_aload_n (pc := 2) C dX4_hasSheet_2 0 rfl rfl ?_
  refine g_get (pc := 3) C in_X4 (wc_14 hk0) cl_X4 1 (by decide) tw_103 rfl dX4_hasSheet_3 ?_
  refine g_iconst (pc := 6) C dX4_hasSheet_6 ic_1 ?_
  refine g_isub (pc := 7) C dX4_hasSheet_7 ?_
  obtain ⟨r1, h1, hf⟩ := bd_some hf
  refine g_cNi (pc := 8) C (st := []) jW.rf (c_X7_isFromTo l D hw h1) y_X7_isFromTo tn_28 rfl ⟨by decide, by decide⟩ ⟨Nat.zero_le _, Nat.zero_le _⟩ (Nat.le_of_ble_eq_true rfl) dX4_hasSheet_8 rfl ?_
  cases hf
  exact g_zret (pc := 11) (b := _) C hr dX4_hasSheet_11

set_option maxHeartbeats 4000000 in
set_option maxRecDepth 100000 in
theorem c_X4_numberAt (l : Launch) (D : va_G) {cI cH cE cJ : ClassId} {a : Nat → Nat} (hw : ∀ σ, va_D (Pc a) (wc cI cH cE a σ)) {σ : Me} {k0 : Nat} {x1 : Int32} {x2 : Int32} (hk0 : kd k0 = 14) {r : Int32} (hf : f_X4_numberAt σ k0 x1 x2 = some r) : Mq l D (tyc cI cH cE cJ) (wc cI cH cE a) (Pc a) yX4_numberAt cX4_numberAt 3 (Option.some Jvm.ClassFile.FieldType.int) 0 [.ref (a k0), .int x1, .int x2] σ (qI D (wc cI cH cE a) (Pc a) σ r) := by
  refine mOf (plainFor_of_name (by decide)) hw (Nat.le_of_ble_eq_true rfl) [(0, .ref (a k0)), (1, .int x1), (2, .int x2)] rfl ?_
  intro p e s m args below meth c C hr
  unfold f_X4_numberAt at hf
  refine g_aload_n (pc := 0) C dX4_numberAt_0 0 rfl rfl ?_
  refine g_get (pc := 1) C in_X4 (wc_14 hk0) cl_X4 2 (by decide) tw_105 rfl dX4_numberAt_1 ?_
  refine g_iload_n (pc := 4) C dX4_numberAt_4 2 rfl rfl ?_
  refine g_aload_n (pc := 5) C dX4_numberAt_5 0 rfl rfl ?_
  refine g_get (pc := 6) C in_X4 (wc_14 hk0) cl_X4 1 (by decide) tw_103 rfl dX4_numberAt_6 ?_
  refine g_imul (pc := 9) C dX4_numberAt_9 ?_
  refine g_iadd (pc := 10) C dX4_numberAt_10 ?_
  refine g_iload_n (pc := 11) C dX4_numberAt_11 1 rfl rfl ?_
  refine g_iadd (pc := 12) C dX4_numberAt_12 ?_
  cases hf
  exact g_iret (pc := 13) C hr dX4_numberAt_13

set_option maxHeartbeats 4000000 in
set_option maxRecDepth 100000 in
theorem c_X4_placeOf (l : Launch) (D : va_G) {cI cH cE cJ : ClassId} {a : Nat → Nat} (hw : ∀ σ, va_D (Pc a) (wc cI cH cE a σ)) {σ : Me} {k0 : Nat} {x1 : Int32} (hk0 : kd k0 = 14) {r : Int32} (hf : f_X4_placeOf σ k0 x1 = some r) : Mq l D (tyc cI cH cE cJ) (wc cI cH cE a) (Pc a) yX4_placeOf cX4_placeOf 2 (Option.some Jvm.ClassFile.FieldType.int) 0 [.ref (a k0), .int x1] σ (qI D (wc cI cH cE a) (Pc a) σ r) := by
  refine mOf (plainFor_of_name (by decide)) hw (Nat.le_of_ble_eq_true rfl) [(0, .ref (a k0)), (1, .int x1)] rfl ?_
  intro p e s m args below meth c C hr
  unfold f_X4_placeOf at hf
  refine g_aload_n (pc := 0) C dX4_placeOf_0 0 rfl rfl ?_
  refine g_get (pc := 1) C in_X4 (wc_14 hk0) cl_X4 1 (by decide) tw_103 rfl dX4_placeOf_1 ?_
  refine g_iconst (pc := 4) C dX4_placeOf_4 ic_1 ?_
  refine g_icmp_ge (pc := 5) C 13 dX4_placeOf_5 (by decide) (fun q1 => ?_) (fun q1 => ?_)
  · replace hf := (if_pos q1).symm.trans hf
    refine g_iload_n (pc := 13) C dX4_placeOf_13 1 rfl rfl ?_
    refine g_aload_n (pc := 14) C dX4_placeOf_14 0 rfl rfl ?_
    refine g_get (pc := 15) C in_X4 (wc_14 hk0) cl_X4 2 (by decide) tw_105 rfl dX4_placeOf_15 ?_
    refine g_isub (pc := 18) C dX4_placeOf_18 ?_
    refine g_aload_n (pc := 19) C dX4_placeOf_19 0 rfl rfl ?_
    refine g_get (pc := 20) C in_X4 (wc_14 hk0) cl_X4 1 (by decide) tw_103 rfl dX4_placeOf_20 ?_
    obtain ⟨q2, hf⟩ := gd_some hf
    refine g_idiv (pc := 23) C dX4_placeOf_23 (of_decide_eq_true q2) ?_
    cases hf
    exact g_iret (pc := 24) C hr dX4_placeOf_24
  · replace hf := (if_neg q1).symm.trans hf
    refine g_bipush (pc := 8) C dX4_placeOf_8 bp_m4 ?_
    refine g_goto (pc := 10) C 24 dX4_placeOf_10 (by decide) ?_
    cases hf
    exact g_iret (pc := 24) C hr dX4_placeOf_24
