set_option maxHeartbeats 4000000 in
set_option maxRecDepth 100000 in
theorem c_X8_adds (l : Launch) (D : va_G) {cI cH cE cJ : ClassId} {b : Nat → Nat} (hw : ∀ σ, va_D (Pm b) (wm cJ b σ)) {σ : Me} {x1 : Int32} {x2 : Int32} {x3 : Int32} {x4 : Int32} {σ' : Me}  (hf : f_X8_adds σ x1 x2 x3 x4 = some σ') : Mq l D (tyc cI cH cE cJ) (wm cJ b) (Pm b) yX8_adds cX8_adds 6 (Option.none : Option Jvm.ClassFile.FieldType) 0 [.ref (b 0), .int x1, .int x2, .int x3, .int x4] σ (qV D (wm cJ b) (Pm b) σ') := by
  refine mOf (plainFor_of_name (by decide)) hw (Nat.le_of_ble_eq_true rfl) [(0, .ref (b 0)), (1, .int x1), (2, .int x2), (3, .int x3), (4, .int x4)] rfl ?_
  intro p e s m args below meth c C hr
  unfold f_X8_adds at hf
  refine g_iconst (pc := 0) C dX8_adds_0 ic_4 ?_
  refine g_bipush (pc := 1) C dX8_adds_1 bp_6 ?_
  refine g_aload_n (pc := 3) C dX8_adds_3 0 rfl rfl ?_
  refine g_get (pc := 4) C in_X8 wm_0 cl_X8 3 (by decide) tw_625 rfl dX8_adds_4 ?_
  refine g_bipush (pc := 7) C dX8_adds_7 bp_23 ?_
  refine g_iald (pc := 9) C 3 wm_2 rfl (by decide) tnn_23 dX8_adds_9 ?_
  refine g_imul (pc := 10) C dX8_adds_10 ?_
  refine g_iadd (pc := 11) C dX8_adds_11 ?_
  refine g_istore (pc := 12) C [(5, .int (4 + (6 * (σ 2 23)))), (0, .ref (b 0)), (1, .int x1), (2, .int x2), (3, .int x3), (4, .int x4)] dX8_adds_12 (by decide) rfl ?_
  refine g_aload_n (pc := 14) C dX8_adds_14 1 rfl rfl ?_
  refine g_get (pc := 15) C in_X8 wm_0 cl_X8 3 (by decide) tw_625 rfl dX8_adds_15 ?_
  refine g_iload (pc := 18) C dX8_adds_18 0 rfl ?_
  refine g_iload_n (pc := 20) C dX8_adds_20 2 rfl rfl ?_
  obtain ⟨q2, hf⟩ := gd_some hf
  refine g_iast (pc := 21) C 3 wm_2 rfl q2 rfl ma_2 dX8_adds_21 ?_
  refine g_aload_n (pc := 22) C dX8_adds_22 1 rfl rfl ?_
  refine g_get (pc := 23) C in_X8 wm_0 cl_X8 3 (by decide) tw_625 rfl dX8_adds_23 ?_
  refine g_iload (pc := 26) C dX8_adds_26 0 rfl ?_
  refine g_iconst (pc := 28) C dX8_adds_28 ic_1 ?_
  refine g_iadd (pc := 29) C dX8_adds_29 ?_
  refine g_iload_n (pc := 30) C dX8_adds_30 3 rfl rfl ?_
  obtain ⟨q3, hf⟩ := gd_some hf
  refine g_iast (pc := 31) C 3 wm_2 rfl q3 rfl ma_2 dX8_adds_31 ?_
  refine g_aload_n (pc := 32) C dX8_adds_32 1 rfl rfl ?_
  refine g_get (pc := 33) C in_X8 wm_0 cl_X8 3 (by decide) tw_625 rfl dX8_adds_33 ?_
  refine g_iload (pc := 36) C dX8_adds_36 0 rfl ?_
  refine g_iconst (pc := 38) C dX8_adds_38 ic_2 ?_
  refine g_iadd (pc := 39) C dX8_adds_39 ?_
  refine g_iload_n (pc := 40) C dX8_adds_40 4 rfl rfl ?_
  obtain ⟨q4, hf⟩ := gd_some hf
  refine g_iast (pc := 41) C 3 wm_2 rfl q4 rfl ma_2 dX8_adds_41 ?_
  refine g_aload_n (pc := 42) C dX8_adds_42 1 rfl rfl ?_
  refine g_get (pc := 43) C in_X8 wm_0 cl_X8 3 (by decide) tw_625 rfl dX8_adds_43 ?_
  refine g_iload (pc := 46) C dX8_adds_46 0 rfl ?_
  refine g_iconst (pc := 48) C dX8_adds_48 ic_3 ?_
  refine g_iadd (pc := 49) C dX8_adds_49 ?_
  refine g_iload (pc := 50) C dX8_adds_50 5 rfl ?_
  obtain ⟨q5, hf⟩ := gd_some hf
  refine g_iast (pc := 52) C 3 wm_2 rfl q5 rfl ma_2 dX8_adds_52 ?_
  refine g_aload_n (pc := 53) C dX8_adds_53 1 rfl rfl ?_
  refine g_get (pc := 54) C in_X8 wm_0 cl_X8 3 (by decide) tw_625 rfl dX8_adds_54 ?_
  refine g_bipush (pc := 57) C dX8_adds_57 bp_23 ?_
  refine g_dup2 (pc := 59) C dX8_adds_59 rfl rfl ?_
  refine g_iald (pc := 60) C 3 wm_2 rfl (by decide) tnn_23 dX8_adds_60 ?_
  refine g_iconst (pc := 61) C dX8_adds_61 ic_1 ?_
  refine g_iadd (pc := 62) C dX8_adds_62 ?_
  refine g_iast (pc := 63) C 3 wm_2 rfl (by decide) tnn_23 ma_2 dX8_adds_63 ?_
  cases hf
  exact g_vret (pc := 64) C hr dX8_adds_64

set_option maxHeartbeats 4000000 in
set_option maxRecDepth 100000 in
theorem c_X8_in (l : Launch) (D : va_G) {cI cH cE cJ : ClassId} {b : Nat → Nat} (hw : ∀ σ, va_D (Pm b) (wm cJ b σ)) {σ : Me} {x0 : Int64} {x2 : Int64} {x4 : Int64} {r : Bool} (hf : f_X8_in x0 x2 x4 = some r) : Mq l D (tyc cI cH cE cJ) (wm cJ b) (Pm b) yX8_in cX8_in 6 (Option.some Jvm.ClassFile.FieldType.boolean) 0 [.long x0, .long x2, .long x4] σ (qI D (wm cJ b) (Pm b) σ (bI r)) := by
  refine mOf (plainFor_of_name (by decide)) hw (Nat.le_of_ble_eq_true rfl) [(0, .long x0), (2, .long x2), (4, .long x4)] rfl ?_
  intro p e s m args below meth c C hr
  unfold f_X8_in at hf
  refine g_lload_n (pc := 0) C dX8_in_0 0 rfl rfl ?_
  refine g_lload_n (pc := 1) C dX8_in_1 1 rfl rfl ?_
  refine g_lcmp (pc := 2) C dX8_in_2 ?_
  refine g_if_lt (pc := 3) C 17 dX8_in_3 (by decide) (fun q1 => ?_) (fun q1 => ?_)
  · replace hf := (if_pos q1).symm.trans hf
    refine g_iconst (pc := 17) C dX8_in_17 ic_0 ?_
    cases hf
    exact g_zret (pc := 18) (b := false) C hr dX8_in_18
  · replace hf := (if_neg q1).symm.trans hf
    refine g_lload_n (pc := 6) C dX8_in_6 0 rfl rfl ?_
    refine g_lload (pc := 7) C dX8_in_7 2 rfl ?_
    refine g_lcmp (pc := 9) C dX8_in_9 ?_
    refine g_if_gt (pc := 10) C 17 dX8_in_10 (by decide) (fun q2 => ?_) (fun q2 => ?_)
    · replace hf := (if_pos q2).symm.trans hf
      refine g_iconst (pc := 17) C dX8_in_17 ic_0 ?_
      cases hf
      exact g_zret (pc := 18) (b := false) C hr dX8_in_18
    · replace hf := (if_neg q2).symm.trans hf
      refine g_iconst (pc := 13) C dX8_in_13 ic_1 ?_
      refine g_goto (pc := 14) C 18 dX8_in_14 (by decide) ?_
      cases hf
      exact g_zret (pc := 18) (b := true) C hr dX8_in_18

set_option maxHeartbeats 4000000 in
set_option maxRecDepth 100000 in
theorem c_X8_write (l : Launch) (D : va_G) {cI cH cE cJ : ClassId} {b : Nat → Nat} (hw : ∀ σ, va_D (Pm b) (wm cJ b σ)) {σ : Me} {x1 : Int32} {σ' : Me} {r : Int32} (hf : f_X8_write σ x1 = some (σ', r)) : Mq l D (tyc cI cH cE cJ) (wm cJ b) (Pm b) yX8_write cX8_write 2 (Option.some Jvm.ClassFile.FieldType.int) 1 [.ref (b 0), .int x1] σ (qI D (wm cJ b) (Pm b) σ' r) := by
  refine mOf (plainFor_of_name (by decide)) hw (Nat.le_of_ble_eq_true rfl) [(0, .ref (b 0)), (1, .int x1)] rfl ?_
  intro p e s m args below meth c C hr
  unfold f_X8_write at hf
  refine g_iload_n (pc := 0) C dX8_write_0 1 rfl rfl ?_
  refine g_i2l (pc := 1) C dX8_write_1 ?_
  refine g_ldc2 (pc := 2) C tw_651 dX8_write_2 ?_
  refine g_ldc2 (pc := 5) C tw_652 dX8_write_5 ?_
  obtain ⟨r1, h1, hf⟩ := bd_some hf
  refine g_cSi (pc := 8) C (st := []) jW.rf (c_X8_in l D hw h1) y_X8_in tw_653 rfl ⟨by decide, by decide⟩ ⟨Nat.zero_le _, Nat.zero_le _⟩ (Nat.le_of_ble_eq_true rfl) dX8_write_8 rfl ?_
  refine g_if_ne (pc := 11) C 16 dX8_write_11 (by decide) (fun q2 => ?_) (fun q2 => ?_)
  · replace hf := (if_neg q2).symm.trans hf
    refine g_aload_n (pc := 16) C dX8_write_16 0 rfl rfl ?_
    refine g_get (pc := 17) C in_X8 wm_0 cl_X8 0 (by decide) tw_622 rfl dX8_write_17 ?_
    refine g_sipush (pc := 20) C dX8_write_20 sp_200 ?_
    refine g_icmp_ne (pc := 23) C 29 dX8_write_23 (by decide) (fun q3 => ?_) (fun q3 => ?_)
    · replace hf := (if_neg q3).symm.trans hf
      refine g_aload_n (pc := 29) C dX8_write_29 0 rfl rfl ?_
      refine g_get (pc := 30) C in_X8 wm_0 cl_X8 1 (by decide) tw_623 rfl dX8_write_30 ?_
      refine g_aload_n (pc := 33) C dX8_write_33 0 rfl rfl ?_
      refine g_get (pc := 34) C in_X8 wm_0 cl_X8 0 (by decide) tw_622 rfl dX8_write_34 ?_
      refine g_iload_n (pc := 37) C dX8_write_37 1 rfl rfl ?_
      obtain ⟨q4, hf⟩ := gd_some hf
      refine g_iast (pc := 38) C 3 wm_1 rfl q4 rfl ma_1 dX8_write_38 ?_
      refine g_aload_n (pc := 39) C dX8_write_39 0 rfl rfl ?_
      refine g_dup (pc := 40) C dX8_write_40 rfl ?_
      refine g_get (pc := 41) C in_X8 wm_0 cl_X8 0 (by decide) tw_622 rfl dX8_write_41 ?_
      refine g_iconst (pc := 44) C dX8_write_44 ic_1 ?_
      refine g_iadd (pc := 45) C dX8_write_45 ?_
      refine g_put (pc := 46) C in_X8 tyX8 tyX8_ok nmX8 wm_0 cl_X8 0 (by decide) tw_622 rfl rfl rfl (Nat.le_of_ble_eq_true rfl) mp_0 dX8_write_46 ?_
      refine g_aload_n (pc := 49) C dX8_write_49 0 rfl rfl ?_
      refine g_get (pc := 50) C in_X8 wm_0 cl_X8 0 (by decide) tw_622 rfl dX8_write_50 ?_
      cases hf
      exact g_iret (pc := 53) C hr dX8_write_53
    · replace hf := (if_pos q3).symm.trans hf
      refine g_bipush (pc := 26) C dX8_write_26 bp_m3 ?_
      cases hf
      exact g_iret (pc := 28) C hr dX8_write_28
  · replace hf := (if_pos q2).symm.trans hf
    refine g_iconst (pc := 14) C dX8_write_14 ic_m1 ?_
    cases hf
    exact g_iret (pc := 15) C hr dX8_write_15

set_option maxHeartbeats 4000000 in
set_option maxRecDepth 100000 in
theorem c_X8_wipe (l : Launch) (D : va_G) {cI cH cE cJ : ClassId} {b : Nat → Nat} (hw : ∀ σ, va_D (Pm b) (wm cJ b σ)) {σ : Me} {σ' : Me} {r : Int32} (hf : f_X8_wipe σ = some (σ', r)) : Mq l D (tyc cI cH cE cJ) (wm cJ b) (Pm b) yX8_wipe cX8_wipe 2 (Option.some Jvm.ClassFile.FieldType.int) 0 [.ref (b 0)] σ (qI D (wm cJ b) (Pm b) σ' r) := by
  refine mOf (plainFor_of_name (by decide)) hw (Nat.le_of_ble_eq_true rfl) [(0, .ref (b 0))] rfl ?_
  intro p e s m args below meth c C hr
  unfold f_X8_wipe at hf
  refine g_aload_n (pc := 0) C dX8_wipe_0 0 rfl rfl ?_
  refine g_get (pc := 1) C in_X8 wm_0 cl_X8 0 (by decide) tw_622 rfl dX8_wipe_1 ?_
  refine g_istore_n (pc := 4) C [(1, .int (σ 0 0)), (0, .ref (b 0))] dX8_wipe_4 rfl (by decide) rfl ?_
  refine g_aload_n (pc := 5) C dX8_wipe_5 1 rfl rfl ?_
  refine g_iconst (pc := 6) C dX8_wipe_6 ic_0 ?_
  refine g_put (pc := 7) C in_X8 tyX8 tyX8_ok nmX8 wm_0 cl_X8 0 (by decide) tw_622 rfl rfl rfl (Nat.le_of_ble_eq_true rfl) mp_0 dX8_wipe_7 ?_
  refine g_iload_n (pc := 10) C dX8_wipe_10 0 rfl rfl ?_
  cases hf
  exact g_iret (pc := 11) C hr dX8_wipe_11

set_option maxHeartbeats 4000000 in
set_option maxRecDepth 100000 in
theorem c_X8_byteAt (l : Launch) (D : va_G) {cI cH cE cJ : ClassId} {b : Nat → Nat} (hw : ∀ σ, va_D (Pm b) (wm cJ b σ)) {σ : Me} {x1 : Int32} {r : Int32} (hf : f_X8_byteAt σ x1 = some r) : Mq l D (tyc cI cH cE cJ) (wm cJ b) (Pm b) yX8_byteAt cX8_byteAt 2 (Option.some Jvm.ClassFile.FieldType.int) 0 [.ref (b 0), .int x1] σ (qI D (wm cJ b) (Pm b) σ r) := by
  refine mOf (plainFor_of_name (by decide)) hw (Nat.le_of_ble_eq_true rfl) [(0, .ref (b 0)), (1, .int x1)] rfl ?_
  intro p e s m args below meth c C hr
  unfold f_X8_byteAt at hf
  refine g_iload_n (pc := 0) C dX8_byteAt_0 1 rfl rfl ?_
  refine g_aload_n (pc := 1) C dX8_byteAt_1 0 rfl rfl ?_
  refine g_get (pc := 2) C in_X8 wm_0 cl_X8 0 (by decide) tw_622 rfl dX8_byteAt_2 ?_
  refine g_icmp_ge (pc := 5) C 17 dX8_byteAt_5 (by decide) (fun q1 => ?_) (fun q1 => ?_)
  · replace hf := (if_pos q1).symm.trans hf
    refine g_iconst (pc := 17) C dX8_byteAt_17 ic_0 ?_
    cases hf
    exact g_iret (pc := 18) C hr dX8_byteAt_18
  · replace hf := (if_neg q1).symm.trans hf
    refine g_aload_n (pc := 8) C dX8_byteAt_8 0 rfl rfl ?_
    refine g_get (pc := 9) C in_X8 wm_0 cl_X8 1 (by decide) tw_623 rfl dX8_byteAt_9 ?_
    refine g_iload_n (pc := 12) C dX8_byteAt_12 1 rfl rfl ?_
    obtain ⟨q2, hf⟩ := gd_some hf
    refine g_iald (pc := 13) C 3 wm_1 rfl q2 rfl dX8_byteAt_13 ?_
    refine g_goto (pc := 14) C 18 dX8_byteAt_14 (by decide) ?_
    cases hf
    exact g_iret (pc := 18) C hr dX8_byteAt_18

set_option maxHeartbeats 4000000 in
set_option maxRecDepth 100000 in
theorem c_X8_gone (l : Launch) (D : va_G) {cI cH cE cJ : ClassId} {b : Nat → Nat} (hw : ∀ σ, va_D (Pm b) (wm cJ b σ)) {σ : Me} {x1 : Int32} {σ' : Me} {r : Bool} (hf : f_X8_gone σ x1 = some (σ', r)) : Mq l D (tyc cI cH cE cJ) (wm cJ b) (Pm b) yX8_gone cX8_gone 3 (Option.some Jvm.ClassFile.FieldType.boolean) 1 [.ref (b 0), .int x1] σ (qI D (wm cJ b) (Pm b) σ' (bI r)) := by
  refine mOf (plainFor_of_name (by decide)) hw (Nat.le_of_ble_eq_true rfl) [(0, .ref (b 0)), (1, .int x1)] rfl ?_
  intro p e s m args below meth c C hr
  unfold f_X8_gone at hf
  refine g_aload_n (pc := 0) C dX8_gone_0 0 rfl rfl ?_
  refine g_aload_n (pc := 1) C dX8_gone_1 0 rfl rfl ?_
  refine g_get (pc := 2) C in_X8 wm_0 cl_X8 2 (by decide) tw_624 rfl dX8_gone_2 ?_
  obtain ⟨r1, h1, hf⟩ := bd_some hf
  refine g_cVi (pc := 5) C (st := []) jW.rf (c_X8_byteAt l D hw h1) y_X8_byteAt tw_672 rfl ⟨by decide, by decide⟩ ⟨Nat.zero_le _, Nat.zero_le _⟩ (Nat.le_of_ble_eq_true rfl) wm_0 cl_X8 rfl dX8_gone_5 rfl ?_
  refine g_iload_n (pc := 8) C dX8_gone_8 1 rfl rfl ?_
  refine g_icmp_ne (pc := 9) C 16 dX8_gone_9 (by decide) (fun q2 => ?_) (fun q2 => ?_)
  · replace hf := (if_neg q2).symm.trans hf
    refine g_iconst (pc := 16) C dX8_gone_16 ic_0 ?_
    refine g_istore_n (pc := 17) C [(2, .int 0), (0, .ref (b 0)), (1, .int x1)] dX8_gone_17 rfl (by decide) rfl ?_
    refine g_aload_n (pc := 18) C dX8_gone_18 1 rfl rfl ?_
    refine g_dup (pc := 19) C dX8_gone_19 rfl ?_
    refine g_get (pc := 20) C in_X8 wm_0 cl_X8 2 (by decide) tw_624 rfl dX8_gone_20 ?_
    refine g_iconst (pc := 23) C dX8_gone_23 ic_1 ?_
    refine g_iadd (pc := 24) C dX8_gone_24 ?_
    refine g_put (pc := 25) C in_X8 tyX8 tyX8_ok nmX8 wm_0 cl_X8 2 (by decide) tw_624 rfl rfl rfl (Nat.le_of_ble_eq_true rfl) mp_2 dX8_gone_25 ?_
    refine g_iload_n (pc := 28) C dX8_gone_28 0 rfl rfl ?_
    cases hf
    exact g_zret (pc := 29) (b := false) C hr dX8_gone_29
  · replace hf := (if_pos q2).symm.trans hf
    refine g_iconst (pc := 12) C dX8_gone_12 ic_1 ?_
    refine g_goto (pc := 13) C 17 dX8_gone_13 (by decide) ?_
    refine g_istore_n (pc := 17) C [(2, .int 1), (0, .ref (b 0)), (1, .int x1)] dX8_gone_17 rfl (by decide) rfl ?_
    refine g_aload_n (pc := 18) C dX8_gone_18 1 rfl rfl ?_
    refine g_dup (pc := 19) C dX8_gone_19 rfl ?_
    refine g_get (pc := 20) C in_X8 wm_0 cl_X8 2 (by decide) tw_624 rfl dX8_gone_20 ?_
    refine g_iconst (pc := 23) C dX8_gone_23 ic_1 ?_
    refine g_iadd (pc := 24) C dX8_gone_24 ?_
    refine g_put (pc := 25) C in_X8 tyX8 tyX8_ok nmX8 wm_0 cl_X8 2 (by decide) tw_624 rfl rfl rfl (Nat.le_of_ble_eq_true rfl) mp_2 dX8_gone_25 ?_
    refine g_iload_n (pc := 28) C dX8_gone_28 0 rfl rfl ?_
    cases hf
    exact g_zret (pc := 29) (b := true) C hr dX8_gone_29

set_option maxHeartbeats 4000000 in
set_option maxRecDepth 100000 in
theorem c_X8_number2 (l : Launch) (D : va_G) {cI cH cE cJ : ClassId} {b : Nat → Nat} (hw : ∀ σ, va_D (Pm b) (wm cJ b σ)) {σ : Me} {x1 : Int32} {x2 : Int32} {x3 : Int32} {σ' : Me} {r : Bool} (hf : f_X8_number2 σ x1 x2 x3 = some (σ', r)) : Mq l D (tyc cI cH cE cJ) (wm cJ b) (Pm b) yX8_number2 cX8_number2 6 (Option.some Jvm.ClassFile.FieldType.boolean) 1 [.ref (b 0), .int x1, .int x2, .int x3] σ (qI D (wm cJ b) (Pm b) σ' (bI r)) := by
  refine mOf (plainFor_of_name (by decide)) hw (Nat.le_of_ble_eq_true rfl) [(0, .ref (b 0)), (1, .int x1), (2, .int x2), (3, .int x3)] rfl ?_
  intro p e s m args below meth c C hr
  have b68 : ∀ (σ : Me) (x4 : Int32) (x5 : Int32) (hf : f_X8_number2_68 σ x1 x2 x3 x4 x5 = some (σ', r)), Gg p l e (rmd 1) s m args below meth c D (Pm b) (wm cJ b) 6 0 0 (MQ below ((qI D (wm cJ b) (Pm b) σ' (bI r)) s.heap.size) args s 0 0 (fR (Pm b) s.heap.size)) σ [(0, .ref (b 0)), (1, .int x1), (2, .int x2), (3, .int x3), (4, .int x4), (5, .int x5)] 68 [] := by
    intro  σ x4 x5 hf
    unfold f_X8_number2_68 at hf
    refine g_aload_n (pc := 68) C dX8_number2_68 0 rfl rfl ?_
    refine g_get (pc := 69) C in_X8 wm_0 cl_X8 4 (by decide) tw_626 rfl dX8_number2_69 ?_
    refine g_iload_n (pc := 72) C dX8_number2_72 1 rfl rfl ?_
    refine g_iload (pc := 73) C dX8_number2_73 4 rfl ?_
    obtain ⟨q1, hf⟩ := gd_some hf
    refine g_iast (pc := 75) C 3 wm_3 rfl q1 rfl ma_3 dX8_number2_75 ?_
    refine g_iload (pc := 76) C dX8_number2_76 5 rfl ?_
    refine g_if_le (pc := 78) C 98 dX8_number2_78 (by decide) (fun q2 => ?_) (fun q2 => ?_)
    · replace hf := (if_pos q2).symm.trans hf
      refine g_iconst (pc := 98) C dX8_number2_98 ic_0 ?_
      cases hf
      exact g_zret (pc := 99) (b := false) C hr dX8_number2_99
    · replace hf := (if_neg q2).symm.trans hf
      refine g_iload (pc := 81) C dX8_number2_81 4 rfl ?_
      refine g_i2l (pc := 83) C dX8_number2_83 ?_
      refine g_iload_n (pc := 84) C dX8_number2_84 2 rfl rfl ?_
      refine g_i2l (pc := 85) C dX8_number2_85 ?_
      refine g_iload_n (pc := 86) C dX8_number2_86 3 rfl rfl ?_
      refine g_i2l (pc := 87) C dX8_number2_87 ?_
      obtain ⟨r3, h3, hf⟩ := bd_some hf
      refine g_cSi (pc := 88) C (st := []) jW.rf (c_X8_in l D hw h3) y_X8_in tw_653 rfl ⟨by decide, by decide⟩ ⟨Nat.zero_le _, Nat.zero_le _⟩ (Nat.le_of_ble_eq_true rfl) dX8_number2_88 rfl ?_
      refine g_if_eq (pc := 91) C 98 dX8_number2_91 (by decide) (fun q4 => ?_) (fun q4 => ?_)
      · replace hf := (if_pos q4).symm.trans hf
        refine g_iconst (pc := 98) C dX8_number2_98 ic_0 ?_
        cases hf
        exact g_zret (pc := 99) (b := false) C hr dX8_number2_99
      · replace hf := (if_neg q4).symm.trans hf
        refine g_iconst (pc := 94) C dX8_number2_94 ic_1 ?_
        refine g_goto (pc := 95) C 99 dX8_number2_95 (by decide) ?_
        cases hf
        exact g_zret (pc := 99) (b := true) C hr dX8_number2_99
  have b6 : ∀ (n : Nat) (σ : Me) (x4 : Int32) (x5 : Int32) (hf : f_X8_number2_6 n σ x1 x2 x3 x4 x5 = some (σ', r)), Gg p l e (rmd 1) s m args below meth c D (Pm b) (wm cJ b) 6 0 0 (MQ below ((qI D (wm cJ b) (Pm b) σ' (bI r)) s.heap.size) args s 0 0 (fR (Pm b) s.heap.size)) σ [(0, .ref (b 0)), (1, .int x1), (2, .int x2), (3, .int x3), (4, .int x4), (5, .int x5)] 6 [] := by
    intro n
    induction n with
    | zero => intro σ x4 x5 hf; exact absurd hf (by simp [f_X8_number2_6])
    | succ n ih =>
      intro σ x4 x5 hf
      rw [f_X8_number2_6] at hf
      refine g_iload (pc := 6) C dX8_number2_6 5 rfl ?_
      refine g_iconst (pc := 8) C dX8_number2_8 ic_2 ?_
      refine g_icmp_ge (pc := 9) C 68 dX8_number2_9 (by decide) (fun q5 => ?_) (fun q5 => ?_)
      · replace hf := (if_pos q5).symm.trans hf
        exact g_sub [0, 1, 2, 3, 4, 5] rfl (b68 σ x4 x5 hf)
      · replace hf := (if_neg q5).symm.trans hf
        refine g_aload_n (pc := 12) C dX8_number2_12 0 rfl rfl ?_
        refine g_aload_n (pc := 13) C dX8_number2_13 0 rfl rfl ?_
        refine g_get (pc := 14) C in_X8 wm_0 cl_X8 2 (by decide) tw_624 rfl dX8_number2_14 ?_
        obtain ⟨r6, h6, hf⟩ := bd_some hf
        refine g_cVi (pc := 17) C (st := []) jW.rf (c_X8_byteAt l D hw h6) y_X8_byteAt tw_672 rfl ⟨by decide, by decide⟩ ⟨Nat.zero_le _, Nat.zero_le _⟩ (Nat.le_of_ble_eq_true rfl) wm_0 cl_X8 rfl dX8_number2_17 rfl ?_
        refine g_i2l (pc := 20) C dX8_number2_20 ?_
        refine g_ldc2 (pc := 21) C tw_676 dX8_number2_21 ?_
        refine g_ldc2 (pc := 24) C tw_677 dX8_number2_24 ?_
        obtain ⟨r7, h7, hf⟩ := bd_some hf
        refine g_cSi (pc := 27) C (st := []) jW.rf (c_X8_in l D hw h7) y_X8_in tw_653 rfl ⟨by decide, by decide⟩ ⟨Nat.zero_le _, Nat.zero_le _⟩ (Nat.le_of_ble_eq_true rfl) dX8_number2_27 rfl ?_
        refine g_if_eq (pc := 30) C 68 dX8_number2_30 (by decide) (fun q8 => ?_) (fun q8 => ?_)
        · replace hf := (if_pos q8).symm.trans hf
          exact g_sub [0, 1, 2, 3, 4, 5] rfl (b68 σ x4 x5 hf)
        · replace hf := (if_neg q8).symm.trans hf
          refine g_bipush (pc := 33) C dX8_number2_33 bp_10 ?_
          refine g_iload (pc := 35) C dX8_number2_35 4 rfl ?_
          refine g_imul (pc := 37) C dX8_number2_37 ?_
          refine g_aload_n (pc := 38) C dX8_number2_38 0 rfl rfl ?_
          refine g_aload_n (pc := 39) C dX8_number2_39 0 rfl rfl ?_
          refine g_get (pc := 40) C in_X8 wm_0 cl_X8 2 (by decide) tw_624 rfl dX8_number2_40 ?_
          obtain ⟨r9, h9, hf⟩ := bd_some hf
          refine g_cVi (pc := 43) C (st := [.int (10 * x4)]) jW.rf (c_X8_byteAt l D hw h9) y_X8_byteAt tw_672 rfl ⟨by decide, by decide⟩ ⟨Nat.zero_le _, Nat.zero_le _⟩ (Nat.le_of_ble_eq_true rfl) wm_0 cl_X8 rfl dX8_number2_43 rfl ?_
          refine g_iadd (pc := 46) C dX8_number2_46 ?_
          refine g_bipush (pc := 47) C dX8_number2_47 bp_48 ?_
          refine g_isub (pc := 49) C dX8_number2_49 ?_
          refine g_istore (pc := 50) C [(4, .int (((10 * x4) + r9) - 48)), (0, .ref (b 0)), (1, .int x1), (2, .int x2), (3, .int x3), (5, .int x5)] dX8_number2_50 (by decide) rfl ?_
          refine g_aload_n (pc := 52) C dX8_number2_52 1 rfl rfl ?_
          refine g_dup (pc := 53) C dX8_number2_53 rfl ?_
          refine g_get (pc := 54) C in_X8 wm_0 cl_X8 2 (by decide) tw_624 rfl dX8_number2_54 ?_
          refine g_iconst (pc := 57) C dX8_number2_57 ic_1 ?_
          refine g_iadd (pc := 58) C dX8_number2_58 ?_
          refine g_put (pc := 59) C in_X8 tyX8 tyX8_ok nmX8 wm_0 cl_X8 2 (by decide) tw_624 rfl rfl rfl (Nat.le_of_ble_eq_true rfl) mp_2 dX8_number2_59 ?_
          refine g_iinc (pc := 62) C [(5, .int (x5 + 1)), (4, .int (((10 * x4) + r9) - 48)), (0, .ref (b 0)), (1, .int x1), (2, .int x2), (3, .int x3)] 5 dX8_number2_62 rfl ic_1 (by decide) rfl ?_
          refine g_goto (pc := 65) C 6 dX8_number2_65 (by decide) ?_
          exact g_sub [2, 3, 4, 5, 1, 0] rfl (ih (up σ 0 2 ((σ 0 2) + 1)) (((10 * x4) + r9) - 48) (x5 + 1) hf)
  unfold f_X8_number2 at hf
  refine g_iconst (pc := 0) C dX8_number2_0 ic_0 ?_
  refine g_istore (pc := 1) C [(4, .int 0), (0, .ref (b 0)), (1, .int x1), (2, .int x2), (3, .int x3)] dX8_number2_1 (by decide) rfl ?_
  refine g_iconst (pc := 3) C dX8_number2_3 ic_0 ?_
  refine g_istore (pc := 4) C [(5, .int 0), (4, .int 0), (0, .ref (b 0)), (1, .int x1), (2, .int x2), (3, .int x3)] dX8_number2_4 (by decide) rfl ?_
  exact g_sub [2, 3, 4, 5, 1, 0] rfl (b6 1000 σ 0 0 hf)

set_option maxHeartbeats 4000000 in
set_option maxRecDepth 100000 in
theorem c_X8_whole_2 (l : Launch) (D : va_G) {cI cH cE cJ : ClassId} {b : Nat → Nat} (hw : ∀ σ, va_D (Pm b) (wm cJ b σ)) {σ : Me} {x1 : Int32} {r : Int32} (hf : f_X8_whole_2 σ x1 = some r) : Mq l D (tyc cI cH cE cJ) (wm cJ b) (Pm b) yX8_whole cX8_whole 4 (Option.some Jvm.ClassFile.FieldType.int) 0 [.ref (b 2), .int x1] σ (qI D (wm cJ b) (Pm b) σ r) := by
  refine mOf (plainFor_of_name (by decide)) hw (Nat.le_of_ble_eq_true rfl) [(0, .ref (b 2)), (1, .int x1)] rfl ?_
  intro p e s m args below meth c C hr
  have b4 : ∀ (n : Nat) (x2 : Int32) (x3 : Int32) (hf : f_X8_whole_2_4 n σ x1 x2 x3 = some r), Gg p l e (rmd 0) s m args below meth c D (Pm b) (wm cJ b) 4 0 0 (MQ below ((qI D (wm cJ b) (Pm b) σ r) s.heap.size) args s 0 0 (fR (Pm b) s.heap.size)) σ [(0, .ref (b 2)), (1, .int x1), (2, .int x2), (3, .int x3)] 4 [] := by
    intro n
    induction n with
    | zero => intro x2 x3 hf; exact absurd hf (by simp [f_X8_whole_2_4])
    | succ n ih =>
      intro x2 x3 hf
      rw [f_X8_whole_2_4] at hf
      refine g_iload_n (pc := 4) C dX8_whole_4 3 rfl rfl ?_
      refine g_aload_n (pc := 5) C dX8_whole_5 0 rfl rfl ?_
      refine g_bipush (pc := 6) C dX8_whole_6 bp_22 ?_
      refine g_iald (pc := 8) C 3 wm_2 rfl (by decide) tnn_22 dX8_whole_8 ?_
      refine g_icmp_ge (pc := 9) C 37 dX8_whole_9 (by decide) (fun q2 => ?_) (fun q2 => ?_)
      · replace hf := (if_pos q2).symm.trans hf
        refine g_iload_n (pc := 37) C dX8_whole_37 2 rfl rfl ?_
        cases hf
        exact g_iret (pc := 38) C hr dX8_whole_38
      · replace hf := (if_neg q2).symm.trans hf
        refine g_iload_n (pc := 12) C dX8_whole_12 2 rfl rfl ?_
        refine g_aload_n (pc := 13) C dX8_whole_13 0 rfl rfl ?_
        refine g_iload_n (pc := 14) C dX8_whole_14 3 rfl rfl ?_
        obtain ⟨q3, hf⟩ := gd_some hf
        refine g_iald (pc := 15) C 3 wm_2 rfl q3 rfl dX8_whole_15 ?_
        refine g_aload_n (pc := 16) C dX8_whole_16 0 rfl rfl ?_
        refine g_iconst (pc := 17) C dX8_whole_17 ic_4 ?_
        refine g_bipush (pc := 18) C dX8_whole_18 bp_6 ?_
        refine g_iload_n (pc := 20) C dX8_whole_20 1 rfl rfl ?_
        refine g_imul (pc := 21) C dX8_whole_21 ?_
        refine g_iadd (pc := 22) C dX8_whole_22 ?_
        refine g_iconst (pc := 23) C dX8_whole_23 ic_2 ?_
        refine g_iadd (pc := 24) C dX8_whole_24 ?_
        refine g_iload_n (pc := 25) C dX8_whole_25 3 rfl rfl ?_
        refine g_iadd (pc := 26) C dX8_whole_26 ?_
        obtain ⟨q4, hf⟩ := gd_some hf
        refine g_iald (pc := 27) C 3 wm_2 rfl q4 rfl dX8_whole_27 ?_
        refine g_imul (pc := 28) C dX8_whole_28 ?_
        refine g_iadd (pc := 29) C dX8_whole_29 ?_
        refine g_istore_n (pc := 30) C [(2, .int (x2 + ((σ 2 x3.toNatClampNeg) * (σ 2 (((4 + (6 * x1)) + 2) + x3).toNatClampNeg)))), (0, .ref (b 2)), (1, .int x1), (3, .int x3)] dX8_whole_30 rfl (by decide) rfl ?_
        refine g_iinc (pc := 31) C [(3, .int (x3 + 1)), (2, .int (x2 + ((σ 2 x3.toNatClampNeg) * (σ 2 (((4 + (6 * x1)) + 2) + x3).toNatClampNeg)))), (0, .ref (b 2)), (1, .int x1)] 3 dX8_whole_31 rfl ic_1 (by decide) rfl ?_
        refine g_goto (pc := 34) C 4 dX8_whole_34 (by decide) ?_
        exact g_sub [2, 3, 1, 0] rfl (ih (x2 + ((σ 2 x3.toNatClampNeg) * (σ 2 (((4 + (6 * x1)) + 2) + x3).toNatClampNeg))) (x3 + 1) hf)
  unfold f_X8_whole_2 at hf
  refine g_iconst (pc := 0) C dX8_whole_0 ic_0 ?_
  refine g_istore_n (pc := 1) C [(2, .int 0), (0, .ref (b 2)), (1, .int x1)] dX8_whole_1 rfl (by decide) rfl ?_
  refine g_iconst (pc := 2) C dX8_whole_2 ic_0 ?_
  refine g_istore_n (pc := 3) C [(3, .int 0), (2, .int 0), (0, .ref (b 2)), (1, .int x1)] dX8_whole_3 rfl (by decide) rfl ?_
  exact g_sub [2, 3, 1, 0] rfl (b4 1000 0 0 hf)

set_option maxHeartbeats 4000000 in
set_option maxRecDepth 100000 in
theorem c_X8_whole_3 (l : Launch) (D : va_G) {cI cH cE cJ : ClassId} {b : Nat → Nat} (hw : ∀ σ, va_D (Pm b) (wm cJ b σ)) {σ : Me} {x1 : Int32} {r : Int32} (hf : f_X8_whole_3 σ x1 = some r) : Mq l D (tyc cI cH cE cJ) (wm cJ b) (Pm b) yX8_whole cX8_whole 4 (Option.some Jvm.ClassFile.FieldType.int) 0 [.ref (b 3), .int x1] σ (qI D (wm cJ b) (Pm b) σ r) := by
  refine mOf (plainFor_of_name (by decide)) hw (Nat.le_of_ble_eq_true rfl) [(0, .ref (b 3)), (1, .int x1)] rfl ?_
  intro p e s m args below meth c C hr
  have b4 : ∀ (n : Nat) (x2 : Int32) (x3 : Int32) (hf : f_X8_whole_3_4 n σ x1 x2 x3 = some r), Gg p l e (rmd 0) s m args below meth c D (Pm b) (wm cJ b) 4 0 0 (MQ below ((qI D (wm cJ b) (Pm b) σ r) s.heap.size) args s 0 0 (fR (Pm b) s.heap.size)) σ [(0, .ref (b 3)), (1, .int x1), (2, .int x2), (3, .int x3)] 4 [] := by
    intro n
    induction n with
    | zero => intro x2 x3 hf; exact absurd hf (by simp [f_X8_whole_3_4])
    | succ n ih =>
      intro x2 x3 hf
      rw [f_X8_whole_3_4] at hf
      refine g_iload_n (pc := 4) C dX8_whole_4 3 rfl rfl ?_
      refine g_aload_n (pc := 5) C dX8_whole_5 0 rfl rfl ?_
      refine g_bipush (pc := 6) C dX8_whole_6 bp_22 ?_
      refine g_iald (pc := 8) C 3 wm_3 rfl (by decide) tnn_22 dX8_whole_8 ?_
      refine g_icmp_ge (pc := 9) C 37 dX8_whole_9 (by decide) (fun q2 => ?_) (fun q2 => ?_)
      · replace hf := (if_pos q2).symm.trans hf
        refine g_iload_n (pc := 37) C dX8_whole_37 2 rfl rfl ?_
        cases hf
        exact g_iret (pc := 38) C hr dX8_whole_38
      · replace hf := (if_neg q2).symm.trans hf
        refine g_iload_n (pc := 12) C dX8_whole_12 2 rfl rfl ?_
        refine g_aload_n (pc := 13) C dX8_whole_13 0 rfl rfl ?_
        refine g_iload_n (pc := 14) C dX8_whole_14 3 rfl rfl ?_
        obtain ⟨q3, hf⟩ := gd_some hf
        refine g_iald (pc := 15) C 3 wm_3 rfl q3 rfl dX8_whole_15 ?_
        refine g_aload_n (pc := 16) C dX8_whole_16 0 rfl rfl ?_
        refine g_iconst (pc := 17) C dX8_whole_17 ic_4 ?_
        refine g_bipush (pc := 18) C dX8_whole_18 bp_6 ?_
        refine g_iload_n (pc := 20) C dX8_whole_20 1 rfl rfl ?_
        refine g_imul (pc := 21) C dX8_whole_21 ?_
        refine g_iadd (pc := 22) C dX8_whole_22 ?_
        refine g_iconst (pc := 23) C dX8_whole_23 ic_2 ?_
        refine g_iadd (pc := 24) C dX8_whole_24 ?_
        refine g_iload_n (pc := 25) C dX8_whole_25 3 rfl rfl ?_
        refine g_iadd (pc := 26) C dX8_whole_26 ?_
        obtain ⟨q4, hf⟩ := gd_some hf
        refine g_iald (pc := 27) C 3 wm_3 rfl q4 rfl dX8_whole_27 ?_
        refine g_imul (pc := 28) C dX8_whole_28 ?_
        refine g_iadd (pc := 29) C dX8_whole_29 ?_
        refine g_istore_n (pc := 30) C [(2, .int (x2 + ((σ 3 x3.toNatClampNeg) * (σ 3 (((4 + (6 * x1)) + 2) + x3).toNatClampNeg)))), (0, .ref (b 3)), (1, .int x1), (3, .int x3)] dX8_whole_30 rfl (by decide) rfl ?_
        refine g_iinc (pc := 31) C [(3, .int (x3 + 1)), (2, .int (x2 + ((σ 3 x3.toNatClampNeg) * (σ 3 (((4 + (6 * x1)) + 2) + x3).toNatClampNeg)))), (0, .ref (b 3)), (1, .int x1)] 3 dX8_whole_31 rfl ic_1 (by decide) rfl ?_
        refine g_goto (pc := 34) C 4 dX8_whole_34 (by decide) ?_
        exact g_sub [2, 3, 1, 0] rfl (ih (x2 + ((σ 3 x3.toNatClampNeg) * (σ 3 (((4 + (6 * x1)) + 2) + x3).toNatClampNeg))) (x3 + 1) hf)
  unfold f_X8_whole_3 at hf
  refine g_iconst (pc := 0) C dX8_whole_0 ic_0 ?_
  refine g_istore_n (pc := 1) C [(2, .int 0), (0, .ref (b 3)), (1, .int x1)] dX8_whole_1 rfl (by decide) rfl ?_
  refine g_iconst (pc := 2) C dX8_whole_2 ic_0 ?_
  refine g_istore_n (pc := 3) C [(3, .int 0), (2, .int 0), (0, .ref (b 3)), (1, .int x1)] dX8_whole_3 rfl (by decide) rfl ?_
  exact g_sub [2, 3, 1, 0] rfl (b4 1000 0 0 hf)

set_option maxHeartbeats 4000000 in
set_option maxRecDepth 100000 in
theorem c_X8_seriesItem (l : Launch) (D : va_G) {cI cH cE cJ : ClassId} {b : Nat → Nat} (hw : ∀ σ, va_D (Pm b) (wm cJ b σ)) {σ : Me} {σ' : Me} {r : Bool} (hf : f_X8_seriesItem σ = some (σ', r)) : Mq l D (tyc cI cH cE cJ) (wm cJ b) (Pm b) yX8_seriesItem cX8_seriesItem 5 (Option.some Jvm.ClassFile.FieldType.boolean) 2 [.ref (b 0)] σ (qI D (wm cJ b) (Pm b) σ' (bI r)) := by
  refine mOf (plainFor_of_name (by decide)) hw (Nat.le_of_ble_eq_true rfl) [(0, .ref (b 0))] rfl ?_
  intro p e s m args below meth c C hr
  have b188 : ∀ (σ : Me) (x1 : Int32) (x3 : Int32) (hf : f_X8_seriesItem_188 σ x1 x3 = some (σ', r)), Gg p l e (rmd 2) s m args below meth c D (Pm b) (wm cJ b) 5 0 0 (MQ below ((qI D (wm cJ b) (Pm b) σ' (bI r)) s.heap.size) args s 0 0 (fR (Pm b) s.heap.size)) σ [(0, .ref (b 0)), (1, .int x1), (3, .int x3)] 188 [] := by
    intro  σ x1 x3 hf
    unfold f_X8_seriesItem_188 at hf
    refine g_aload_n (pc := 188) C dX8_seriesItem_188 0 rfl rfl ?_
    refine g_get (pc := 189) C in_X8 wm_0 cl_X8 4 (by decide) tw_626 rfl dX8_seriesItem_189 ?_
    refine g_bipush (pc := 192) C dX8_seriesItem_192 bp_23 ?_
    refine g_dup2 (pc := 194) C dX8_seriesItem_194 rfl rfl ?_
    refine g_iald (pc := 195) C 3 wm_3 rfl (by decide) tnn_23 dX8_seriesItem_195 ?_
    refine g_iconst (pc := 196) C dX8_seriesItem_196 ic_1 ?_
    refine g_iadd (pc := 197) C dX8_seriesItem_197 ?_
    refine g_iast (pc := 198) C 3 wm_3 rfl (by decide) tnn_23 ma_3 dX8_seriesItem_198 ?_
    refine g_iload_n (pc := 199) C dX8_seriesItem_199 2 rfl rfl ?_
    refine g_if_eq (pc := 200) C 226 dX8_seriesItem_200 (by decide) (fun q3 => ?_) (fun q3 => ?_)
    · replace hf := (if_pos q3).symm.trans hf
      refine g_iconst (pc := 226) C dX8_seriesItem_226 ic_0 ?_
      cases hf
      exact g_zret (pc := 227) (b := false) C hr dX8_seriesItem_227
    · replace hf := (if_neg q3).symm.trans hf
      refine g_aload_n (pc := 203) C dX8_seriesItem_203 0 rfl rfl ?_
      refine g_get (pc := 204) C in_X8 wm_0 cl_X8 4 (by decide) tw_626 rfl dX8_seriesItem_204 ?_
      refine g_iload_n (pc := 207) C dX8_seriesItem_207 1 rfl rfl ?_
      obtain ⟨r4, h4, hf⟩ := bd_some hf
      refine g_cSi (pc := 208) C (st := []) jW.rf (c_X8_whole_3 l D hw h4) y_X8_whole tw_688 rfl ⟨by decide, by decide⟩ ⟨Nat.zero_le _, Nat.zero_le _⟩ (Nat.le_of_ble_eq_true rfl) dX8_seriesItem_208 rfl ?_
      refine g_i2l (pc := 211) C dX8_seriesItem_211 ?_
      refine g_lconst (pc := 212) C dX8_seriesItem_212 lc_1 ?_
      refine g_ldc2 (pc := 213) C tw_691 dX8_seriesItem_213 ?_
      obtain ⟨r5, h5, hf⟩ := bd_some hf
      refine g_cSi (pc := 216) C (st := []) jW.rf (c_X8_in l D hw h5) y_X8_in tw_653 rfl ⟨by decide, by decide⟩ ⟨Nat.zero_le _, Nat.zero_le _⟩ (Nat.le_of_ble_eq_true rfl) dX8_seriesItem_216 rfl ?_
      refine g_if_eq (pc := 219) C 226 dX8_seriesItem_219 (by decide) (fun q6 => ?_) (fun q6 => ?_)
      · replace hf := (if_pos q6).symm.trans hf
        refine g_iconst (pc := 226) C dX8_seriesItem_226 ic_0 ?_
        cases hf
        exact g_zret (pc := 227) (b := false) C hr dX8_seriesItem_227
      · replace hf := (if_neg q6).symm.trans hf
        refine g_iconst (pc := 222) C dX8_seriesItem_222 ic_1 ?_
        refine g_goto (pc := 223) C 227 dX8_seriesItem_223 (by decide) ?_
        cases hf
        exact g_zret (pc := 227) (b := true) C hr dX8_seriesItem_227
  have b135 : ∀ (n : Nat) (σ : Me) (x1 : Int32) (x2 : Int32) (x3 : Int32) (x4 : Int32) (hf : f_X8_seriesItem_135 n σ x1 x2 x3 x4 = some (σ', r)), Gg p l e (rmd 2) s m args below meth c D (Pm b) (wm cJ b) 5 0 0 (MQ below ((qI D (wm cJ b) (Pm b) σ' (bI r)) s.heap.size) args s 0 0 (fR (Pm b) s.heap.size)) σ [(0, .ref (b 0)), (1, .int x1), (2, .int x2), (3, .int x3), (4, .int x4)] 135 [] := by
    intro n
    induction n with
    | zero => intro σ x1 x2 x3 x4 hf; exact absurd hf (by simp [f_X8_seriesItem_135])
    | succ n ih =>
      intro σ x1 x2 x3 x4 hf
      rw [f_X8_seriesItem_135] at hf
      refine g_iload (pc := 135) C dX8_seriesItem_135 4 rfl ?_
      refine g_aload_n (pc := 137) C dX8_seriesItem_137 0 rfl rfl ?_
      refine g_get (pc := 138) C in_X8 wm_0 cl_X8 4 (by decide) tw_626 rfl dX8_seriesItem_138 ?_
      refine g_bipush (pc := 141) C dX8_seriesItem_141 bp_22 ?_
      refine g_iald (pc := 143) C 3 wm_3 rfl (by decide) tnn_22 dX8_seriesItem_143 ?_
      refine g_icmp_ge (pc := 144) C 188 dX8_seriesItem_144 (by decide) (fun q8 => ?_) (fun q8 => ?_)
      · replace hf := (if_pos q8).symm.trans hf
        exact g_sub [0, 1, 3] rfl (b188 σ x1 x3 hf)
      · replace hf := (if_neg q8).symm.trans hf
        refine g_iload_n (pc := 147) C dX8_seriesItem_147 3 rfl rfl ?_
        refine g_if_eq (pc := 148) C 188 dX8_seriesItem_148 (by decide) (fun q9 => ?_) (fun q9 => ?_)
        · replace hf := (if_pos q9).symm.trans hf
          exact g_sub [0, 1, 3] rfl (b188 σ x1 x3 hf)
        · replace hf := (if_neg q9).symm.trans hf
          refine g_aload_n (pc := 151) C dX8_seriesItem_151 0 rfl rfl ?_
          refine g_bipush (pc := 152) C dX8_seriesItem_152 bp_44 ?_
          obtain ⟨s10, r10, h10, hf⟩ := bd2_some hf
          refine g_cVi (pc := 154) C (st := []) jW.rf (c_X8_gone l D hw h10) y_X8_gone tw_684 rfl ⟨by decide, by decide⟩ ⟨Nat.zero_le _, Nat.zero_le _⟩ (Nat.le_of_ble_eq_true rfl) wm_0 cl_X8 rfl dX8_seriesItem_154 rfl ?_
          refine g_if_eq (pc := 157) C 180 dX8_seriesItem_157 (by decide) (fun q11 => ?_) (fun q11 => ?_)
          · replace hf := (if_pos q11).symm.trans hf
            refine g_iconst (pc := 180) C dX8_seriesItem_180 ic_0 ?_
            refine g_istore_n (pc := 181) C [(3, .int 0), (0, .ref (b 0)), (1, .int x1), (2, .int x2), (4, .int x4)] dX8_seriesItem_181 rfl (by decide) rfl ?_
            refine g_iinc (pc := 182) C [(4, .int (x4 + 1)), (3, .int 0), (0, .ref (b 0)), (1, .int x1), (2, .int x2)] 4 dX8_seriesItem_182 rfl ic_1 (by decide) rfl ?_
            refine g_goto (pc := 185) C 135 dX8_seriesItem_185 (by decide) ?_
            exact g_sub [2, 3, 4, 1, 0] rfl (ih s10 x1 x2 0 (x4 + 1) hf)
          · replace hf := (if_neg q11).symm.trans hf
            refine g_aload_n (pc := 160) C dX8_seriesItem_160 0 rfl rfl ?_
            refine g_iload_n (pc := 161) C dX8_seriesItem_161 2 rfl rfl ?_
            refine g_iconst (pc := 162) C dX8_seriesItem_162 ic_2 ?_
            refine g_iadd (pc := 163) C dX8_seriesItem_163 ?_
            refine g_iload (pc := 164) C dX8_seriesItem_164 4 rfl ?_
            refine g_iadd (pc := 166) C dX8_seriesItem_166 ?_
            refine g_iconst (pc := 167) C dX8_seriesItem_167 ic_0 ?_
            refine g_bipush (pc := 168) C dX8_seriesItem_168 bp_40 ?_
            obtain ⟨s12, r12, h12, hf⟩ := bd2_some hf
            refine g_cVi (pc := 170) C (st := []) jW.rf (c_X8_number2 l D hw h12) y_X8_number2 tw_668 rfl ⟨by decide, by decide⟩ ⟨Nat.zero_le _, Nat.zero_le _⟩ (Nat.le_of_ble_eq_true rfl) wm_0 cl_X8 rfl dX8_seriesItem_170 rfl ?_
            refine g_if_eq (pc := 173) C 180 dX8_seriesItem_173 (by decide) (fun q13 => ?_) (fun q13 => ?_)
            · replace hf := (if_pos q13).symm.trans hf
              refine g_iconst (pc := 180) C dX8_seriesItem_180 ic_0 ?_
              refine g_istore_n (pc := 181) C [(3, .int 0), (0, .ref (b 0)), (1, .int x1), (2, .int x2), (4, .int x4)] dX8_seriesItem_181 rfl (by decide) rfl ?_
              refine g_iinc (pc := 182) C [(4, .int (x4 + 1)), (3, .int 0), (0, .ref (b 0)), (1, .int x1), (2, .int x2)] 4 dX8_seriesItem_182 rfl ic_1 (by decide) rfl ?_
              refine g_goto (pc := 185) C 135 dX8_seriesItem_185 (by decide) ?_
              exact g_sub [2, 3, 4, 1, 0] rfl (ih s12 x1 x2 0 (x4 + 1) hf)
            · replace hf := (if_neg q13).symm.trans hf
              refine g_iconst (pc := 176) C dX8_seriesItem_176 ic_1 ?_
              refine g_goto (pc := 177) C 181 dX8_seriesItem_177 (by decide) ?_
              refine g_istore_n (pc := 181) C [(3, .int 1), (0, .ref (b 0)), (1, .int x1), (2, .int x2), (4, .int x4)] dX8_seriesItem_181 rfl (by decide) rfl ?_
              refine g_iinc (pc := 182) C [(4, .int (x4 + 1)), (3, .int 1), (0, .ref (b 0)), (1, .int x1), (2, .int x2)] 4 dX8_seriesItem_182 rfl ic_1 (by decide) rfl ?_
              refine g_goto (pc := 185) C 135 dX8_seriesItem_185 (by decide) ?_
              exact g_sub [2, 3, 4, 1, 0] rfl (ih s12 x1 x2 1 (x4 + 1) hf)
  have b72 : ∀ (n : Nat) (σ : Me) (x1 : Int32) (x2 : Int32) (x3 : Int32) (hf : f_X8_seriesItem_72 n σ x1 x2 x3 = some (σ', r)), Gg p l e (rmd 2) s m args below meth c D (Pm b) (wm cJ b) 5 0 0 (MQ below ((qI D (wm cJ b) (Pm b) σ' (bI r)) s.heap.size) args s 0 0 (fR (Pm b) s.heap.size)) σ [(0, .ref (b 0)), (1, .int x1), (2, .int x2), (3, .int x3)] 72 [] := by
    intro n
    induction n with
    | zero => intro σ x1 x2 x3 hf; exact absurd hf (by simp [f_X8_seriesItem_72])
    | succ n ih =>
      intro σ x1 x2 x3 hf
      rw [f_X8_seriesItem_72] at hf
      refine g_iload_n (pc := 72) C dX8_seriesItem_72 3 rfl rfl ?_
      refine g_iload_n (pc := 73) C dX8_seriesItem_73 1 rfl rfl ?_
      refine g_icmp_ge (pc := 74) C 105 dX8_seriesItem_74 (by decide) (fun q14 => ?_) (fun q14 => ?_)
      · replace hf := (if_pos q14).symm.trans hf
        refine g_aload_n (pc := 105) C dX8_seriesItem_105 0 rfl rfl ?_
        refine g_bipush (pc := 106) C dX8_seriesItem_106 bp_44 ?_
        obtain ⟨s15, r15, h15, hf⟩ := bd2_some hf
        refine g_cVi (pc := 108) C (st := []) jW.rf (c_X8_gone l D hw h15) y_X8_gone tw_684 rfl ⟨by decide, by decide⟩ ⟨Nat.zero_le _, Nat.zero_le _⟩ (Nat.le_of_ble_eq_true rfl) wm_0 cl_X8 rfl dX8_seriesItem_108 rfl ?_
        refine g_if_eq (pc := 111) C 130 dX8_seriesItem_111 (by decide) (fun q16 => ?_) (fun q16 => ?_)
        · replace hf := (if_pos q16).symm.trans hf
          refine g_iconst (pc := 130) C dX8_seriesItem_130 ic_0 ?_
          refine g_istore_n (pc := 131) C [(3, .int 0), (0, .ref (b 0)), (1, .int x1), (2, .int x2)] dX8_seriesItem_131 rfl (by decide) rfl ?_
          refine g_iconst (pc := 132) C dX8_seriesItem_132 ic_0 ?_
          refine g_istore (pc := 133) C [(4, .int 0), (3, .int 0), (0, .ref (b 0)), (1, .int x1), (2, .int x2)] dX8_seriesItem_133 (by decide) rfl ?_
          exact g_sub [2, 3, 4, 1, 0] rfl (b135 1000 s15 x1 x2 0 0 hf)
        · replace hf := (if_neg q16).symm.trans hf
          refine g_aload_n (pc := 114) C dX8_seriesItem_114 0 rfl rfl ?_
          refine g_iload_n (pc := 115) C dX8_seriesItem_115 2 rfl rfl ?_
          refine g_iconst (pc := 116) C dX8_seriesItem_116 ic_1 ?_
          refine g_iadd (pc := 117) C dX8_seriesItem_117 ?_
          refine g_iconst (pc := 118) C dX8_seriesItem_118 ic_0 ?_
          refine g_iconst (pc := 119) C dX8_seriesItem_119 ic_2 ?_
          obtain ⟨s17, r17, h17, hf⟩ := bd2_some hf
          refine g_cVi (pc := 120) C (st := []) jW.rf (c_X8_number2 l D hw h17) y_X8_number2 tw_668 rfl ⟨by decide, by decide⟩ ⟨Nat.zero_le _, Nat.zero_le _⟩ (Nat.le_of_ble_eq_true rfl) wm_0 cl_X8 rfl dX8_seriesItem_120 rfl ?_
          refine g_if_eq (pc := 123) C 130 dX8_seriesItem_123 (by decide) (fun q18 => ?_) (fun q18 => ?_)
          · replace hf := (if_pos q18).symm.trans hf
            refine g_iconst (pc := 130) C dX8_seriesItem_130 ic_0 ?_
            refine g_istore_n (pc := 131) C [(3, .int 0), (0, .ref (b 0)), (1, .int x1), (2, .int x2)] dX8_seriesItem_131 rfl (by decide) rfl ?_
            refine g_iconst (pc := 132) C dX8_seriesItem_132 ic_0 ?_
            refine g_istore (pc := 133) C [(4, .int 0), (3, .int 0), (0, .ref (b 0)), (1, .int x1), (2, .int x2)] dX8_seriesItem_133 (by decide) rfl ?_
            exact g_sub [2, 3, 4, 1, 0] rfl (b135 1000 s17 x1 x2 0 0 hf)
          · replace hf := (if_neg q18).symm.trans hf
            refine g_iconst (pc := 126) C dX8_seriesItem_126 ic_1 ?_
            refine g_goto (pc := 127) C 131 dX8_seriesItem_127 (by decide) ?_
            refine g_istore_n (pc := 131) C [(3, .int 1), (0, .ref (b 0)), (1, .int x1), (2, .int x2)] dX8_seriesItem_131 rfl (by decide) rfl ?_
            refine g_iconst (pc := 132) C dX8_seriesItem_132 ic_0 ?_
            refine g_istore (pc := 133) C [(4, .int 0), (3, .int 1), (0, .ref (b 0)), (1, .int x1), (2, .int x2)] dX8_seriesItem_133 (by decide) rfl ?_
            exact g_sub [2, 3, 4, 1, 0] rfl (b135 1000 s17 x1 x2 1 0 hf)
      · replace hf := (if_neg q14).symm.trans hf
        refine g_aload_n (pc := 77) C dX8_seriesItem_77 0 rfl rfl ?_
        refine g_get (pc := 78) C in_X8 wm_0 cl_X8 4 (by decide) tw_626 rfl dX8_seriesItem_78 ?_
        refine g_iconst (pc := 81) C dX8_seriesItem_81 ic_4 ?_
        refine g_bipush (pc := 82) C dX8_seriesItem_82 bp_6 ?_
        refine g_iload_n (pc := 84) C dX8_seriesItem_84 3 rfl rfl ?_
        refine g_imul (pc := 85) C dX8_seriesItem_85 ?_
        refine g_iadd (pc := 86) C dX8_seriesItem_86 ?_
        obtain ⟨q19, hf⟩ := gd_some hf
        refine g_iald (pc := 87) C 3 wm_3 rfl q19 rfl dX8_seriesItem_87 ?_
        refine g_aload_n (pc := 88) C dX8_seriesItem_88 0 rfl rfl ?_
        refine g_get (pc := 89) C in_X8 wm_0 cl_X8 4 (by decide) tw_626 rfl dX8_seriesItem_89 ?_
        refine g_iload_n (pc := 92) C dX8_seriesItem_92 2 rfl rfl ?_
        obtain ⟨q20, hf⟩ := gd_some hf
        refine g_iald (pc := 93) C 3 wm_3 rfl q20 rfl dX8_seriesItem_93 ?_
        refine g_icmp_ne (pc := 94) C 99 dX8_seriesItem_94 (by decide) (fun q21 => ?_) (fun q21 => ?_)
        · replace hf := (if_neg q21).symm.trans hf
          refine g_iinc (pc := 99) C [(3, .int (x3 + 1)), (0, .ref (b 0)), (1, .int x1), (2, .int x2)] 3 dX8_seriesItem_99 rfl ic_1 (by decide) rfl ?_
          refine g_goto (pc := 102) C 72 dX8_seriesItem_102 (by decide) ?_
          exact g_sub [1, 2, 3, 0] rfl (ih σ x1 x2 (x3 + 1) hf)
        · replace hf := (if_pos q21).symm.trans hf
          refine g_iconst (pc := 97) C dX8_seriesItem_97 ic_0 ?_
          cases hf
          exact g_zret (pc := 98) (b := false) C hr dX8_seriesItem_98
  unfold f_X8_seriesItem at hf
  refine g_aload_n (pc := 0) C dX8_seriesItem_0 0 rfl rfl ?_
  refine g_get (pc := 1) C in_X8 wm_0 cl_X8 4 (by decide) tw_626 rfl dX8_seriesItem_1 ?_
  refine g_bipush (pc := 4) C dX8_seriesItem_4 bp_23 ?_
  refine g_iald (pc := 6) C 3 wm_3 rfl (by decide) tnn_23 dX8_seriesItem_6 ?_
  refine g_istore_n (pc := 7) C [(1, .int (σ 3 23)), (0, .ref (b 0))] dX8_seriesItem_7 rfl (by decide) rfl ?_
  refine g_iconst (pc := 8) C dX8_seriesItem_8 ic_4 ?_
  refine g_bipush (pc := 9) C dX8_seriesItem_9 bp_6 ?_
  refine g_iload_n (pc := 11) C dX8_seriesItem_11 0 rfl rfl ?_
  refine g_imul (pc := 12) C dX8_seriesItem_12 ?_
  refine g_iadd (pc := 13) C dX8_seriesItem_13 ?_
  refine g_istore_n (pc := 14) C [(2, .int (4 + (6 * (σ 3 23)))), (1, .int (σ 3 23)), (0, .ref (b 0))] dX8_seriesItem_14 rfl (by decide) rfl ?_
  refine g_iload_n (pc := 15) C dX8_seriesItem_15 1 rfl rfl ?_
  refine g_iconst (pc := 16) C dX8_seriesItem_16 ic_3 ?_
  refine g_icmp_eq (pc := 17) C 41 dX8_seriesItem_17 (by decide) (fun q23 => ?_) (fun q23 => ?_)
  · replace hf := (if_pos q23).symm.trans hf
    refine g_iconst (pc := 41) C dX8_seriesItem_41 ic_0 ?_
    cases hf
    exact g_zret (pc := 42) (b := false) C hr dX8_seriesItem_42
  · replace hf := (if_neg q23).symm.trans hf
    refine g_aload_n (pc := 20) C dX8_seriesItem_20 2 rfl rfl ?_
    refine g_aload_n (pc := 21) C dX8_seriesItem_21 2 rfl rfl ?_
    refine g_get (pc := 22) C in_X8 wm_0 cl_X8 2 (by decide) tw_624 rfl dX8_seriesItem_22 ?_
    obtain ⟨r24, h24, hf⟩ := bd_some hf
    refine g_cVi (pc := 25) C (st := []) jW.rf (c_X8_byteAt l D hw h24) y_X8_byteAt tw_672 rfl ⟨by decide, by decide⟩ ⟨Nat.zero_le _, Nat.zero_le _⟩ (Nat.le_of_ble_eq_true rfl) wm_0 cl_X8 rfl dX8_seriesItem_25 rfl ?_
    refine g_i2l (pc := 28) C dX8_seriesItem_28 ?_
    refine g_ldc2 (pc := 29) C tw_682 dX8_seriesItem_29 ?_
    refine g_ldc2 (pc := 32) C tw_683 dX8_seriesItem_32 ?_
    obtain ⟨r25, h25, hf⟩ := bd_some hf
    refine g_cSi (pc := 35) C (st := []) jW.rf (c_X8_in l D hw h25) y_X8_in tw_653 rfl ⟨by decide, by decide⟩ ⟨Nat.zero_le _, Nat.zero_le _⟩ (Nat.le_of_ble_eq_true rfl) dX8_seriesItem_35 rfl ?_
    refine g_if_ne (pc := 38) C 43 dX8_seriesItem_38 (by decide) (fun q26 => ?_) (fun q26 => ?_)
    · replace hf := (if_neg q26).symm.trans hf
      refine g_aload_n (pc := 43) C dX8_seriesItem_43 2 rfl rfl ?_
      refine g_get (pc := 44) C in_X8 wm_0 cl_X8 4 (by decide) tw_626 rfl dX8_seriesItem_44 ?_
      refine g_iload_n (pc := 47) C dX8_seriesItem_47 0 rfl rfl ?_
      refine g_aload_n (pc := 48) C dX8_seriesItem_48 2 rfl rfl ?_
      refine g_aload_n (pc := 49) C dX8_seriesItem_49 2 rfl rfl ?_
      refine g_get (pc := 50) C in_X8 wm_0 cl_X8 2 (by decide) tw_624 rfl dX8_seriesItem_50 ?_
      obtain ⟨r27, h27, hf⟩ := bd_some hf
      refine g_cVi (pc := 53) C (st := [.int (4 + (6 * (σ 3 23))), .ref (b 3)]) jW.rf (c_X8_byteAt l D hw h27) y_X8_byteAt tw_672 rfl ⟨by decide, by decide⟩ ⟨Nat.zero_le _, Nat.zero_le _⟩ (Nat.le_of_ble_eq_true rfl) wm_0 cl_X8 rfl dX8_seriesItem_53 rfl ?_
      refine g_bipush (pc := 56) C dX8_seriesItem_56 bp_96 ?_
      refine g_isub (pc := 58) C dX8_seriesItem_58 ?_
      obtain ⟨q28, hf⟩ := gd_some hf
      refine g_iast (pc := 59) C 3 wm_3 rfl q28 rfl ma_3 dX8_seriesItem_59 ?_
      refine g_aload_n (pc := 60) C dX8_seriesItem_60 2 rfl rfl ?_
      refine g_dup (pc := 61) C dX8_seriesItem_61 rfl ?_
      refine g_get (pc := 62) C in_X8 wm_0 cl_X8 2 (by decide) tw_624 rfl dX8_seriesItem_62 ?_
      refine g_iconst (pc := 65) C dX8_seriesItem_65 ic_1 ?_
      refine g_iadd (pc := 66) C dX8_seriesItem_66 ?_
      refine g_put (pc := 67) C in_X8 tyX8 tyX8_ok nmX8 wm_0 cl_X8 2 (by decide) tw_624 rfl rfl rfl (Nat.le_of_ble_eq_true rfl) mp_2 dX8_seriesItem_67 ?_
      refine g_iconst (pc := 70) C dX8_seriesItem_70 ic_0 ?_
      refine g_istore_n (pc := 71) C [(3, .int 0), (2, .int (4 + (6 * (σ 3 23)))), (1, .int (σ 3 23)), (0, .ref (b 0))] dX8_seriesItem_71 rfl (by decide) rfl ?_
      exact g_sub [3, 2, 1, 0] rfl (b72 1000 (up (up σ 3 (4 + (6 * (σ 3 23))).toNatClampNeg (r27 - 96)) 0 2 (((up σ 3 (4 + (6 * (σ 3 23))).toNatClampNeg (r27 - 96)) 0 2) + 1)) (σ 3 23) (4 + (6 * (σ 3 23))) 0 hf)
    · replace hf := (if_pos q26).symm.trans hf
      refine g_iconst (pc := 41) C dX8_seriesItem_41 ic_0 ?_
      cases hf
      exact g_zret (pc := 42) (b := false) C hr dX8_seriesItem_42

set_option maxHeartbeats 4000000 in
set_option maxRecDepth 100000 in
theorem c_X8_item (l : Launch) (D : va_G) {cI cH cE cJ : ClassId} {b : Nat → Nat} (hw : ∀ σ, va_D (Pm b) (wm cJ b σ)) {σ : Me} {x1 : Int32} {σ' : Me} {r : Bool} (hf : f_X8_item σ x1 = some (σ', r)) : Mq l D (tyc cI cH cE cJ) (wm cJ b) (Pm b) yX8_item cX8_item 2 (Option.some Jvm.ClassFile.FieldType.boolean) 3 [.ref (b 0), .int x1] σ (qI D (wm cJ b) (Pm b) σ' (bI r)) := by
  refine mOf (plainFor_of_name (by decide)) hw (Nat.le_of_ble_eq_true rfl) [(0, .ref (b 0)), (1, .int x1)] rfl ?_
  intro p e s m args below meth c C hr
  unfold f_X8_item at hf
  refine g_iload_n (pc := 0) C dX8_item_0 1 rfl rfl ?_
  by_cases q1 : x1 = 112
  · replace hf := (if_pos q1).symm.trans hf
    refine g_lookup (pc := 1) C (off := 35) 36 dX8_item_1 (by decide) (by rw [q1]; decide) (by decide) ?_
    refine g_aload_n (pc := 36) C dX8_item_36 0 rfl rfl ?_
    refine g_get (pc := 37) C in_X8 wm_0 cl_X8 4 (by decide) tw_626 rfl dX8_item_37 ?_
    refine g_bipush (pc := 40) C dX8_item_40 bp_22 ?_
    refine g_iald (pc := 42) C 3 wm_3 rfl (by decide) tnn_22 dX8_item_42 ?_
    refine g_iconst (pc := 43) C dX8_item_43 ic_4 ?_
    refine g_icmp_eq (pc := 44) C 57 dX8_item_44 (by decide) (fun q3 => ?_) (fun q3 => ?_)
    · replace hf := (if_pos q3).symm.trans hf
      refine g_iconst (pc := 57) C dX8_item_57 ic_0 ?_
      cases hf
      exact g_zret (pc := 58) (b := false) C hr dX8_item_58
    · replace hf := (if_neg q3).symm.trans hf
      refine g_aload_n (pc := 47) C dX8_item_47 0 rfl rfl ?_
      refine g_get (pc := 48) C in_X8 wm_0 cl_X8 4 (by decide) tw_626 rfl dX8_item_48 ?_
      refine g_bipush (pc := 51) C dX8_item_51 bp_23 ?_
      refine g_iald (pc := 53) C 3 wm_3 rfl (by decide) tnn_23 dX8_item_53 ?_
      refine g_if_le (pc := 54) C 59 dX8_item_54 (by decide) (fun q5 => ?_) (fun q5 => ?_)
      · replace hf := (if_pos q5).symm.trans hf
        refine g_aload_n (pc := 59) C dX8_item_59 0 rfl rfl ?_
        refine g_get (pc := 60) C in_X8 wm_0 cl_X8 4 (by decide) tw_626 rfl dX8_item_60 ?_
        refine g_bipush (pc := 63) C dX8_item_63 bp_22 ?_
        refine g_dup2 (pc := 65) C dX8_item_65 rfl rfl ?_
        refine g_iald (pc := 66) C 3 wm_3 rfl (by decide) tnn_22 dX8_item_66 ?_
        refine g_iconst (pc := 67) C dX8_item_67 ic_1 ?_
        refine g_iadd (pc := 68) C dX8_item_68 ?_
        refine g_iast (pc := 69) C 3 wm_3 rfl (by decide) tnn_22 ma_3 dX8_item_69 ?_
        refine g_aload_n (pc := 70) C dX8_item_70 0 rfl rfl ?_
        refine g_aload_n (pc := 71) C dX8_item_71 0 rfl rfl ?_
        refine g_get (pc := 72) C in_X8 wm_0 cl_X8 4 (by decide) tw_626 rfl dX8_item_72 ?_
        refine g_bipush (pc := 75) C dX8_item_75 bp_22 ?_
        refine g_iald (pc := 77) C 3 wm_3 rfl (by decide) tnn_22 dX8_item_77 ?_
        refine g_iconst (pc := 78) C dX8_item_78 ic_1 ?_
        refine g_isub (pc := 79) C dX8_item_79 ?_
        refine g_iconst (pc := 80) C dX8_item_80 ic_1 ?_
        refine g_bipush (pc := 81) C dX8_item_81 bp_8 ?_
        obtain ⟨s9, r9, h9, hf⟩ := bd2_some hf
        refine g_cVi (pc := 83) C (st := []) jW.rf (c_X8_number2 l D hw h9) y_X8_number2 tw_668 rfl ⟨by decide, by decide⟩ ⟨Nat.zero_le _, Nat.zero_le _⟩ (Nat.le_of_ble_eq_true rfl) wm_0 cl_X8 rfl dX8_item_83 rfl ?_
        cases hf
        exact g_zret (pc := 86) (b := _) C hr dX8_item_86
      · replace hf := (if_neg q5).symm.trans hf
        refine g_iconst (pc := 57) C dX8_item_57 ic_0 ?_
        cases hf
        exact g_zret (pc := 58) (b := false) C hr dX8_item_58
  replace hf := (if_neg q1).symm.trans hf
  by_cases q10 : x1 = 115
  · replace hf := (if_pos q10).symm.trans hf
    refine g_lookup (pc := 1) C (off := 86) 87 dX8_item_1 (by decide) (by rw [q10]; decide) (by decide) ?_
    refine g_aload_n (pc := 87) C dX8_item_87 0 rfl rfl ?_
    obtain ⟨s11, r11, h11, hf⟩ := bd2_some hf
    refine g_cVi (pc := 88) C (st := []) jW.rf (c_X8_seriesItem l D hw h11) y_X8_seriesItem tw_678 rfl ⟨by decide, by decide⟩ ⟨Nat.zero_le _, Nat.zero_le _⟩ (Nat.le_of_ble_eq_true rfl) wm_0 cl_X8 rfl dX8_item_88 rfl ?_
    cases hf
    exact g_zret (pc := 91) (b := _) C hr dX8_item_91
  replace hf := (if_neg q10).symm.trans hf
  by_cases q12 : x1 = 122
  · replace hf := (if_pos q12).symm.trans hf
    refine g_lookup (pc := 1) C (off := 91) 92 dX8_item_1 (by decide) (by rw [q12]; decide) (by decide) ?_
    refine g_aload_n (pc := 92) C dX8_item_92 0 rfl rfl ?_
    refine g_bipush (pc := 93) C dX8_item_93 bp_24 ?_
    refine g_iconst (pc := 95) C dX8_item_95 ic_0 ?_
    refine g_bipush (pc := 96) C dX8_item_96 bp_99 ?_
    obtain ⟨s13, r13, h13, hf⟩ := bd2_some hf
    refine g_cVi (pc := 98) C (st := []) jW.rf (c_X8_number2 l D hw h13) y_X8_number2 tw_668 rfl ⟨by decide, by decide⟩ ⟨Nat.zero_le _, Nat.zero_le _⟩ (Nat.le_of_ble_eq_true rfl) wm_0 cl_X8 rfl dX8_item_98 rfl ?_
    cases hf
    exact g_zret (pc := 101) (b := _) C hr dX8_item_101
  replace hf := (if_neg q12).symm.trans hf
  refine g_lookup (pc := 1) C (off := 101) 102 dX8_item_1 (by decide) ((lv_osw q1 (by decide)).trans ((lv_osw q10 (by decide)).trans ((lv_osw q12 (by decide)).trans rfl))) (by decide) ?_
  refine g_iconst (pc := 102) C dX8_item_102 ic_0 ?_
  cases hf
  exact g_zret (pc := 103) (b := false) C hr dX8_item_103

set_option maxHeartbeats 4000000 in
set_option maxRecDepth 100000 in
theorem c_X8_fault (l : Launch) (D : va_G) {cI cH cE cJ : ClassId} {b : Nat → Nat} (hw : ∀ σ, va_D (Pm b) (wm cJ b σ)) {σ : Me} {σ' : Me} {r : Int32} (hf : f_X8_fault σ = some (σ', r)) : Mq l D (tyc cI cH cE cJ) (wm cJ b) (Pm b) yX8_fault cX8_fault 2 (Option.some Jvm.ClassFile.FieldType.int) 4 [.ref (b 0)] σ (qI D (wm cJ b) (Pm b) σ' r) := by
  refine mOf (plainFor_of_name (by decide)) hw (Nat.le_of_ble_eq_true rfl) [(0, .ref (b 0))] rfl ?_
  intro p e s m args below meth c C hr
  have b35 : ∀ (n : Nat) (σ : Me) (hf : f_X8_fault_35 n σ = some (σ', r)), Gg p l e (rmd 4) s m args below meth c D (Pm b) (wm cJ b) 2 0 0 (MQ below ((qI D (wm cJ b) (Pm b) σ' r) s.heap.size) args s 0 0 (fR (Pm b) s.heap.size)) σ [(0, .ref (b 0))] 35 [] := by
    intro n
    induction n with
    | zero => intro σ hf; exact absurd hf (by simp [f_X8_fault_35])
    | succ n ih =>
      intro σ hf
      rw [f_X8_fault_35] at hf
      refine g_aload_n (pc := 35) C dX8_fault_35 0 rfl rfl ?_
      refine g_get (pc := 36) C in_X8 wm_0 cl_X8 2 (by decide) tw_624 rfl dX8_fault_36 ?_
      refine g_aload_n (pc := 39) C dX8_fault_39 0 rfl rfl ?_
      refine g_get (pc := 40) C in_X8 wm_0 cl_X8 0 (by decide) tw_622 rfl dX8_fault_40 ?_
      refine g_icmp_ge (pc := 43) C 88 dX8_fault_43 (by decide) (fun q1 => ?_) (fun q1 => ?_)
      · replace hf := (if_pos q1).symm.trans hf
        refine g_bipush (pc := 88) C dX8_fault_88 bp_m4 ?_
        cases hf
        exact g_iret (pc := 90) C hr dX8_fault_90
      · replace hf := (if_neg q1).symm.trans hf
        refine g_aload_n (pc := 46) C dX8_fault_46 0 rfl rfl ?_
        refine g_get (pc := 47) C in_X8 wm_0 cl_X8 2 (by decide) tw_624 rfl dX8_fault_47 ?_
        refine g_istore_n (pc := 50) C [(1, .int (σ 0 2)), (0, .ref (b 0))] dX8_fault_50 rfl (by decide) rfl ?_
        refine g_aload_n (pc := 51) C dX8_fault_51 1 rfl rfl ?_
        refine g_dup (pc := 52) C dX8_fault_52 rfl ?_
        refine g_get (pc := 53) C in_X8 wm_0 cl_X8 2 (by decide) tw_624 rfl dX8_fault_53 ?_
        refine g_iconst (pc := 56) C dX8_fault_56 ic_1 ?_
        refine g_iadd (pc := 57) C dX8_fault_57 ?_
        refine g_put (pc := 58) C in_X8 tyX8 tyX8_ok nmX8 wm_0 cl_X8 2 (by decide) tw_624 rfl rfl rfl (Nat.le_of_ble_eq_true rfl) mp_2 dX8_fault_58 ?_
        refine g_aload_n (pc := 61) C dX8_fault_61 1 rfl rfl ?_
        refine g_aload_n (pc := 62) C dX8_fault_62 1 rfl rfl ?_
        refine g_get (pc := 63) C in_X8 wm_0 cl_X8 1 (by decide) tw_623 rfl dX8_fault_63 ?_
        refine g_iload_n (pc := 66) C dX8_fault_66 0 rfl rfl ?_
        obtain ⟨q2, hf⟩ := gd_some hf
        refine g_iald (pc := 67) C 3 wm_1 rfl q2 rfl dX8_fault_67 ?_
        obtain ⟨s3, r3, h3, hf⟩ := bd2_some hf
        refine g_cVi (pc := 68) C (st := []) jW.rf (c_X8_item l D hw h3) y_X8_item tw_664 rfl ⟨by decide, by decide⟩ ⟨Nat.zero_le _, Nat.zero_le _⟩ (Nat.le_of_ble_eq_true rfl) wm_0 cl_X8 rfl dX8_fault_68 rfl ?_
        refine g_if_eq (pc := 71) C 83 dX8_fault_71 (by decide) (fun q4 => ?_) (fun q4 => ?_)
        · replace hf := (if_pos q4).symm.trans hf
          refine g_iload_n (pc := 83) C dX8_fault_83 0 rfl rfl ?_
          cases hf
          exact g_iret (pc := 84) C hr dX8_fault_84
        · replace hf := (if_neg q4).symm.trans hf
          refine g_aload_n (pc := 74) C dX8_fault_74 1 rfl rfl ?_
          refine g_bipush (pc := 75) C dX8_fault_75 bp_59 ?_
          obtain ⟨s5, r5, h5, hf⟩ := bd2_some hf
          refine g_cVi (pc := 77) C (st := []) jW.rf (c_X8_gone l D hw h5) y_X8_gone tw_684 rfl ⟨by decide, by decide⟩ ⟨Nat.zero_le _, Nat.zero_le _⟩ (Nat.le_of_ble_eq_true rfl) wm_0 cl_X8 rfl dX8_fault_77 rfl ?_
          refine g_if_ne (pc := 80) C 85 dX8_fault_80 (by decide) (fun q6 => ?_) (fun q6 => ?_)
          · replace hf := (if_neg q6).symm.trans hf
            refine g_goto (pc := 85) C 35 dX8_fault_85 (by decide) ?_
            exact g_sub [1] rfl (ih s5 hf)
          · replace hf := (if_pos q6).symm.trans hf
            refine g_iload_n (pc := 83) C dX8_fault_83 0 rfl rfl ?_
            cases hf
            exact g_iret (pc := 84) C hr dX8_fault_84
  have b2 : ∀ (n : Nat) (σ : Me) (x1 : Int32) (hf : f_X8_fault_2 n σ x1 = some (σ', r)), Gg p l e (rmd 4) s m args below meth c D (Pm b) (wm cJ b) 2 0 0 (MQ below ((qI D (wm cJ b) (Pm b) σ' r) s.heap.size) args s 0 0 (fR (Pm b) s.heap.size)) σ [(0, .ref (b 0)), (1, .int x1)] 2 [] := by
    intro n
    induction n with
    | zero => intro σ x1 hf; exact absurd hf (by simp [f_X8_fault_2])
    | succ n ih =>
      intro σ x1 hf
      rw [f_X8_fault_2] at hf
      refine g_iload_n (pc := 2) C dX8_fault_2 1 rfl rfl ?_
      refine g_bipush (pc := 3) C dX8_fault_3 bp_25 ?_
      refine g_icmp_ge (pc := 5) C 21 dX8_fault_5 (by decide) (fun q7 => ?_) (fun q7 => ?_)
      · replace hf := (if_pos q7).symm.trans hf
        refine g_aload_n (pc := 21) C dX8_fault_21 0 rfl rfl ?_
        refine g_get (pc := 22) C in_X8 wm_0 cl_X8 4 (by decide) tw_626 rfl dX8_fault_22 ?_
        refine g_bipush (pc := 25) C dX8_fault_25 bp_24 ?_
        refine g_bipush (pc := 27) C dX8_fault_27 bp_20 ?_
        refine g_iast (pc := 29) C 3 wm_3 rfl (by decide) tnn_24 ma_3 dX8_fault_29 ?_
        refine g_aload_n (pc := 30) C dX8_fault_30 0 rfl rfl ?_
        refine g_iconst (pc := 31) C dX8_fault_31 ic_0 ?_
        refine g_put (pc := 32) C in_X8 tyX8 tyX8_ok nmX8 wm_0 cl_X8 2 (by decide) tw_624 rfl rfl rfl (Nat.le_of_ble_eq_true rfl) mp_2 dX8_fault_32 ?_
        exact g_sub [0] rfl (b35 1000 (up (up σ 3 24 20) 0 2 0) hf)
      · replace hf := (if_neg q7).symm.trans hf
        refine g_aload_n (pc := 8) C dX8_fault_8 0 rfl rfl ?_
        refine g_get (pc := 9) C in_X8 wm_0 cl_X8 4 (by decide) tw_626 rfl dX8_fault_9 ?_
        refine g_iload_n (pc := 12) C dX8_fault_12 1 rfl rfl ?_
        refine g_iconst (pc := 13) C dX8_fault_13 ic_0 ?_
        obtain ⟨q9, hf⟩ := gd_some hf
        refine g_iast (pc := 14) C 3 wm_3 rfl q9 rfl ma_3 dX8_fault_14 ?_
        refine g_iinc (pc := 15) C [(1, .int (x1 + 1)), (0, .ref (b 0))] 1 dX8_fault_15 rfl ic_1 (by decide) rfl ?_
        refine g_goto (pc := 18) C 2 dX8_fault_18 (by decide) ?_
        exact g_sub [1, 0] rfl (ih (up σ 3 x1.toNatClampNeg 0) (x1 + 1) hf)
  unfold f_X8_fault at hf
  refine g_iconst (pc := 0) C dX8_fault_0 ic_0 ?_
  refine g_istore_n (pc := 1) C [(1, .int 0), (0, .ref (b 0))] dX8_fault_1 rfl (by decide) rfl ?_
  exact g_sub [1, 0] rfl (b2 1000 σ 0 hf)

set_option maxHeartbeats 4000000 in
set_option maxRecDepth 100000 in
theorem c_X8_lay (l : Launch) (D : va_G) {cI cH cE cJ : ClassId} {b : Nat → Nat} (hw : ∀ σ, va_D (Pm b) (wm cJ b σ)) {σ : Me} {σ' : Me} {r : Int32} (hf : f_X8_lay σ = some (σ', r)) : Mq l D (tyc cI cH cE cJ) (wm cJ b) (Pm b) yX8_lay cX8_lay 2 (Option.some Jvm.ClassFile.FieldType.int) 5 [.ref (b 0)] σ (qI D (wm cJ b) (Pm b) σ' r) := by
  refine mOf (plainFor_of_name (by decide)) hw (Nat.le_of_ble_eq_true rfl) [(0, .ref (b 0))] rfl ?_
  intro p e s m args below meth c C hr
  have b50 : ∀ (n : Nat) (σ : Me) (x1 : Int32) (hf : f_X8_lay_50 n σ x1 = some (σ', r)), Gg p l e (rmd 5) s m args below meth c D (Pm b) (wm cJ b) 2 0 0 (MQ below ((qI D (wm cJ b) (Pm b) σ' r) s.heap.size) args s 0 0 (fR (Pm b) s.heap.size)) σ [(0, .ref (b 0)), (1, .int x1)] 50 [] := by
    intro n
    induction n with
    | zero => intro σ x1 hf; exact absurd hf (by simp [f_X8_lay_50])
    | succ n ih =>
      intro σ x1 hf
      rw [f_X8_lay_50] at hf
      refine g_iload_n (pc := 50) C dX8_lay_50 1 rfl rfl ?_
      refine g_bipush (pc := 51) C dX8_lay_51 bp_112 ?_
      refine g_icmp_ge (pc := 53) C 69 dX8_lay_53 (by decide) (fun q1 => ?_) (fun q1 => ?_)
      · replace hf := (if_pos q1).symm.trans hf
        refine g_aload_n (pc := 69) C dX8_lay_69 0 rfl rfl ?_
        refine g_iconst (pc := 70) C dX8_lay_70 ic_0 ?_
        refine g_put (pc := 71) C in_X8 tyX8 tyX8_ok nmX8 wm_0 cl_X8 7 (by decide) tw_629 rfl rfl rfl (Nat.le_of_ble_eq_true rfl) mp_7 dX8_lay_71 ?_
        refine g_aload_n (pc := 74) C dX8_lay_74 0 rfl rfl ?_
        refine g_get (pc := 75) C in_X8 wm_0 cl_X8 3 (by decide) tw_625 rfl dX8_lay_75 ?_
        refine g_bipush (pc := 78) C dX8_lay_78 bp_23 ?_
        refine g_iald (pc := 80) C 3 wm_2 rfl (by decide) tnn_23 dX8_lay_80 ?_
        cases hf
        exact g_iret (pc := 81) C hr dX8_lay_81
      · replace hf := (if_neg q1).symm.trans hf
        refine g_aload_n (pc := 56) C dX8_lay_56 0 rfl rfl ?_
        refine g_get (pc := 57) C in_X8 wm_0 cl_X8 5 (by decide) tw_627 rfl dX8_lay_57 ?_
        refine g_iload_n (pc := 60) C dX8_lay_60 1 rfl rfl ?_
        refine g_iconst (pc := 61) C dX8_lay_61 ic_0 ?_
        obtain ⟨q3, hf⟩ := gd_some hf
        refine g_iast (pc := 62) C 3 wm_4 rfl q3 rfl ma_4 dX8_lay_62 ?_
        refine g_iinc (pc := 63) C [(1, .int (x1 + 1)), (0, .ref (b 0))] 1 dX8_lay_63 rfl ic_1 (by decide) rfl ?_
        refine g_goto (pc := 66) C 50 dX8_lay_66 (by decide) ?_
        exact g_sub [1, 0] rfl (ih (up σ 4 x1.toNatClampNeg 0) (x1 + 1) hf)
  have b24 : ∀ (n : Nat) (σ : Me) (x1 : Int32) (hf : f_X8_lay_24 n σ x1 = some (σ', r)), Gg p l e (rmd 5) s m args below meth c D (Pm b) (wm cJ b) 2 0 0 (MQ below ((qI D (wm cJ b) (Pm b) σ' r) s.heap.size) args s 0 0 (fR (Pm b) s.heap.size)) σ [(0, .ref (b 0)), (1, .int x1)] 24 [] := by
    intro n
    induction n with
    | zero => intro σ x1 hf; exact absurd hf (by simp [f_X8_lay_24])
    | succ n ih =>
      intro σ x1 hf
      rw [f_X8_lay_24] at hf
      refine g_iload_n (pc := 24) C dX8_lay_24 1 rfl rfl ?_
      refine g_bipush (pc := 25) C dX8_lay_25 bp_25 ?_
      refine g_icmp_ge (pc := 27) C 48 dX8_lay_27 (by decide) (fun q4 => ?_) (fun q4 => ?_)
      · replace hf := (if_pos q4).symm.trans hf
        refine g_iconst (pc := 48) C dX8_lay_48 ic_0 ?_
        refine g_istore_n (pc := 49) C [(1, .int 0), (0, .ref (b 0))] dX8_lay_49 rfl (by decide) rfl ?_
        exact g_sub [1, 0] rfl (b50 1000 σ 0 hf)
      · replace hf := (if_neg q4).symm.trans hf
        refine g_aload_n (pc := 30) C dX8_lay_30 0 rfl rfl ?_
        refine g_get (pc := 31) C in_X8 wm_0 cl_X8 3 (by decide) tw_625 rfl dX8_lay_31 ?_
        refine g_iload_n (pc := 34) C dX8_lay_34 1 rfl rfl ?_
        refine g_aload_n (pc := 35) C dX8_lay_35 0 rfl rfl ?_
        refine g_get (pc := 36) C in_X8 wm_0 cl_X8 4 (by decide) tw_626 rfl dX8_lay_36 ?_
        refine g_iload_n (pc := 39) C dX8_lay_39 1 rfl rfl ?_
        obtain ⟨q5, hf⟩ := gd_some hf
        refine g_iald (pc := 40) C 3 wm_3 rfl q5 rfl dX8_lay_40 ?_
        obtain ⟨q6, hf⟩ := gd_some hf
        refine g_iast (pc := 41) C 3 wm_2 rfl q6 rfl ma_2 dX8_lay_41 ?_
        refine g_iinc (pc := 42) C [(1, .int (x1 + 1)), (0, .ref (b 0))] 1 dX8_lay_42 rfl ic_1 (by decide) rfl ?_
        refine g_goto (pc := 45) C 24 dX8_lay_45 (by decide) ?_
        exact g_sub [1, 0] rfl (ih (up σ 2 x1.toNatClampNeg (σ 3 x1.toNatClampNeg)) (x1 + 1) hf)
  unfold f_X8_lay at hf
  refine g_aload_n (pc := 0) C dX8_lay_0 0 rfl rfl ?_
  obtain ⟨s7, r7, h7, hf⟩ := bd2_some hf
  refine g_cVi (pc := 1) C (st := []) jW.rf (c_X8_fault l D hw h7) y_X8_fault tw_696 rfl ⟨by decide, by decide⟩ ⟨Nat.zero_le _, Nat.zero_le _⟩ (Nat.le_of_ble_eq_true rfl) wm_0 cl_X8 rfl dX8_lay_1 rfl ?_
  refine g_bipush (pc := 4) C dX8_lay_4 bp_m4 ?_
  refine g_icmp_ne (pc := 6) C 19 dX8_lay_6 (by decide) (fun q8 => ?_) (fun q8 => ?_)
  · replace hf := (if_neg q8).symm.trans hf
    refine g_bipush (pc := 19) C dX8_lay_19 bp_m2 ?_
    cases hf
    exact g_iret (pc := 21) C hr dX8_lay_21
  · replace hf := (if_pos q8).symm.trans hf
    refine g_aload_n (pc := 9) C dX8_lay_9 0 rfl rfl ?_
    refine g_get (pc := 10) C in_X8 wm_0 cl_X8 4 (by decide) tw_626 rfl dX8_lay_10 ?_
    refine g_bipush (pc := 13) C dX8_lay_13 bp_23 ?_
    refine g_iald (pc := 15) C 3 wm_3 rfl (by decide) tnn_23 dX8_lay_15 ?_
    refine g_if_ne (pc := 16) C 22 dX8_lay_16 (by decide) (fun q10 => ?_) (fun q10 => ?_)
    · replace hf := (if_neg q10).symm.trans hf
      refine g_iconst (pc := 22) C dX8_lay_22 ic_0 ?_
      refine g_istore_n (pc := 23) C [(1, .int 0), (0, .ref (b 0))] dX8_lay_23 rfl (by decide) rfl ?_
      exact g_sub [1, 0] rfl (b24 1000 s7 0 hf)
    · replace hf := (if_pos q10).symm.trans hf
      refine g_bipush (pc := 19) C dX8_lay_19 bp_m2 ?_
      cases hf
      exact g_iret (pc := 21) C hr dX8_lay_21

set_option maxHeartbeats 4000000 in
set_option maxRecDepth 100000 in
theorem c_X8_isSeries (l : Launch) (D : va_G) {cI cH cE cJ : ClassId} {b : Nat → Nat} (hw : ∀ σ, va_D (Pm b) (wm cJ b σ)) {σ : Me} {x1 : Int32} {r : Bool} (hf : f_X8_isSeries σ x1 = some r) : Mq l D (tyc cI cH cE cJ) (wm cJ b) (Pm b) yX8_isSeries cX8_isSeries 2 (Option.some Jvm.ClassFile.FieldType.boolean) 1 [.ref (b 0), .int x1] σ (qI D (wm cJ b) (Pm b) σ (bI r)) := by
  refine mOf (plainFor_of_name (by decide)) hw (Nat.le_of_ble_eq_true rfl) [(0, .ref (b 0)), (1, .int x1)] rfl ?_
  intro p e s m args below meth c C hr
  unfold f_X8_isSeries at hf
  refine g_iload_n (pc := 0) C dX8_isSeries_0 1 rfl rfl ?_
  refine g_i2l (pc := 1) C dX8_isSeries_1 ?_
  refine g_lconst (pc := 2) C dX8_isSeries_2 lc_0 ?_
  refine g_aload_n (pc := 3) C dX8_isSeries_3 0 rfl rfl ?_
  refine g_get (pc := 4) C in_X8 wm_0 cl_X8 3 (by decide) tw_625 rfl dX8_isSeries_4 ?_
  refine g_bipush (pc := 7) C dX8_isSeries_7 bp_23 ?_
  refine g_iald (pc := 9) C 3 wm_2 rfl (by decide) tnn_23 dX8_isSeries_9 ?_
  refine g_iconst (pc := 10) C dX8_isSeries_10 ic_1 ?_
  refine g_isub (pc := 11) C dX8_isSeries_11 ?_
  refine g_i2l (pc := 12) C dX8_isSeries_12 ?_
  obtain ⟨r2, h2, hf⟩ := bd_some hf
  refine g_cSi (pc := 13) C (st := []) jW.rf (c_X8_in l D hw h2) y_X8_in tw_653 rfl ⟨by decide, by decide⟩ ⟨Nat.zero_le _, Nat.zero_le _⟩ (Nat.le_of_ble_eq_true rfl) dX8_isSeries_13 rfl ?_
  cases hf
  exact g_zret (pc := 16) (b := _) C hr dX8_isSeries_16

set_option maxHeartbeats 4000000 in
set_option maxRecDepth 100000 in
theorem c_X8_isPress (l : Launch) (D : va_G) {cI cH cE cJ : ClassId} {b : Nat → Nat} (hw : ∀ σ, va_D (Pm b) (wm cJ b σ)) {σ : Me} {x1 : Int32} {r : Bool} (hf : f_X8_isPress σ x1 = some r) : Mq l D (tyc cI cH cE cJ) (wm cJ b) (Pm b) yX8_isPress cX8_isPress 2 (Option.some Jvm.ClassFile.FieldType.boolean) 1 [.ref (b 0), .int x1] σ (qI D (wm cJ b) (Pm b) σ (bI r)) := by
  refine mOf (plainFor_of_name (by decide)) hw (Nat.le_of_ble_eq_true rfl) [(0, .ref (b 0)), (1, .int x1)] rfl ?_
  intro p e s m args below meth c C hr
  unfold f_X8_isPress at hf
  refine g_iload_n (pc := 0) C dX8_isPress_0 1 rfl rfl ?_
  refine g_i2l (pc := 1) C dX8_isPress_1 ?_
  refine g_lconst (pc := 2) C dX8_isPress_2 lc_0 ?_
  refine g_aload_n (pc := 3) C dX8_isPress_3 0 rfl rfl ?_
  refine g_get (pc := 4) C in_X8 wm_0 cl_X8 3 (by decide) tw_625 rfl dX8_isPress_4 ?_
  refine g_bipush (pc := 7) C dX8_isPress_7 bp_22 ?_
  refine g_iald (pc := 9) C 3 wm_2 rfl (by decide) tnn_22 dX8_isPress_9 ?_
  refine g_iconst (pc := 10) C dX8_isPress_10 ic_1 ?_
  refine g_isub (pc := 11) C dX8_isPress_11 ?_
  refine g_i2l (pc := 12) C dX8_isPress_12 ?_
  obtain ⟨r2, h2, hf⟩ := bd_some hf
  refine g_cSi (pc := 13) C (st := []) jW.rf (c_X8_in l D hw h2) y_X8_in tw_653 rfl ⟨by decide, by decide⟩ ⟨Nat.zero_le _, Nat.zero_le _⟩ (Nat.le_of_ble_eq_true rfl) dX8_isPress_13 rfl ?_
  cases hf
  exact g_zret (pc := 16) (b := _) C hr dX8_isPress_16

set_option maxHeartbeats 4000000 in
set_option maxRecDepth 100000 in
theorem c_X8_sheets (l : Launch) (D : va_G) {cI cH cE cJ : ClassId} {b : Nat → Nat} (hw : ∀ σ, va_D (Pm b) (wm cJ b σ)) {σ : Me} {x1 : Int32} {x2 : Int32} {r : Int32} (hf : f_X8_sheets σ x1 x2 = some r) : Mq l D (tyc cI cH cE cJ) (wm cJ b) (Pm b) yX8_sheets cX8_sheets 3 (Option.some Jvm.ClassFile.FieldType.int) 0 [.ref (b 0), .int x1, .int x2] σ (qI D (wm cJ b) (Pm b) σ r) := by
  refine mOf (plainFor_of_name (by decide)) hw (Nat.le_of_ble_eq_true rfl) [(0, .ref (b 0)), (1, .int x1), (2, .int x2)] rfl ?_
  intro p e s m args below meth c C hr
  unfold f_X8_sheets at hf
  refine g_aload_n (pc := 0) C dX8_sheets_0 0 rfl rfl ?_
  refine g_get (pc := 1) C in_X8 wm_0 cl_X8 3 (by decide) tw_625 rfl dX8_sheets_1 ?_
  refine g_iconst (pc := 4) C dX8_sheets_4 ic_4 ?_
  refine g_bipush (pc := 5) C dX8_sheets_5 bp_6 ?_
  refine g_iload_n (pc := 7) C dX8_sheets_7 1 rfl rfl ?_
  refine g_imul (pc := 8) C dX8_sheets_8 ?_
  refine g_iadd (pc := 9) C dX8_sheets_9 ?_
  refine g_iconst (pc := 10) C dX8_sheets_10 ic_2 ?_
  refine g_iadd (pc := 11) C dX8_sheets_11 ?_
  refine g_iload_n (pc := 12) C dX8_sheets_12 2 rfl rfl ?_
  refine g_iadd (pc := 13) C dX8_sheets_13 ?_
  obtain ⟨q1, hf⟩ := gd_some hf
  refine g_iald (pc := 14) C 3 wm_2 rfl q1 rfl dX8_sheets_14 ?_
  cases hf
  exact g_iret (pc := 15) C hr dX8_sheets_15

set_option maxHeartbeats 4000000 in
set_option maxRecDepth 100000 in
theorem c_X8_isNumber (l : Launch) (D : va_G) {cI cH cE cJ : ClassId} {b : Nat → Nat} (hw : ∀ σ, va_D (Pm b) (wm cJ b σ)) {σ : Me} {x1 : Int32} {x2 : Int32} {r : Bool} (hf : f_X8_isNumber σ x1 x2 = some r) : Mq l D (tyc cI cH cE cJ) (wm cJ b) (Pm b) yX8_isNumber cX8_isNumber 3 (Option.some Jvm.ClassFile.FieldType.boolean) 2 [.ref (b 0), .int x1, .int x2] σ (qI D (wm cJ b) (Pm b) σ (bI r)) := by
  refine mOf (plainFor_of_name (by decide)) hw (Nat.le_of_ble_eq_true rfl) [(0, .ref (b 0)), (1, .int x1), (2, .int x2)] rfl ?_
  intro p e s m args below meth c C hr
  unfold f_X8_isNumber at hf
  refine g_aload_n (pc := 0) C dX8_isNumber_0 0 rfl rfl ?_
  refine g_iload_n (pc := 1) C dX8_isNumber_1 1 rfl rfl ?_
  obtain ⟨r1, h1, hf⟩ := bd_some hf
  refine g_cVi (pc := 2) C (st := []) jW.rf (c_X8_isSeries l D hw h1) y_X8_isSeries tw_701 rfl ⟨by decide, by decide⟩ ⟨Nat.zero_le _, Nat.zero_le _⟩ (Nat.le_of_ble_eq_true rfl) wm_0 cl_X8 rfl dX8_isNumber_2 rfl ?_
  refine g_if_eq (pc := 5) C 32 dX8_isNumber_5 (by decide) (fun q2 => ?_) (fun q2 => ?_)
  · replace hf := (if_pos q2).symm.trans hf
    refine g_iconst (pc := 32) C dX8_isNumber_32 ic_0 ?_
    cases hf
    exact g_zret (pc := 33) (b := false) C hr dX8_isNumber_33
  · replace hf := (if_neg q2).symm.trans hf
    refine g_iload_n (pc := 8) C dX8_isNumber_8 2 rfl rfl ?_
    refine g_i2l (pc := 9) C dX8_isNumber_9 ?_
    refine g_lconst (pc := 10) C dX8_isNumber_10 lc_0 ?_
    refine g_aload_n (pc := 11) C dX8_isNumber_11 0 rfl rfl ?_
    refine g_get (pc := 12) C in_X8 wm_0 cl_X8 3 (by decide) tw_625 rfl dX8_isNumber_12 ?_
    refine g_iload_n (pc := 15) C dX8_isNumber_15 1 rfl rfl ?_
    obtain ⟨r3, h3, hf⟩ := bd_some hf
    refine g_cSi (pc := 16) C (st := [.long 0, .long x2.toInt64]) jW.rf (c_X8_whole_2 l D hw h3) y_X8_whole tw_688 rfl ⟨by decide, by decide⟩ ⟨Nat.zero_le _, Nat.zero_le _⟩ (Nat.le_of_ble_eq_true rfl) dX8_isNumber_16 rfl ?_
    refine g_iconst (pc := 19) C dX8_isNumber_19 ic_1 ?_
    refine g_isub (pc := 20) C dX8_isNumber_20 ?_
    refine g_i2l (pc := 21) C dX8_isNumber_21 ?_
    obtain ⟨r4, h4, hf⟩ := bd_some hf
    refine g_cSi (pc := 22) C (st := []) jW.rf (c_X8_in l D hw h4) y_X8_in tw_653 rfl ⟨by decide, by decide⟩ ⟨Nat.zero_le _, Nat.zero_le _⟩ (Nat.le_of_ble_eq_true rfl) dX8_isNumber_22 rfl ?_
    refine g_if_eq (pc := 25) C 32 dX8_isNumber_25 (by decide) (fun q5 => ?_) (fun q5 => ?_)
    · replace hf := (if_pos q5).symm.trans hf
      refine g_iconst (pc := 32) C dX8_isNumber_32 ic_0 ?_
      cases hf
      exact g_zret (pc := 33) (b := false) C hr dX8_isNumber_33
    · replace hf := (if_neg q5).symm.trans hf
      refine g_iconst (pc := 28) C dX8_isNumber_28 ic_1 ?_
      refine g_goto (pc := 29) C 33 dX8_isNumber_29 (by decide) ?_
      cases hf
      exact g_zret (pc := 33) (b := true) C hr dX8_isNumber_33

set_option maxHeartbeats 4000000 in
set_option maxRecDepth 100000 in
theorem c_X8_first (l : Launch) (D : va_G) {cI cH cE cJ : ClassId} {b : Nat → Nat} (hw : ∀ σ, va_D (Pm b) (wm cJ b σ)) {σ : Me} {x1 : Int32} {x2 : Int32} {r : Int32} (hf : f_X8_first σ x1 x2 = some r) : Mq l D (tyc cI cH cE cJ) (wm cJ b) (Pm b) yX8_first cX8_first 5 (Option.some Jvm.ClassFile.FieldType.int) 1 [.ref (b 0), .int x1, .int x2] σ (qI D (wm cJ b) (Pm b) σ r) := by
  refine mOf (plainFor_of_name (by decide)) hw (Nat.le_of_ble_eq_true rfl) [(0, .ref (b 0)), (1, .int x1), (2, .int x2)] rfl ?_
  intro p e s m args below meth c C hr
  have b5 : ∀ (n : Nat) (x3 : Int32) (x4 : Int32) (hf : f_X8_first_5 n σ x1 x2 x3 x4 = some r), Gg p l e (rmd 1) s m args below meth c D (Pm b) (wm cJ b) 5 0 0 (MQ below ((qI D (wm cJ b) (Pm b) σ r) s.heap.size) args s 0 0 (fR (Pm b) s.heap.size)) σ [(0, .ref (b 0)), (1, .int x1), (2, .int x2), (3, .int x3), (4, .int x4)] 5 [] := by
    intro n
    induction n with
    | zero => intro x3 x4 hf; exact absurd hf (by simp [f_X8_first_5])
    | succ n ih =>
      intro x3 x4 hf
      rw [f_X8_first_5] at hf
      refine g_iload (pc := 5) C dX8_first_5 4 rfl ?_
      refine g_iload_n (pc := 7) C dX8_first_7 2 rfl rfl ?_
      refine g_icmp_ge (pc := 8) C 35 dX8_first_8 (by decide) (fun q1 => ?_) (fun q1 => ?_)
      · replace hf := (if_pos q1).symm.trans hf
        refine g_iload_n (pc := 35) C dX8_first_35 3 rfl rfl ?_
        cases hf
        exact g_iret (pc := 36) C hr dX8_first_36
      · replace hf := (if_neg q1).symm.trans hf
        refine g_iload_n (pc := 11) C dX8_first_11 3 rfl rfl ?_
        refine g_aload_n (pc := 12) C dX8_first_12 0 rfl rfl ?_
        refine g_get (pc := 13) C in_X8 wm_0 cl_X8 3 (by decide) tw_625 rfl dX8_first_13 ?_
        refine g_iload (pc := 16) C dX8_first_16 4 rfl ?_
        obtain ⟨q2, hf⟩ := gd_some hf
        refine g_iald (pc := 18) C 3 wm_2 rfl q2 rfl dX8_first_18 ?_
        refine g_aload_n (pc := 19) C dX8_first_19 0 rfl rfl ?_
        refine g_iload_n (pc := 20) C dX8_first_20 1 rfl rfl ?_
        refine g_iload (pc := 21) C dX8_first_21 4 rfl ?_
        obtain ⟨r3, h3, hf⟩ := bd_some hf
        refine g_cVi (pc := 23) C (st := [.int (σ 2 x4.toNatClampNeg), .int x3]) jW.rf (c_X8_sheets l D hw h3) y_X8_sheets tw_735 rfl ⟨by decide, by decide⟩ ⟨Nat.zero_le _, Nat.zero_le _⟩ (Nat.le_of_ble_eq_true rfl) wm_0 cl_X8 rfl dX8_first_23 rfl ?_
        refine g_imul (pc := 26) C dX8_first_26 ?_
        refine g_iadd (pc := 27) C dX8_first_27 ?_
        refine g_istore_n (pc := 28) C [(3, .int (x3 + ((σ 2 x4.toNatClampNeg) * r3))), (0, .ref (b 0)), (1, .int x1), (2, .int x2), (4, .int x4)] dX8_first_28 rfl (by decide) rfl ?_
        refine g_iinc (pc := 29) C [(4, .int (x4 + 1)), (3, .int (x3 + ((σ 2 x4.toNatClampNeg) * r3))), (0, .ref (b 0)), (1, .int x1), (2, .int x2)] 4 dX8_first_29 rfl ic_1 (by decide) rfl ?_
        refine g_goto (pc := 32) C 5 dX8_first_32 (by decide) ?_
        exact g_sub [2, 3, 4, 1, 0] rfl (ih (x3 + ((σ 2 x4.toNatClampNeg) * r3)) (x4 + 1) hf)
  unfold f_X8_first at hf
  refine g_iconst (pc := 0) C dX8_first_0 ic_0 ?_
  refine g_istore_n (pc := 1) C [(3, .int 0), (0, .ref (b 0)), (1, .int x1), (2, .int x2)] dX8_first_1 rfl (by decide) rfl ?_
  refine g_iconst (pc := 2) C dX8_first_2 ic_0 ?_
  refine g_istore (pc := 3) C [(4, .int 0), (3, .int 0), (0, .ref (b 0)), (1, .int x1), (2, .int x2)] dX8_first_3 (by decide) rfl ?_
  exact g_sub [2, 3, 4, 1, 0] rfl (b5 1000 0 0 hf)

set_option maxHeartbeats 4000000 in
set_option maxRecDepth 100000 in
theorem c_X8_pressOf (l : Launch) (D : va_G) {cI cH cE cJ : ClassId} {b : Nat → Nat} (hw : ∀ σ, va_D (Pm b) (wm cJ b σ)) {σ : Me} {x1 : Int32} {x2 : Int32} {r : Int32} (hf : f_X8_pressOf σ x1 x2 = some r) : Mq l D (tyc cI cH cE cJ) (wm cJ b) (Pm b) yX8_pressOf cX8_pressOf 4 (Option.some Jvm.ClassFile.FieldType.int) 2 [.ref (b 0), .int x1, .int x2] σ (qI D (wm cJ b) (Pm b) σ r) := by
  refine mOf (plainFor_of_name (by decide)) hw (Nat.le_of_ble_eq_true rfl) [(0, .ref (b 0)), (1, .int x1), (2, .int x2)] rfl ?_
  intro p e s m args below meth c C hr
  have b2 : ∀ (n : Nat) (x3 : Int32) (hf : f_X8_pressOf_2 n σ x1 x2 x3 = some r), Gg p l e (rmd 2) s m args below meth c D (Pm b) (wm cJ b) 4 0 0 (MQ below ((qI D (wm cJ b) (Pm b) σ r) s.heap.size) args s 0 0 (fR (Pm b) s.heap.size)) σ [(0, .ref (b 0)), (1, .int x1), (2, .int x2), (3, .int x3)] 2 [] := by
    intro n
    induction n with
    | zero => intro x3 hf; exact absurd hf (by simp [f_X8_pressOf_2])
    | succ n ih =>
      intro x3 hf
      rw [f_X8_pressOf_2] at hf
      refine g_iload_n (pc := 2) C dX8_pressOf_2 2 rfl rfl ?_
      refine g_aload_n (pc := 3) C dX8_pressOf_3 0 rfl rfl ?_
      refine g_iload_n (pc := 4) C dX8_pressOf_4 1 rfl rfl ?_
      refine g_iload_n (pc := 5) C dX8_pressOf_5 3 rfl rfl ?_
      refine g_iconst (pc := 6) C dX8_pressOf_6 ic_1 ?_
      refine g_iadd (pc := 7) C dX8_pressOf_7 ?_
      obtain ⟨r1, h1, hf⟩ := bd_some hf
      refine g_cVi (pc := 8) C (st := [.int x2]) jW.rf (c_X8_first l D hw h1) y_X8_first tw_763 rfl ⟨by decide, by decide⟩ ⟨Nat.zero_le _, Nat.zero_le _⟩ (Nat.le_of_ble_eq_true rfl) wm_0 cl_X8 rfl dX8_pressOf_8 rfl ?_
      refine g_icmp_lt (pc := 11) C 20 dX8_pressOf_11 (by decide) (fun q2 => ?_) (fun q2 => ?_)
      · replace hf := (if_pos q2).symm.trans hf
        refine g_iload_n (pc := 20) C dX8_pressOf_20 3 rfl rfl ?_
        cases hf
        exact g_iret (pc := 21) C hr dX8_pressOf_21
      · replace hf := (if_neg q2).symm.trans hf
        refine g_iinc (pc := 14) C [(3, .int (x3 + 1)), (0, .ref (b 0)), (1, .int x1), (2, .int x2)] 3 dX8_pressOf_14 rfl ic_1 (by decide) rfl ?_
        refine g_goto (pc := 17) C 2 dX8_pressOf_17 (by decide) ?_
        exact g_sub [1, 2, 3, 0] rfl (ih (x3 + 1) hf)
  unfold f_X8_pressOf at hf
  refine g_iconst (pc := 0) C dX8_pressOf_0 ic_0 ?_
  refine g_istore_n (pc := 1) C [(3, .int 0), (0, .ref (b 0)), (1, .int x1), (2, .int x2)] dX8_pressOf_1 rfl (by decide) rfl ?_
  exact g_sub [1, 2, 3, 0] rfl (b2 1000 0 hf)

set_option maxHeartbeats 4000000 in
set_option maxRecDepth 100000 in
theorem c_X8_sheetOf (l : Launch) (D : va_G) {cI cH cE cJ : ClassId} {b : Nat → Nat} (hw : ∀ σ, va_D (Pm b) (wm cJ b σ)) {σ : Me} {x1 : Int32} {x2 : Int32} {r : Int32} (hf : f_X8_sheetOf σ x1 x2 = some r) : Mq l D (tyc cI cH cE cJ) (wm cJ b) (Pm b) yX8_sheetOf cX8_sheetOf 4 (Option.some Jvm.ClassFile.FieldType.int) 3 [.ref (b 0), .int x1, .int x2] σ (qI D (wm cJ b) (Pm b) σ r) := by
  refine mOf (plainFor_of_name (by decide)) hw (Nat.le_of_ble_eq_true rfl) [(0, .ref (b 0)), (1, .int x1), (2, .int x2)] rfl ?_
  intro p e s m args below meth c C hr
  unfold f_X8_sheetOf at hf
  refine g_aload_n (pc := 0) C dX8_sheetOf_0 0 rfl rfl ?_
  refine g_iload_n (pc := 1) C dX8_sheetOf_1 1 rfl rfl ?_
  refine g_iload_n (pc := 2) C dX8_sheetOf_2 2 rfl rfl ?_
  obtain ⟨r1, h1, hf⟩ := bd_some hf
  refine g_cVi (pc := 3) C (st := []) jW.rf (c_X8_pressOf l D hw h1) y_X8_pressOf tw_759 rfl ⟨by decide, by decide⟩ ⟨Nat.zero_le _, Nat.zero_le _⟩ (Nat.le_of_ble_eq_true rfl) wm_0 cl_X8 rfl dX8_sheetOf_3 rfl ?_
  refine g_istore_n (pc := 6) C [(3, .int r1), (0, .ref (b 0)), (1, .int x1), (2, .int x2)] dX8_sheetOf_6 rfl (by decide) rfl ?_
  refine g_iload_n (pc := 7) C dX8_sheetOf_7 3 rfl rfl ?_
  refine g_aload_n (pc := 8) C dX8_sheetOf_8 1 rfl rfl ?_
  refine g_iload_n (pc := 9) C dX8_sheetOf_9 2 rfl rfl ?_
  refine g_iload_n (pc := 10) C dX8_sheetOf_10 0 rfl rfl ?_
  obtain ⟨r2, h2, hf⟩ := bd_some hf
  refine g_cVi (pc := 11) C (st := [.int x2]) jW.rf (c_X8_first l D hw h2) y_X8_first tw_763 rfl ⟨by decide, by decide⟩ ⟨Nat.zero_le _, Nat.zero_le _⟩ (Nat.le_of_ble_eq_true rfl) wm_0 cl_X8 rfl dX8_sheetOf_11 rfl ?_
  refine g_isub (pc := 14) C dX8_sheetOf_14 ?_
  refine g_aload_n (pc := 15) C dX8_sheetOf_15 1 rfl rfl ?_
  refine g_iload_n (pc := 16) C dX8_sheetOf_16 2 rfl rfl ?_
  refine g_iload_n (pc := 17) C dX8_sheetOf_17 0 rfl rfl ?_
  obtain ⟨r3, h3, hf⟩ := bd_some hf
  refine g_cVi (pc := 18) C (st := [.int (x2 - r2)]) jW.rf (c_X8_sheets l D hw h3) y_X8_sheets tw_735 rfl ⟨by decide, by decide⟩ ⟨Nat.zero_le _, Nat.zero_le _⟩ (Nat.le_of_ble_eq_true rfl) wm_0 cl_X8 rfl dX8_sheetOf_18 rfl ?_
  obtain ⟨q4, hf⟩ := gd_some hf
  refine g_irem (pc := 21) C dX8_sheetOf_21 (of_decide_eq_true q4) ?_
  cases hf
  exact g_iret (pc := 22) C hr dX8_sheetOf_22

set_option maxHeartbeats 4000000 in
set_option maxRecDepth 100000 in
theorem c_X8_isPrinted (l : Launch) (D : va_G) {cI cH cE cJ : ClassId} {b : Nat → Nat} (hw : ∀ σ, va_D (Pm b) (wm cJ b σ)) {σ : Me} {x1 : Int32} {x2 : Int32} {r : Bool} (hf : f_X8_isPrinted σ x1 x2 = some r) : Mq l D (tyc cI cH cE cJ) (wm cJ b) (Pm b) yX8_isPrinted cX8_isPrinted 3 (Option.some Jvm.ClassFile.FieldType.boolean) 4 [.ref (b 0), .int x1, .int x2] σ (qI D (wm cJ b) (Pm b) σ (bI r)) := by
  refine mOf (plainFor_of_name (by decide)) hw (Nat.le_of_ble_eq_true rfl) [(0, .ref (b 0)), (1, .int x1), (2, .int x2)] rfl ?_
  intro p e s m args below meth c C hr
  unfold f_X8_isPrinted at hf
  refine g_aload_n (pc := 0) C dX8_isPrinted_0 0 rfl rfl ?_
  refine g_iload_n (pc := 1) C dX8_isPrinted_1 1 rfl rfl ?_
  refine g_iload_n (pc := 2) C dX8_isPrinted_2 2 rfl rfl ?_
  obtain ⟨r1, h1, hf⟩ := bd_some hf
  refine g_cVi (pc := 3) C (st := []) jW.rf (c_X8_sheetOf l D hw h1) y_X8_sheetOf tw_755 rfl ⟨by decide, by decide⟩ ⟨Nat.zero_le _, Nat.zero_le _⟩ (Nat.le_of_ble_eq_true rfl) wm_0 cl_X8 rfl dX8_isPrinted_3 rfl ?_
  refine g_aload_n (pc := 6) C dX8_isPrinted_6 0 rfl rfl ?_
  refine g_get (pc := 7) C in_X8 wm_0 cl_X8 5 (by decide) tw_627 rfl dX8_isPrinted_7 ?_
  refine g_iconst (pc := 10) C dX8_isPrinted_10 ic_4 ?_
  refine g_iload_n (pc := 11) C dX8_isPrinted_11 1 rfl rfl ?_
  refine g_imul (pc := 12) C dX8_isPrinted_12 ?_
  refine g_aload_n (pc := 13) C dX8_isPrinted_13 0 rfl rfl ?_
  refine g_iload_n (pc := 14) C dX8_isPrinted_14 1 rfl rfl ?_
  refine g_iload_n (pc := 15) C dX8_isPrinted_15 2 rfl rfl ?_
  obtain ⟨r2, h2, hf⟩ := bd_some hf
  refine g_cVi (pc := 16) C (st := [.int (4 * x1), .ref (b 4), .int r1]) jW.rf (c_X8_pressOf l D hw h2) y_X8_pressOf tw_759 rfl ⟨by decide, by decide⟩ ⟨Nat.zero_le _, Nat.zero_le _⟩ (Nat.le_of_ble_eq_true rfl) wm_0 cl_X8 rfl dX8_isPrinted_16 rfl ?_
  refine g_iadd (pc := 19) C dX8_isPrinted_19 ?_
  obtain ⟨q3, hf⟩ := gd_some hf
  refine g_iald (pc := 20) C 3 wm_4 rfl q3 rfl dX8_isPrinted_20 ?_
  refine g_icmp_ge (pc := 21) C 28 dX8_isPrinted_21 (by decide) (fun q4 => ?_) (fun q4 => ?_)
  · replace hf := (if_pos q4).symm.trans hf
    refine g_iconst (pc := 28) C dX8_isPrinted_28 ic_0 ?_
    cases hf
    exact g_zret (pc := 29) (b := false) C hr dX8_isPrinted_29
  · replace hf := (if_neg q4).symm.trans hf
    refine g_iconst (pc := 24) C dX8_isPrinted_24 ic_1 ?_
    refine g_goto (pc := 25) C 29 dX8_isPrinted_25 (by decide) ?_
    cases hf
    exact g_zret (pc := 29) (b := true) C hr dX8_isPrinted_29

set_option maxHeartbeats 4000000 in
set_option maxRecDepth 100000 in
theorem c_X8_starAt (l : Launch) (D : va_G) {cI cH cE cJ : ClassId} {b : Nat → Nat} (hw : ∀ σ, va_D (Pm b) (wm cJ b σ)) {σ : Me} {x1 : Int32} {x2 : Int32} {r : Int32} (hf : f_X8_starAt σ x1 x2 = some r) : Mq l D (tyc cI cH cE cJ) (wm cJ b) (Pm b) yX8_starAt cX8_starAt 4 (Option.some Jvm.ClassFile.FieldType.int) 0 [.ref (b 0), .int x1, .int x2] σ (qI D (wm cJ b) (Pm b) σ r) := by
  refine mOf (plainFor_of_name (by decide)) hw (Nat.le_of_ble_eq_true rfl) [(0, .ref (b 0)), (1, .int x1), (2, .int x2)] rfl ?_
  intro p e s m args below meth c C hr
  have b2 : ∀ (n : Nat) (x3 : Int32) (hf : f_X8_starAt_2 n σ x1 x2 x3 = some r), Gg p l e (rmd 0) s m args below meth c D (Pm b) (wm cJ b) 4 0 0 (MQ below ((qI D (wm cJ b) (Pm b) σ r) s.heap.size) args s 0 0 (fR (Pm b) s.heap.size)) σ [(0, .ref (b 0)), (1, .int x1), (2, .int x2), (3, .int x3)] 2 [] := by
    intro n
    induction n with
    | zero => intro x3 hf; exact absurd hf (by simp [f_X8_starAt_2])
    | succ n ih =>
      intro x3 hf
      rw [f_X8_starAt_2] at hf
      refine g_iload_n (pc := 2) C dX8_starAt_2 3 rfl rfl ?_
      refine g_aload_n (pc := 3) C dX8_starAt_3 0 rfl rfl ?_
      refine g_get (pc := 4) C in_X8 wm_0 cl_X8 5 (by decide) tw_627 rfl dX8_starAt_4 ?_
      refine g_bipush (pc := 7) C dX8_starAt_7 bp_111 ?_
      refine g_iald (pc := 9) C 3 wm_4 rfl (by decide) tnn_111 dX8_starAt_9 ?_
      refine g_icmp_ge (pc := 10) C 40 dX8_starAt_10 (by decide) (fun q2 => ?_) (fun q2 => ?_)
      · replace hf := (if_pos q2).symm.trans hf
        refine g_bipush (pc := 40) C dX8_starAt_40 bp_m4 ?_
        cases hf
        exact g_iret (pc := 42) C hr dX8_starAt_42
      · replace hf := (if_neg q2).symm.trans hf
        refine g_aload_n (pc := 13) C dX8_starAt_13 0 rfl rfl ?_
        refine g_get (pc := 14) C in_X8 wm_0 cl_X8 5 (by decide) tw_627 rfl dX8_starAt_14 ?_
        refine g_bipush (pc := 17) C dX8_starAt_17 bp_12 ?_
        refine g_iload_n (pc := 19) C dX8_starAt_19 3 rfl rfl ?_
        refine g_iadd (pc := 20) C dX8_starAt_20 ?_
        obtain ⟨q3, hf⟩ := gd_some hf
        refine g_iald (pc := 21) C 3 wm_4 rfl q3 rfl dX8_starAt_21 ?_
        refine g_sipush (pc := 22) C dX8_starAt_22 sp_1000 ?_
        refine g_iload_n (pc := 25) C dX8_starAt_25 1 rfl rfl ?_
        refine g_imul (pc := 26) C dX8_starAt_26 ?_
        refine g_iload_n (pc := 27) C dX8_starAt_27 2 rfl rfl ?_
        refine g_iadd (pc := 28) C dX8_starAt_28 ?_
        refine g_icmp_ne (pc := 29) C 34 dX8_starAt_29 (by decide) (fun q4 => ?_) (fun q4 => ?_)
        · replace hf := (if_neg q4).symm.trans hf
          refine g_iinc (pc := 34) C [(3, .int (x3 + 1)), (0, .ref (b 0)), (1, .int x1), (2, .int x2)] 3 dX8_starAt_34 rfl ic_1 (by decide) rfl ?_
          refine g_goto (pc := 37) C 2 dX8_starAt_37 (by decide) ?_
          exact g_sub [1, 2, 3, 0] rfl (ih (x3 + 1) hf)
        · replace hf := (if_pos q4).symm.trans hf
          refine g_iload_n (pc := 32) C dX8_starAt_32 3 rfl rfl ?_
          cases hf
          exact g_iret (pc := 33) C hr dX8_starAt_33
  unfold f_X8_starAt at hf
  refine g_iconst (pc := 0) C dX8_starAt_0 ic_0 ?_
  refine g_istore_n (pc := 1) C [(3, .int 0), (0, .ref (b 0)), (1, .int x1), (2, .int x2)] dX8_starAt_1 rfl (by decide) rfl ?_
  exact g_sub [1, 2, 3, 0] rfl (b2 1000 0 hf)

set_option maxHeartbeats 4000000 in
set_option maxRecDepth 100000 in
theorem c_X8_turned (l : Launch) (D : va_G) {cI cH cE cJ : ClassId} {b : Nat → Nat} (hw : ∀ σ, va_D (Pm b) (wm cJ b σ)) {σ : Me} {x0 : Int32} {r : Int32} (hf : f_X8_turned x0 = some r) : Mq l D (tyc cI cH cE cJ) (wm cJ b) (Pm b) yX8_turned cX8_turned 1 (Option.some Jvm.ClassFile.FieldType.int) 0 [.int x0] σ (qI D (wm cJ b) (Pm b) σ r) := by
  refine mOf (plainFor_of_name (by decide)) hw (Nat.le_of_ble_eq_true rfl) [(0, .int x0)] rfl ?_
  intro p e s m args below meth c C hr
  unfold f_X8_turned at hf
  refine g_iload_n (pc := 0) C dX8_turned_0 0 rfl rfl ?_
  refine g_if_ne (pc := 1) C 8 dX8_turned_1 (by decide) (fun q1 => ?_) (fun q1 => ?_)
  · replace hf := (if_neg q1).symm.trans hf
    refine g_iload_n (pc := 8) C dX8_turned_8 0 rfl rfl ?_
    refine g_iconst (pc := 9) C dX8_turned_9 ic_1 ?_
    refine g_icmp_ne (pc := 10) C 17 dX8_turned_10 (by decide) (fun q2 => ?_) (fun q2 => ?_)
    · replace hf := (if_neg q2).symm.trans hf
      refine g_iload_n (pc := 17) C dX8_turned_17 0 rfl rfl ?_
      refine g_iconst (pc := 18) C dX8_turned_18 ic_2 ?_
      refine g_icmp_ne (pc := 19) C 27 dX8_turned_19 (by decide) (fun q3 => ?_) (fun q3 => ?_)
      · replace hf := (if_neg q3).symm.trans hf
        refine g_iload_n (pc := 27) C dX8_turned_27 0 rfl rfl ?_
        refine g_iconst (pc := 28) C dX8_turned_28 ic_3 ?_
        refine g_icmp_ne (pc := 29) C 37 dX8_turned_29 (by decide) (fun q4 => ?_) (fun q4 => ?_)
        · replace hf := (if_neg q4).symm.trans hf
          refine g_iload_n (pc := 37) C dX8_turned_37 0 rfl rfl ?_
          refine g_iconst (pc := 38) C dX8_turned_38 ic_4 ?_
          refine g_icmp_ne (pc := 39) C 46 dX8_turned_39 (by decide) (fun q5 => ?_) (fun q5 => ?_)
          · replace hf := (if_neg q5).symm.trans hf
            refine g_iload_n (pc := 46) C dX8_turned_46 0 rfl rfl ?_
            refine g_iconst (pc := 47) C dX8_turned_47 ic_5 ?_
            refine g_icmp_ne (pc := 48) C 56 dX8_turned_48 (by decide) (fun q6 => ?_) (fun q6 => ?_)
            · replace hf := (if_neg q6).symm.trans hf
              refine g_iload_n (pc := 56) C dX8_turned_56 0 rfl rfl ?_
              refine g_bipush (pc := 57) C dX8_turned_57 bp_6 ?_
              refine g_icmp_ne (pc := 59) C 66 dX8_turned_59 (by decide) (fun q7 => ?_) (fun q7 => ?_)
              · replace hf := (if_neg q7).symm.trans hf
                refine g_iload_n (pc := 66) C dX8_turned_66 0 rfl rfl ?_
                refine g_bipush (pc := 67) C dX8_turned_67 bp_7 ?_
                refine g_icmp_ne (pc := 69) C 76 dX8_turned_69 (by decide) (fun q8 => ?_) (fun q8 => ?_)
                · replace hf := (if_neg q8).symm.trans hf
                  refine g_iload_n (pc := 76) C dX8_turned_76 0 rfl rfl ?_
                  refine g_bipush (pc := 77) C dX8_turned_77 bp_8 ?_
                  refine g_icmp_ne (pc := 79) C 87 dX8_turned_79 (by decide) (fun q9 => ?_) (fun q9 => ?_)
                  · replace hf := (if_neg q9).symm.trans hf
                    refine g_iconst (pc := 87) C dX8_turned_87 ic_4 ?_
                    cases hf
                    exact g_iret (pc := 88) C hr dX8_turned_88
                  · replace hf := (if_pos q9).symm.trans hf
                    refine g_bipush (pc := 82) C dX8_turned_82 bp_9 ?_
                    refine g_goto (pc := 84) C 88 dX8_turned_84 (by decide) ?_
                    cases hf
                    exact g_iret (pc := 88) C hr dX8_turned_88
                · replace hf := (if_pos q8).symm.trans hf
                  refine g_iconst (pc := 72) C dX8_turned_72 ic_0 ?_
                  refine g_goto (pc := 73) C 88 dX8_turned_73 (by decide) ?_
                  cases hf
                  exact g_iret (pc := 88) C hr dX8_turned_88
              · replace hf := (if_pos q7).symm.trans hf
                refine g_iconst (pc := 62) C dX8_turned_62 ic_3 ?_
                refine g_goto (pc := 63) C 88 dX8_turned_63 (by decide) ?_
                cases hf
                exact g_iret (pc := 88) C hr dX8_turned_88
            · replace hf := (if_pos q6).symm.trans hf
              refine g_bipush (pc := 51) C dX8_turned_51 bp_8 ?_
              refine g_goto (pc := 53) C 88 dX8_turned_53 (by decide) ?_
              cases hf
              exact g_iret (pc := 88) C hr dX8_turned_88
          · replace hf := (if_pos q5).symm.trans hf
            refine g_iconst (pc := 42) C dX8_turned_42 ic_2 ?_
            refine g_goto (pc := 43) C 88 dX8_turned_43 (by decide) ?_
            cases hf
            exact g_iret (pc := 88) C hr dX8_turned_88
        · replace hf := (if_pos q4).symm.trans hf
          refine g_bipush (pc := 32) C dX8_turned_32 bp_6 ?_
          refine g_goto (pc := 34) C 88 dX8_turned_34 (by decide) ?_
          cases hf
          exact g_iret (pc := 88) C hr dX8_turned_88
      · replace hf := (if_pos q3).symm.trans hf
        refine g_bipush (pc := 22) C dX8_turned_22 bp_7 ?_
        refine g_goto (pc := 24) C 88 dX8_turned_24 (by decide) ?_
        cases hf
        exact g_iret (pc := 88) C hr dX8_turned_88
    · replace hf := (if_pos q2).symm.trans hf
      refine g_iconst (pc := 13) C dX8_turned_13 ic_5 ?_
      refine g_goto (pc := 14) C 88 dX8_turned_14 (by decide) ?_
      cases hf
      exact g_iret (pc := 88) C hr dX8_turned_88
  · replace hf := (if_pos q1).symm.trans hf
    refine g_iconst (pc := 4) C dX8_turned_4 ic_1 ?_
    refine g_goto (pc := 5) C 88 dX8_turned_5 (by decide) ?_
    cases hf
    exact g_iret (pc := 88) C hr dX8_turned_88

set_option maxHeartbeats 4000000 in
set_option maxRecDepth 100000 in
theorem c_X8_make (l : Launch) (D : va_G) {cI cH cE cJ : ClassId} {b : Nat → Nat} (hw : ∀ σ, va_D (Pm b) (wm cJ b σ)) {σ : Me} {x0 : Int32} {x1 : Int32} {r : Int32} (hf : f_X8_make x0 x1 = some r) : Mq l D (tyc cI cH cE cJ) (wm cJ b) (Pm b) yX8_make cX8_make 3 (Option.some Jvm.ClassFile.FieldType.int) 0 [.int x0, .int x1] σ (qI D (wm cJ b) (Pm b) σ r) := by
  refine mOf (plainFor_of_name (by decide)) hw (Nat.le_of_ble_eq_true rfl) [(0, .int x0), (1, .int x1)] rfl ?_
  intro p e s m args below meth c C hr
  have b20 : ∀ (t0 : Int32) (hf : f_X8_make_20 x0 x1 t0 = some r), Gg p l e (rmd 0) s m args below meth c D (Pm b) (wm cJ b) 3 0 0 (MQ below ((qI D (wm cJ b) (Pm b) σ r) s.heap.size) args s 0 0 (fR (Pm b) s.heap.size)) σ [(0, .int x0), (1, .int x1)] 20 [.int t0] := by
    intro  t0 hf
    unfold f_X8_make_20 at hf
    refine g_istore_n (pc := 20) C [(2, .int t0), (0, .int x0), (1, .int x1)] dX8_make_20 rfl (by decide) rfl ?_
    refine g_iload_n (pc := 21) C dX8_make_21 1 rfl rfl ?_
    refine g_iconst (pc := 22) C dX8_make_22 ic_4 ?_
    refine g_icmp_le (pc := 23) C 30 dX8_make_23 (by decide) (fun q1 => ?_) (fun q1 => ?_)
    · replace hf := (if_pos q1).symm.trans hf
      refine g_iconst (pc := 30) C dX8_make_30 ic_0 ?_
      refine g_iload_n (pc := 31) C dX8_make_31 2 rfl rfl ?_
      refine g_iconst (pc := 32) C dX8_make_32 ic_4 ?_
      refine g_icmp_le (pc := 33) C 40 dX8_make_33 (by decide) (fun q2 => ?_) (fun q2 => ?_)
      · replace hf := (if_pos q2).symm.trans hf
        refine g_iconst (pc := 40) C dX8_make_40 ic_0 ?_
        refine g_icmp_ne (pc := 41) C 48 dX8_make_41 (by decide) (fun q3 => ?_) (fun q3 => ?_)
        · replace hf := (if_neg q3).symm.trans hf
          refine g_iconst (pc := 48) C dX8_make_48 ic_5 ?_
          refine g_iload_n (pc := 49) C dX8_make_49 0 rfl rfl ?_
          refine g_iadd (pc := 50) C dX8_make_50 ?_
          cases hf
          exact g_iret (pc := 51) C hr dX8_make_51
        · replace hf := (if_pos q3).symm.trans hf
          refine g_iload_n (pc := 44) C dX8_make_44 0 rfl rfl ?_
          refine g_goto (pc := 45) C 51 dX8_make_45 (by decide) ?_
          cases hf
          exact g_iret (pc := 51) C hr dX8_make_51
      · replace hf := (if_neg q2).symm.trans hf
        refine g_iconst (pc := 36) C dX8_make_36 ic_1 ?_
        refine g_goto (pc := 37) C 41 dX8_make_37 (by decide) ?_
        refine g_icmp_ne (pc := 41) C 48 dX8_make_41 (by decide) (fun q4 => ?_) (fun q4 => ?_)
        · replace hf := (if_neg q4).symm.trans hf
          refine g_iconst (pc := 48) C dX8_make_48 ic_5 ?_
          refine g_iload_n (pc := 49) C dX8_make_49 0 rfl rfl ?_
          refine g_iadd (pc := 50) C dX8_make_50 ?_
          cases hf
          exact g_iret (pc := 51) C hr dX8_make_51
        · replace hf := (if_pos q4).symm.trans hf
          refine g_iload_n (pc := 44) C dX8_make_44 0 rfl rfl ?_
          refine g_goto (pc := 45) C 51 dX8_make_45 (by decide) ?_
          cases hf
          exact g_iret (pc := 51) C hr dX8_make_51
    · replace hf := (if_neg q1).symm.trans hf
      refine g_iconst (pc := 26) C dX8_make_26 ic_1 ?_
      refine g_goto (pc := 27) C 31 dX8_make_27 (by decide) ?_
      refine g_iload_n (pc := 31) C dX8_make_31 2 rfl rfl ?_
      refine g_iconst (pc := 32) C dX8_make_32 ic_4 ?_
      refine g_icmp_le (pc := 33) C 40 dX8_make_33 (by decide) (fun q5 => ?_) (fun q5 => ?_)
      · replace hf := (if_pos q5).symm.trans hf
        refine g_iconst (pc := 40) C dX8_make_40 ic_0 ?_
        refine g_icmp_ne (pc := 41) C 48 dX8_make_41 (by decide) (fun q6 => ?_) (fun q6 => ?_)
        · replace hf := (if_neg q6).symm.trans hf
          refine g_iconst (pc := 48) C dX8_make_48 ic_5 ?_
          refine g_iload_n (pc := 49) C dX8_make_49 0 rfl rfl ?_
          refine g_iadd (pc := 50) C dX8_make_50 ?_
          cases hf
          exact g_iret (pc := 51) C hr dX8_make_51
        · replace hf := (if_pos q6).symm.trans hf
          refine g_iload_n (pc := 44) C dX8_make_44 0 rfl rfl ?_
          refine g_goto (pc := 45) C 51 dX8_make_45 (by decide) ?_
          cases hf
          exact g_iret (pc := 51) C hr dX8_make_51
      · replace hf := (if_neg q5).symm.trans hf
        refine g_iconst (pc := 36) C dX8_make_36 ic_1 ?_
        refine g_goto (pc := 37) C 41 dX8_make_37 (by decide) ?_
        refine g_icmp_ne (pc := 41) C 48 dX8_make_41 (by decide) (fun q7 => ?_) (fun q7 => ?_)
        · replace hf := (if_neg q7).symm.trans hf
          refine g_iconst (pc := 48) C dX8_make_48 ic_5 ?_
          refine g_iload_n (pc := 49) C dX8_make_49 0 rfl rfl ?_
          refine g_iadd (pc := 50) C dX8_make_50 ?_
          cases hf
          exact g_iret (pc := 51) C hr dX8_make_51
        · replace hf := (if_pos q7).symm.trans hf
          refine g_iload_n (pc := 44) C dX8_make_44 0 rfl rfl ?_
          refine g_goto (pc := 45) C 51 dX8_make_45 (by decide) ?_
          cases hf
          exact g_iret (pc := 51) C hr dX8_make_51
  unfold f_X8_make at hf
  refine g_iload_n (pc := 0) C dX8_make_0 0 rfl rfl ?_
  refine g_iconst (pc := 1) C dX8_make_1 ic_4 ?_
  refine g_icmp_le (pc := 2) C 15 dX8_make_2 (by decide) (fun q8 => ?_) (fun q8 => ?_)
  · replace hf := (if_pos q8).symm.trans hf
    refine g_iload_n (pc := 15) C dX8_make_15 0 rfl rfl ?_
    refine g_iload_n (pc := 16) C dX8_make_16 1 rfl rfl ?_
    refine g_iadd (pc := 17) C dX8_make_17 ?_
    refine g_iconst (pc := 18) C dX8_make_18 ic_5 ?_
    refine g_irem (pc := 19) C dX8_make_19 (by decide) ?_
    exact g_sub [0, 1] rfl (b20 ((x0 + x1) - (x0 + x1) / 5 * 5) hf)
  · replace hf := (if_neg q8).symm.trans hf
    refine g_iload_n (pc := 5) C dX8_make_5 0 rfl rfl ?_
    refine g_iload_n (pc := 6) C dX8_make_6 1 rfl rfl ?_
    refine g_isub (pc := 7) C dX8_make_7 ?_
    refine g_iconst (pc := 8) C dX8_make_8 ic_5 ?_
    refine g_iadd (pc := 9) C dX8_make_9 ?_
    refine g_iconst (pc := 10) C dX8_make_10 ic_5 ?_
    refine g_irem (pc := 11) C dX8_make_11 (by decide) ?_
    refine g_goto (pc := 12) C 20 dX8_make_12 (by decide) ?_
    exact g_sub [0, 1] rfl (b20 (((x0 - x1) + 5) - ((x0 - x1) + 5) / 5 * 5) hf)

set_option maxHeartbeats 4000000 in
set_option maxRecDepth 100000 in
theorem c_X8_checkOf (l : Launch) (D : va_G) {cI cH cE cJ : ClassId} {b : Nat → Nat} (hw : ∀ σ, va_D (Pm b) (wm cJ b σ)) {σ : Me} {x0 : Int32} {x1 : Int32} {x2 : Int32} {r : Int32} (hf : f_X8_checkOf x0 x1 x2 = some r) : Mq l D (tyc cI cH cE cJ) (wm cJ b) (Pm b) yX8_checkOf cX8_checkOf 8 (Option.some Jvm.ClassFile.FieldType.int) 1 [.int x0, .int x1, .int x2] σ (qI D (wm cJ b) (Pm b) σ r) := by
  refine mOf (plainFor_of_name (by decide)) hw (Nat.le_of_ble_eq_true rfl) [(0, .int x0), (1, .int x1), (2, .int x2)] rfl ?_
  intro p e s m args below meth c C hr
  have b124 : ∀ (n : Nat) (x6 : Int32) (x7 : Int32) (hf : f_X8_checkOf_124 n x6 x7 = some r), Gg p l e (rmd 1) s m args below meth c D (Pm b) (wm cJ b) 8 0 0 (MQ below ((qI D (wm cJ b) (Pm b) σ r) s.heap.size) args s 0 0 (fR (Pm b) s.heap.size)) σ [(6, .int x6), (7, .int x7)] 124 [] := by
    intro n
    induction n with
    | zero => intro x6 x7 hf; exact absurd hf (by simp [f_X8_checkOf_124])
    | succ n ih =>
      intro x6 x7 hf
      rw [f_X8_checkOf_124] at hf
      refine g_iload (pc := 124) C dX8_checkOf_124 0 rfl ?_
      refine g_iload (pc := 126) C dX8_checkOf_126 1 rfl ?_
      obtain ⟨r1, h1, hf⟩ := bd_some hf
      refine g_cSi (pc := 128) C (st := []) jW.rf (c_X8_make l D hw h1) y_X8_make tw_715 rfl ⟨by decide, by decide⟩ ⟨Nat.zero_le _, Nat.zero_le _⟩ (Nat.le_of_ble_eq_true rfl) dX8_checkOf_128 rfl ?_
      refine g_if_eq (pc := 131) C 140 dX8_checkOf_131 (by decide) (fun q2 => ?_) (fun q2 => ?_)
      · replace hf := (if_pos q2).symm.trans hf
        refine g_iload (pc := 140) C dX8_checkOf_140 1 rfl ?_
        cases hf
        exact g_iret (pc := 142) C hr dX8_checkOf_142
      · replace hf := (if_neg q2).symm.trans hf
        refine g_iinc (pc := 134) C [(7, .int (x7 + 1)), (6, .int x6)] 1 dX8_checkOf_134 rfl ic_1 (by decide) rfl ?_
        refine g_goto (pc := 137) C 124 dX8_checkOf_137 (by decide) ?_
        exact g_sub [1, 0] rfl (ih x6 (x7 + 1) hf)
  unfold f_X8_checkOf at hf
  refine g_iload_n (pc := 0) C dX8_checkOf_0 2 rfl rfl ?_
  refine g_bipush (pc := 1) C dX8_checkOf_1 bp_100 ?_
  refine g_idiv (pc := 3) C dX8_checkOf_3 (by decide) ?_
  refine g_istore_n (pc := 4) C [(3, .int (x2 / 100)), (0, .int x0), (1, .int x1), (2, .int x2)] dX8_checkOf_4 rfl (by decide) rfl ?_
  refine g_iload_n (pc := 5) C dX8_checkOf_5 3 rfl rfl ?_
  refine g_bipush (pc := 6) C dX8_checkOf_6 bp_10 ?_
  refine g_idiv (pc := 8) C dX8_checkOf_8 (by decide) ?_
  refine g_bipush (pc := 9) C dX8_checkOf_9 bp_10 ?_
  refine g_irem (pc := 11) C dX8_checkOf_11 (by decide) ?_
  refine g_istore (pc := 12) C [(4, .int ((x2 / 10) - (x2 / 10) / 10 * 10)), (3, .int (x2 / 100)), (0, .int x0), (1, .int x1), (2, .int x2)] dX8_checkOf_12 (by decide) rfl ?_
  refine g_iload_n (pc := 14) C dX8_checkOf_14 4 rfl rfl ?_
  refine g_bipush (pc := 15) C dX8_checkOf_15 bp_10 ?_
  refine g_irem (pc := 17) C dX8_checkOf_17 (by decide) ?_
  refine g_istore (pc := 18) C [(5, .int (x2 - x2 / 10 * 10)), (4, .int ((x2 / 10) - (x2 / 10) / 10 * 10)), (3, .int (x2 / 100)), (0, .int x0), (1, .int x1), (2, .int x2)] dX8_checkOf_18 (by decide) rfl ?_
  refine g_iload_n (pc := 20) C dX8_checkOf_20 4 rfl rfl ?_
  refine g_if_ne (pc := 21) C 43 dX8_checkOf_21 (by decide) (fun q3 => ?_) (fun q3 => ?_)
  · replace hf := (if_neg q3).symm.trans hf
    refine g_iload_n (pc := 43) C dX8_checkOf_43 4 rfl rfl ?_
    refine g_iconst (pc := 44) C dX8_checkOf_44 ic_1 ?_
    refine g_icmp_ne (pc := 45) C 75 dX8_checkOf_45 (by decide) (fun q4 => ?_) (fun q4 => ?_)
    · replace hf := (if_neg q4).symm.trans hf
      refine g_iload_n (pc := 75) C dX8_checkOf_75 3 rfl rfl ?_
      refine g_bipush (pc := 76) C dX8_checkOf_76 bp_10 ?_
      refine g_irem (pc := 78) C dX8_checkOf_78 (by decide) ?_
      refine g_iload_n (pc := 79) C dX8_checkOf_79 2 rfl rfl ?_
      obtain ⟨r5, h5, hf⟩ := bd_some hf
      refine g_cSi (pc := 80) C (st := [.int (x0 - x0 / 10 * 10)]) jW.rf (c_X8_turned l D hw h5) y_X8_turned tw_712 rfl ⟨by decide, by decide⟩ ⟨Nat.zero_le _, Nat.zero_le _⟩ (Nat.le_of_ble_eq_true rfl) dX8_checkOf_80 rfl ?_
      obtain ⟨r6, h6, hf⟩ := bd_some hf
      refine g_cSi (pc := 83) C (st := []) jW.rf (c_X8_make l D hw h6) y_X8_make tw_715 rfl ⟨by decide, by decide⟩ ⟨Nat.zero_le _, Nat.zero_le _⟩ (Nat.le_of_ble_eq_true rfl) dX8_checkOf_83 rfl ?_
      refine g_istore (pc := 86) C [(6, .int r6), (5, .int (x2 - x2 / 10 * 10)), (4, .int ((x2 / 10) - (x2 / 10) / 10 * 10)), (3, .int (x2 / 100)), (0, .int x0), (1, .int x1), (2, .int x2)] dX8_checkOf_86 (by decide) rfl ?_
      refine g_iload (pc := 88) C dX8_checkOf_88 0 rfl ?_
      refine g_iload (pc := 90) C dX8_checkOf_90 2 rfl ?_
      obtain ⟨r7, h7, hf⟩ := bd_some hf
      refine g_cSi (pc := 92) C (st := [.int r6]) jW.rf (c_X8_turned l D hw h7) y_X8_turned tw_712 rfl ⟨by decide, by decide⟩ ⟨Nat.zero_le _, Nat.zero_le _⟩ (Nat.le_of_ble_eq_true rfl) dX8_checkOf_92 rfl ?_
      obtain ⟨r8, h8, hf⟩ := bd_some hf
      refine g_cSi (pc := 95) C (st := [.int r6]) jW.rf (c_X8_turned l D hw h8) y_X8_turned tw_712 rfl ⟨by decide, by decide⟩ ⟨Nat.zero_le _, Nat.zero_le _⟩ (Nat.le_of_ble_eq_true rfl) dX8_checkOf_95 rfl ?_
      obtain ⟨r9, h9, hf⟩ := bd_some hf
      refine g_cSi (pc := 98) C (st := []) jW.rf (c_X8_make l D hw h9) y_X8_make tw_715 rfl ⟨by decide, by decide⟩ ⟨Nat.zero_le _, Nat.zero_le _⟩ (Nat.le_of_ble_eq_true rfl) dX8_checkOf_98 rfl ?_
      refine g_istore (pc := 101) C [(6, .int r9), (5, .int (x2 - x2 / 10 * 10)), (4, .int ((x2 / 10) - (x2 / 10) / 10 * 10)), (3, .int (x2 / 100)), (0, .int x0), (1, .int x1), (2, .int x2)] dX8_checkOf_101 (by decide) rfl ?_
      refine g_iload (pc := 103) C dX8_checkOf_103 0 rfl ?_
      refine g_iload (pc := 105) C dX8_checkOf_105 1 rfl ?_
      obtain ⟨r10, h10, hf⟩ := bd_some hf
      refine g_cSi (pc := 107) C (st := [.int r9]) jW.rf (c_X8_turned l D hw h10) y_X8_turned tw_712 rfl ⟨by decide, by decide⟩ ⟨Nat.zero_le _, Nat.zero_le _⟩ (Nat.le_of_ble_eq_true rfl) dX8_checkOf_107 rfl ?_
      obtain ⟨r11, h11, hf⟩ := bd_some hf
      refine g_cSi (pc := 110) C (st := [.int r9]) jW.rf (c_X8_turned l D hw h11) y_X8_turned tw_712 rfl ⟨by decide, by decide⟩ ⟨Nat.zero_le _, Nat.zero_le _⟩ (Nat.le_of_ble_eq_true rfl) dX8_checkOf_110 rfl ?_
      obtain ⟨r12, h12, hf⟩ := bd_some hf
      refine g_cSi (pc := 113) C (st := [.int r9]) jW.rf (c_X8_turned l D hw h12) y_X8_turned tw_712 rfl ⟨by decide, by decide⟩ ⟨Nat.zero_le _, Nat.zero_le _⟩ (Nat.le_of_ble_eq_true rfl) dX8_checkOf_113 rfl ?_
      obtain ⟨r13, h13, hf⟩ := bd_some hf
      refine g_cSi (pc := 116) C (st := []) jW.rf (c_X8_make l D hw h13) y_X8_make tw_715 rfl ⟨by decide, by decide⟩ ⟨Nat.zero_le _, Nat.zero_le _⟩ (Nat.le_of_ble_eq_true rfl) dX8_checkOf_116 rfl ?_
      refine g_istore (pc := 119) C [(6, .int r13), (5, .int (x2 - x2 / 10 * 10)), (4, .int ((x2 / 10) - (x2 / 10) / 10 * 10)), (3, .int (x2 / 100)), (0, .int x0), (1, .int x1), (2, .int x2)] dX8_checkOf_119 (by decide) rfl ?_
      refine g_iconst (pc := 121) C dX8_checkOf_121 ic_0 ?_
      refine g_istore (pc := 122) C [(7, .int 0), (6, .int r13), (5, .int (x2 - x2 / 10 * 10)), (4, .int ((x2 / 10) - (x2 / 10) / 10 * 10)), (3, .int (x2 / 100)), (0, .int x0), (1, .int x1), (2, .int x2)] dX8_checkOf_122 (by decide) rfl ?_
      exact g_sub [1, 0] rfl (b124 1000 r13 0 hf)
    · replace hf := (if_pos q4).symm.trans hf
      refine g_bipush (pc := 48) C dX8_checkOf_48 bp_11 ?_
      refine g_iconst (pc := 50) C dX8_checkOf_50 ic_5 ?_
      refine g_iload_n (pc := 51) C dX8_checkOf_51 3 rfl rfl ?_
      refine g_imul (pc := 52) C dX8_checkOf_52 ?_
      refine g_iconst (pc := 53) C dX8_checkOf_53 ic_4 ?_
      refine g_iload_n (pc := 54) C dX8_checkOf_54 2 rfl rfl ?_
      refine g_imul (pc := 55) C dX8_checkOf_55 ?_
      refine g_iadd (pc := 56) C dX8_checkOf_56 ?_
      refine g_iconst (pc := 57) C dX8_checkOf_57 ic_3 ?_
      refine g_iload (pc := 58) C dX8_checkOf_58 1 rfl ?_
      refine g_imul (pc := 60) C dX8_checkOf_60 ?_
      refine g_iadd (pc := 61) C dX8_checkOf_61 ?_
      refine g_iconst (pc := 62) C dX8_checkOf_62 ic_2 ?_
      refine g_iload (pc := 63) C dX8_checkOf_63 0 rfl ?_
      refine g_imul (pc := 65) C dX8_checkOf_65 ?_
      refine g_iadd (pc := 66) C dX8_checkOf_66 ?_
      refine g_bipush (pc := 67) C dX8_checkOf_67 bp_11 ?_
      refine g_irem (pc := 69) C dX8_checkOf_69 (by decide) ?_
      refine g_isub (pc := 70) C dX8_checkOf_70 ?_
      refine g_bipush (pc := 71) C dX8_checkOf_71 bp_11 ?_
      refine g_irem (pc := 73) C dX8_checkOf_73 (by decide) ?_
      cases hf
      exact g_iret (pc := 74) C hr dX8_checkOf_74
  · replace hf := (if_pos q3).symm.trans hf
    refine g_bipush (pc := 24) C dX8_checkOf_24 bp_9 ?_
    refine g_iload_n (pc := 26) C dX8_checkOf_26 3 rfl rfl ?_
    refine g_iload_n (pc := 27) C dX8_checkOf_27 2 rfl rfl ?_
    refine g_iadd (pc := 28) C dX8_checkOf_28 ?_
    refine g_iload (pc := 29) C dX8_checkOf_29 1 rfl ?_
    refine g_iadd (pc := 31) C dX8_checkOf_31 ?_
    refine g_iload (pc := 32) C dX8_checkOf_32 0 rfl ?_
    refine g_iadd (pc := 34) C dX8_checkOf_34 ?_
    refine g_bipush (pc := 35) C dX8_checkOf_35 bp_9 ?_
    refine g_irem (pc := 37) C dX8_checkOf_37 (by decide) ?_
    refine g_isub (pc := 38) C dX8_checkOf_38 ?_
    refine g_bipush (pc := 39) C dX8_checkOf_39 bp_9 ?_
    refine g_irem (pc := 41) C dX8_checkOf_41 (by decide) ?_
    cases hf
    exact g_iret (pc := 42) C hr dX8_checkOf_42

set_option maxHeartbeats 4000000 in
set_option maxRecDepth 100000 in
theorem c_X8_checkIn (l : Launch) (D : va_G) {cI cH cE cJ : ClassId} {b : Nat → Nat} (hw : ∀ σ, va_D (Pm b) (wm cJ b σ)) {σ : Me} {x1 : Int32} {x2 : Int32} {r : Int32} (hf : f_X8_checkIn σ x1 x2 = some r) : Mq l D (tyc cI cH cE cJ) (wm cJ b) (Pm b) yX8_checkIn cX8_checkIn 3 (Option.some Jvm.ClassFile.FieldType.int) 2 [.ref (b 0), .int x1, .int x2] σ (qI D (wm cJ b) (Pm b) σ r) := by
  refine mOf (plainFor_of_name (by decide)) hw (Nat.le_of_ble_eq_true rfl) [(0, .ref (b 0)), (1, .int x1), (2, .int x2)] rfl ?_
  intro p e s m args below meth c C hr
  unfold f_X8_checkIn at hf
  refine g_aload_n (pc := 0) C dX8_checkIn_0 0 rfl rfl ?_
  refine g_get (pc := 1) C in_X8 wm_0 cl_X8 3 (by decide) tw_625 rfl dX8_checkIn_1 ?_
  refine g_iconst (pc := 4) C dX8_checkIn_4 ic_4 ?_
  refine g_bipush (pc := 5) C dX8_checkIn_5 bp_6 ?_
  refine g_iload_n (pc := 7) C dX8_checkIn_7 1 rfl rfl ?_
  refine g_imul (pc := 8) C dX8_checkIn_8 ?_
  refine g_iadd (pc := 9) C dX8_checkIn_9 ?_
  obtain ⟨q1, hf⟩ := gd_some hf
  refine g_iald (pc := 10) C 3 wm_2 rfl q1 rfl dX8_checkIn_10 ?_
  refine g_aload_n (pc := 11) C dX8_checkIn_11 0 rfl rfl ?_
  refine g_get (pc := 12) C in_X8 wm_0 cl_X8 3 (by decide) tw_625 rfl dX8_checkIn_12 ?_
  refine g_iconst (pc := 15) C dX8_checkIn_15 ic_4 ?_
  refine g_bipush (pc := 16) C dX8_checkIn_16 bp_6 ?_
  refine g_iload_n (pc := 18) C dX8_checkIn_18 1 rfl rfl ?_
  refine g_imul (pc := 19) C dX8_checkIn_19 ?_
  refine g_iadd (pc := 20) C dX8_checkIn_20 ?_
  refine g_iconst (pc := 21) C dX8_checkIn_21 ic_1 ?_
  refine g_iadd (pc := 22) C dX8_checkIn_22 ?_
  obtain ⟨q2, hf⟩ := gd_some hf
  refine g_iald (pc := 23) C 3 wm_2 rfl q2 rfl dX8_checkIn_23 ?_
  refine g_iload_n (pc := 24) C dX8_checkIn_24 2 rfl rfl ?_
  obtain ⟨r3, h3, hf⟩ := bd_some hf
  refine g_cSi (pc := 25) C (st := []) jW.rf (c_X8_checkOf l D hw h3) y_X8_checkOf tw_709 rfl ⟨by decide, by decide⟩ ⟨Nat.zero_le _, Nat.zero_le _⟩ (Nat.le_of_ble_eq_true rfl) dX8_checkIn_25 rfl ?_
  cases hf
  exact g_iret (pc := 28) C hr dX8_checkIn_28

set_option maxHeartbeats 4000000 in
set_option maxRecDepth 100000 in
theorem c_X8_check (l : Launch) (D : va_G) {cI cH cE cJ : ClassId} {b : Nat → Nat} (hw : ∀ σ, va_D (Pm b) (wm cJ b σ)) {σ : Me} {x1 : Int32} {x2 : Int32} {r : Int32} (hf : f_X8_check σ x1 x2 = some r) : Mq l D (tyc cI cH cE cJ) (wm cJ b) (Pm b) yX8_check cX8_check 3 (Option.some Jvm.ClassFile.FieldType.int) 3 [.ref (b 0), .int x1, .int x2] σ (qI D (wm cJ b) (Pm b) σ r) := by
  refine mOf (plainFor_of_name (by decide)) hw (Nat.le_of_ble_eq_true rfl) [(0, .ref (b 0)), (1, .int x1), (2, .int x2)] rfl ?_
  intro p e s m args below meth c C hr
  unfold f_X8_check at hf
  refine g_aload_n (pc := 0) C dX8_check_0 0 rfl rfl ?_
  refine g_iload_n (pc := 1) C dX8_check_1 1 rfl rfl ?_
  obtain ⟨r1, h1, hf⟩ := bd_some hf
  refine g_cVi (pc := 2) C (st := []) jW.rf (c_X8_isSeries l D hw h1) y_X8_isSeries tw_701 rfl ⟨by decide, by decide⟩ ⟨Nat.zero_le _, Nat.zero_le _⟩ (Nat.le_of_ble_eq_true rfl) wm_0 cl_X8 rfl dX8_check_2 rfl ?_
  refine g_if_eq (pc := 5) C 29 dX8_check_5 (by decide) (fun q2 => ?_) (fun q2 => ?_)
  · replace hf := (if_pos q2).symm.trans hf
    refine g_iconst (pc := 29) C dX8_check_29 ic_m1 ?_
    cases hf
    exact g_iret (pc := 30) C hr dX8_check_30
  · replace hf := (if_neg q2).symm.trans hf
    refine g_iload_n (pc := 8) C dX8_check_8 2 rfl rfl ?_
    refine g_i2l (pc := 9) C dX8_check_9 ?_
    refine g_lconst (pc := 10) C dX8_check_10 lc_0 ?_
    refine g_ldc2 (pc := 11) C tw_691 dX8_check_11 ?_
    obtain ⟨r3, h3, hf⟩ := bd_some hf
    refine g_cSi (pc := 14) C (st := []) jW.rf (c_X8_in l D hw h3) y_X8_in tw_653 rfl ⟨by decide, by decide⟩ ⟨Nat.zero_le _, Nat.zero_le _⟩ (Nat.le_of_ble_eq_true rfl) dX8_check_14 rfl ?_
    refine g_if_eq (pc := 17) C 29 dX8_check_17 (by decide) (fun q4 => ?_) (fun q4 => ?_)
    · replace hf := (if_pos q4).symm.trans hf
      refine g_iconst (pc := 29) C dX8_check_29 ic_m1 ?_
      cases hf
      exact g_iret (pc := 30) C hr dX8_check_30
    · replace hf := (if_neg q4).symm.trans hf
      refine g_aload_n (pc := 20) C dX8_check_20 0 rfl rfl ?_
      refine g_iload_n (pc := 21) C dX8_check_21 1 rfl rfl ?_
      refine g_iload_n (pc := 22) C dX8_check_22 2 rfl rfl ?_
      obtain ⟨r5, h5, hf⟩ := bd_some hf
      refine g_cVi (pc := 23) C (st := []) jW.rf (c_X8_checkIn l D hw h5) y_X8_checkIn tw_705 rfl ⟨by decide, by decide⟩ ⟨Nat.zero_le _, Nat.zero_le _⟩ (Nat.le_of_ble_eq_true rfl) wm_0 cl_X8 rfl dX8_check_23 rfl ?_
      refine g_goto (pc := 26) C 30 dX8_check_26 (by decide) ?_
      cases hf
      exact g_iret (pc := 30) C hr dX8_check_30

set_option maxHeartbeats 4000000 in
set_option maxRecDepth 100000 in
theorem c_X8_missed (l : Launch) (D : va_G) {cI cH cE cJ : ClassId} {b : Nat → Nat} (hw : ∀ σ, va_D (Pm b) (wm cJ b σ)) {σ : Me} {x1 : Int32} {x2 : Int32} {x3 : Int32} {r : Int32} (hf : f_X8_missed σ x1 x2 x3 = some r) : Mq l D (tyc cI cH cE cJ) (wm cJ b) (Pm b) yX8_missed cX8_missed 9 (Option.some Jvm.ClassFile.FieldType.int) 3 [.ref (b 0), .int x1, .int x2, .int x3] σ (qI D (wm cJ b) (Pm b) σ r) := by
  refine mOf (plainFor_of_name (by decide)) hw (Nat.le_of_ble_eq_true rfl) [(0, .ref (b 0)), (1, .int x1), (2, .int x2), (3, .int x3)] rfl ?_
  intro p e s m args below meth c C hr
  have b168 : ∀ (K157 : Me → Int32 → Int32 → Int32 → Int32 → Int32 → Option Int32) (hK157 : ∀ (x4 : Int32) (x5 : Int32) (x6 : Int32), K157 σ x1 x2 x4 x5 x6 = some r → Gg p l e (rmd 3) s m args below meth c D (Pm b) (wm cJ b) 9 0 0 (MQ below ((qI D (wm cJ b) (Pm b) σ r) s.heap.size) args s 0 0 (fR (Pm b) s.heap.size)) σ [(0, .ref (b 0)), (1, .int x1), (2, .int x2), (4, .int x4), (5, .int x5), (6, .int x6)] 157 []) (n : Nat) (x4 : Int32) (x5 : Int32) (x6 : Int32) (x7 : Int32) (hf : f_X8_missed_168 K157 n σ x1 x2 x4 x5 x6 x7 = some r), Gg p l e (rmd 3) s m args below meth c D (Pm b) (wm cJ b) 9 0 0 (MQ below ((qI D (wm cJ b) (Pm b) σ r) s.heap.size) args s 0 0 (fR (Pm b) s.heap.size)) σ [(0, .ref (b 0)), (1, .int x1), (2, .int x2), (4, .int x4), (5, .int x5), (6, .int x6), (7, .int x7)] 168 [] := by
    intro K157 hK157 n
    induction n with
    | zero => intro x4 x5 x6 x7 hf; exact absurd hf (by simp [f_X8_missed_168])
    | succ n ih =>
      intro x4 x5 x6 x7 hf
      rw [f_X8_missed_168] at hf
      refine g_iload (pc := 168) C dX8_missed_168 6 rfl ?_
      refine g_bipush (pc := 170) C dX8_missed_170 bp_10 ?_
      refine g_icmp_ge (pc := 172) C 226 dX8_missed_172 (by decide) (fun q1 => ?_) (fun q1 => ?_)
      · replace hf := (if_pos q1).symm.trans hf
        refine g_iload (pc := 226) C dX8_missed_226 5 rfl ?_
        refine g_bipush (pc := 228) C dX8_missed_228 bp_10 ?_
        refine g_imul (pc := 230) C dX8_missed_230 ?_
        refine g_istore (pc := 231) C [(6, .int (x6 * 10)), (0, .ref (b 0)), (1, .int x1), (2, .int x2), (4, .int x4), (5, .int x5), (7, .int x7)] dX8_missed_231 (by decide) rfl ?_
        refine g_goto (pc := 233) C 157 dX8_missed_233 (by decide) ?_
        exact g_sub [1, 2, 3, 4, 5, 0] rfl (hK157 x4 x5 (x6 * 10) hf)
      · replace hf := (if_neg q1).symm.trans hf
        refine g_iload_n (pc := 175) C dX8_missed_175 2 rfl rfl ?_
        refine g_iload (pc := 176) C dX8_missed_176 6 rfl ?_
        refine g_iload_n (pc := 178) C dX8_missed_178 2 rfl rfl ?_
        refine g_iload (pc := 179) C dX8_missed_179 5 rfl ?_
        obtain ⟨q2, hf⟩ := gd_some hf
        refine g_idiv (pc := 181) C dX8_missed_181 (of_decide_eq_true q2) ?_
        refine g_bipush (pc := 182) C dX8_missed_182 bp_10 ?_
        refine g_irem (pc := 184) C dX8_missed_184 (by decide) ?_
        refine g_isub (pc := 185) C dX8_missed_185 ?_
        refine g_iload (pc := 186) C dX8_missed_186 5 rfl ?_
        refine g_imul (pc := 188) C dX8_missed_188 ?_
        refine g_iadd (pc := 189) C dX8_missed_189 ?_
        refine g_istore (pc := 190) C [(8, .int (x2 + ((x7 - ((x2 / x6) - (x2 / x6) / 10 * 10)) * x6))), (0, .ref (b 0)), (1, .int x1), (2, .int x2), (4, .int x4), (5, .int x5), (6, .int x6), (7, .int x7)] dX8_missed_190 (by decide) rfl ?_
        refine g_iload (pc := 192) C dX8_missed_192 5 rfl ?_
        refine g_iload (pc := 194) C dX8_missed_194 0 rfl ?_
        refine g_iload_n (pc := 196) C dX8_missed_196 3 rfl rfl ?_
        refine g_icmp_eq (pc := 197) C 216 dX8_missed_197 (by decide) (fun q3 => ?_) (fun q3 => ?_)
        · replace hf := (if_pos q3).symm.trans hf
          refine g_iconst (pc := 216) C dX8_missed_216 ic_0 ?_
          refine g_iadd (pc := 217) C dX8_missed_217 ?_
          refine g_istore (pc := 218) C [(5, .int (x5 + 0)), (8, .int (x2 + ((x7 - ((x2 / x6) - (x2 / x6) / 10 * 10)) * x6))), (0, .ref (b 0)), (1, .int x1), (2, .int x2), (4, .int x4), (6, .int x6), (7, .int x7)] dX8_missed_218 (by decide) rfl ?_
          refine g_iinc (pc := 220) C [(7, .int (x7 + 1)), (5, .int (x5 + 0)), (8, .int (x2 + ((x7 - ((x2 / x6) - (x2 / x6) / 10 * 10)) * x6))), (0, .ref (b 0)), (1, .int x1), (2, .int x2), (4, .int x4), (6, .int x6)] 7 dX8_missed_220 rfl ic_1 (by decide) rfl ?_
          refine g_goto (pc := 223) C 168 dX8_missed_223 (by decide) ?_
          exact g_sub [3, 4, 5, 6, 1, 7, 0] rfl (ih x4 (x5 + 0) x6 (x7 + 1) hf)
        · replace hf := (if_neg q3).symm.trans hf
          refine g_aload_n (pc := 200) C dX8_missed_200 1 rfl rfl ?_
          refine g_iload_n (pc := 201) C dX8_missed_201 2 rfl rfl ?_
          refine g_iload (pc := 202) C dX8_missed_202 0 rfl ?_
          obtain ⟨r4, h4, hf⟩ := bd_some hf
          refine g_cVi (pc := 204) C (st := [.int x5]) jW.rf (c_X8_checkIn l D hw h4) y_X8_checkIn tw_705 rfl ⟨by decide, by decide⟩ ⟨Nat.zero_le _, Nat.zero_le _⟩ (Nat.le_of_ble_eq_true rfl) wm_0 cl_X8 rfl dX8_missed_204 rfl ?_
          refine g_iload (pc := 207) C dX8_missed_207 4 rfl ?_
          refine g_icmp_ne (pc := 209) C 216 dX8_missed_209 (by decide) (fun q5 => ?_) (fun q5 => ?_)
          · replace hf := (if_neg q5).symm.trans hf
            refine g_iconst (pc := 216) C dX8_missed_216 ic_0 ?_
            refine g_iadd (pc := 217) C dX8_missed_217 ?_
            refine g_istore (pc := 218) C [(5, .int (x5 + 0)), (8, .int (x2 + ((x7 - ((x2 / x6) - (x2 / x6) / 10 * 10)) * x6))), (0, .ref (b 0)), (1, .int x1), (2, .int x2), (4, .int x4), (6, .int x6), (7, .int x7)] dX8_missed_218 (by decide) rfl ?_
            refine g_iinc (pc := 220) C [(7, .int (x7 + 1)), (5, .int (x5 + 0)), (8, .int (x2 + ((x7 - ((x2 / x6) - (x2 / x6) / 10 * 10)) * x6))), (0, .ref (b 0)), (1, .int x1), (2, .int x2), (4, .int x4), (6, .int x6)] 7 dX8_missed_220 rfl ic_1 (by decide) rfl ?_
            refine g_goto (pc := 223) C 168 dX8_missed_223 (by decide) ?_
            exact g_sub [3, 4, 5, 6, 1, 7, 0] rfl (ih x4 (x5 + 0) x6 (x7 + 1) hf)
          · replace hf := (if_pos q5).symm.trans hf
            refine g_iconst (pc := 212) C dX8_missed_212 ic_1 ?_
            refine g_goto (pc := 213) C 217 dX8_missed_213 (by decide) ?_
            refine g_iadd (pc := 217) C dX8_missed_217 ?_
            refine g_istore (pc := 218) C [(5, .int (x5 + 1)), (8, .int (x2 + ((x7 - ((x2 / x6) - (x2 / x6) / 10 * 10)) * x6))), (0, .ref (b 0)), (1, .int x1), (2, .int x2), (4, .int x4), (6, .int x6), (7, .int x7)] dX8_missed_218 (by decide) rfl ?_
            refine g_iinc (pc := 220) C [(7, .int (x7 + 1)), (5, .int (x5 + 1)), (8, .int (x2 + ((x7 - ((x2 / x6) - (x2 / x6) / 10 * 10)) * x6))), (0, .ref (b 0)), (1, .int x1), (2, .int x2), (4, .int x4), (6, .int x6)] 7 dX8_missed_220 rfl ic_1 (by decide) rfl ?_
            refine g_goto (pc := 223) C 168 dX8_missed_223 (by decide) ?_
            exact g_sub [3, 4, 5, 6, 1, 7, 0] rfl (ih x4 (x5 + 1) x6 (x7 + 1) hf)
  have b157 : ∀ (n : Nat) (x4 : Int32) (x5 : Int32) (x6 : Int32) (hf : f_X8_missed_157 n σ x1 x2 x4 x5 x6 = some r), Gg p l e (rmd 3) s m args below meth c D (Pm b) (wm cJ b) 9 0 0 (MQ below ((qI D (wm cJ b) (Pm b) σ r) s.heap.size) args s 0 0 (fR (Pm b) s.heap.size)) σ [(0, .ref (b 0)), (1, .int x1), (2, .int x2), (4, .int x4), (5, .int x5), (6, .int x6)] 157 [] := by
    intro n
    induction n with
    | zero => intro x4 x5 x6 hf; exact absurd hf (by simp [f_X8_missed_157])
    | succ n ih =>
      intro x4 x5 x6 hf
      rw [f_X8_missed_157] at hf
      refine g_iload (pc := 157) C dX8_missed_157 5 rfl ?_
      refine g_sipush (pc := 159) C dX8_missed_159 sp_1000 ?_
      refine g_icmp_ge (pc := 162) C 236 dX8_missed_162 (by decide) (fun q6 => ?_) (fun q6 => ?_)
      · replace hf := (if_pos q6).symm.trans hf
        refine g_iload (pc := 236) C dX8_missed_236 4 rfl ?_
        cases hf
        exact g_iret (pc := 238) C hr dX8_missed_238
      · replace hf := (if_neg q6).symm.trans hf
        refine g_iconst (pc := 165) C dX8_missed_165 ic_0 ?_
        refine g_istore (pc := 166) C [(7, .int 0), (0, .ref (b 0)), (1, .int x1), (2, .int x2), (4, .int x4), (5, .int x5), (6, .int x6)] dX8_missed_166 (by decide) rfl ?_
        exact g_sub [1, 2, 3, 4, 5, 6, 0] rfl (b168 (f_X8_missed_157 n) ih 1000 x4 x5 x6 0 hf)
  have b107 : ∀ (x4 : Int32) (x6 : Int32) (x7 : Int32) (x8 : Int32) (t0 : Int32) (t1 : Int32) (hf : f_X8_missed_107 σ x1 x4 x6 x7 x8 t0 t1 = some r), Gg p l e (rmd 3) s m args below meth c D (Pm b) (wm cJ b) 9 0 0 (MQ below ((qI D (wm cJ b) (Pm b) σ r) s.heap.size) args s 0 0 (fR (Pm b) s.heap.size)) σ [(0, .ref (b 0)), (1, .int x1), (4, .int x4), (6, .int x6), (7, .int x7), (8, .int x8)] 107 [.int t0, .int t1] := by
    intro  x4 x6 x7 x8 t0 t1 hf
    unfold f_X8_missed_107 at hf
    refine g_iadd (pc := 107) C dX8_missed_107 ?_
    refine g_istore (pc := 108) C [(5, .int (t1 + t0)), (0, .ref (b 0)), (1, .int x1), (4, .int x4), (6, .int x6), (7, .int x7), (8, .int x8)] dX8_missed_108 (by decide) rfl ?_
    refine g_iload (pc := 110) C dX8_missed_110 0 rfl ?_
    refine g_iload (pc := 112) C dX8_missed_112 5 rfl ?_
    refine g_iload (pc := 114) C dX8_missed_114 6 rfl ?_
    refine g_icmp_eq (pc := 116) C 147 dX8_missed_116 (by decide) (fun q7 => ?_) (fun q7 => ?_)
    · replace hf := (if_pos q7).symm.trans hf
      refine g_iconst (pc := 147) C dX8_missed_147 ic_0 ?_
      refine g_iadd (pc := 148) C dX8_missed_148 ?_
      refine g_istore (pc := 149) C [(5, .int ((t1 + t0) + 0)), (0, .ref (b 0)), (1, .int x1), (4, .int x4), (6, .int x6), (7, .int x7), (8, .int x8)] dX8_missed_149 (by decide) rfl ?_
      refine g_iload (pc := 151) C dX8_missed_151 0 rfl ?_
      cases hf
      exact g_iret (pc := 153) C hr dX8_missed_153
    · replace hf := (if_neg q7).symm.trans hf
      refine g_aload_n (pc := 119) C dX8_missed_119 1 rfl rfl ?_
      refine g_iload_n (pc := 120) C dX8_missed_120 2 rfl rfl ?_
      refine g_bipush (pc := 121) C dX8_missed_121 bp_100 ?_
      refine g_iload (pc := 123) C dX8_missed_123 4 rfl ?_
      refine g_imul (pc := 125) C dX8_missed_125 ?_
      refine g_bipush (pc := 126) C dX8_missed_126 bp_10 ?_
      refine g_iload (pc := 128) C dX8_missed_128 6 rfl ?_
      refine g_imul (pc := 130) C dX8_missed_130 ?_
      refine g_iadd (pc := 131) C dX8_missed_131 ?_
      refine g_iload (pc := 132) C dX8_missed_132 5 rfl ?_
      refine g_iadd (pc := 134) C dX8_missed_134 ?_
      obtain ⟨r8, h8, hf⟩ := bd_some hf
      refine g_cVi (pc := 135) C (st := [.int (t1 + t0)]) jW.rf (c_X8_checkIn l D hw h8) y_X8_checkIn tw_705 rfl ⟨by decide, by decide⟩ ⟨Nat.zero_le _, Nat.zero_le _⟩ (Nat.le_of_ble_eq_true rfl) wm_0 cl_X8 rfl dX8_missed_135 rfl ?_
      refine g_iload (pc := 138) C dX8_missed_138 3 rfl ?_
      refine g_icmp_ne (pc := 140) C 147 dX8_missed_140 (by decide) (fun q9 => ?_) (fun q9 => ?_)
      · replace hf := (if_neg q9).symm.trans hf
        refine g_iconst (pc := 147) C dX8_missed_147 ic_0 ?_
        refine g_iadd (pc := 148) C dX8_missed_148 ?_
        refine g_istore (pc := 149) C [(5, .int ((t1 + t0) + 0)), (0, .ref (b 0)), (1, .int x1), (4, .int x4), (6, .int x6), (7, .int x7), (8, .int x8)] dX8_missed_149 (by decide) rfl ?_
        refine g_iload (pc := 151) C dX8_missed_151 0 rfl ?_
        cases hf
        exact g_iret (pc := 153) C hr dX8_missed_153
      · replace hf := (if_pos q9).symm.trans hf
        refine g_iconst (pc := 143) C dX8_missed_143 ic_1 ?_
        refine g_goto (pc := 144) C 148 dX8_missed_144 (by decide) ?_
        refine g_iadd (pc := 148) C dX8_missed_148 ?_
        refine g_istore (pc := 149) C [(5, .int ((t1 + t0) + 1)), (0, .ref (b 0)), (1, .int x1), (4, .int x4), (6, .int x6), (7, .int x7), (8, .int x8)] dX8_missed_149 (by decide) rfl ?_
        refine g_iload (pc := 151) C dX8_missed_151 0 rfl ?_
        cases hf
        exact g_iret (pc := 153) C hr dX8_missed_153
  have b106 : ∀ (x4 : Int32) (x6 : Int32) (x7 : Int32) (x8 : Int32) (t0 : Int32) (hf : f_X8_missed_106 σ x1 x4 x6 x7 x8 t0 = some r), Gg p l e (rmd 3) s m args below meth c D (Pm b) (wm cJ b) 9 0 0 (MQ below ((qI D (wm cJ b) (Pm b) σ r) s.heap.size) args s 0 0 (fR (Pm b) s.heap.size)) σ [(0, .ref (b 0)), (1, .int x1), (4, .int x4), (6, .int x6), (7, .int x7), (8, .int x8)] 106 [.int t0] := by
    intro  x4 x6 x7 x8 t0 hf
    unfold f_X8_missed_106 at hf
    refine g_iconst (pc := 106) C dX8_missed_106 ic_0 ?_
    exact g_sub [0, 1, 2, 3, 4, 5] rfl (b107 x4 x6 x7 x8 0 t0 hf)
  unfold f_X8_missed at hf
  refine g_aload_n (pc := 0) C dX8_missed_0 0 rfl rfl ?_
  refine g_iload_n (pc := 1) C dX8_missed_1 1 rfl rfl ?_
  obtain ⟨r10, h10, hf⟩ := bd_some hf
  refine g_cVi (pc := 2) C (st := []) jW.rf (c_X8_isSeries l D hw h10) y_X8_isSeries tw_701 rfl ⟨by decide, by decide⟩ ⟨Nat.zero_le _, Nat.zero_le _⟩ (Nat.le_of_ble_eq_true rfl) wm_0 cl_X8 rfl dX8_missed_2 rfl ?_
  refine g_if_eq (pc := 5) C 30 dX8_missed_5 (by decide) (fun q11 => ?_) (fun q11 => ?_)
  · replace hf := (if_pos q11).symm.trans hf
    refine g_iconst (pc := 30) C dX8_missed_30 ic_m1 ?_
    cases hf
    exact g_iret (pc := 31) C hr dX8_missed_31
  · replace hf := (if_neg q11).symm.trans hf
    refine g_iload_n (pc := 8) C dX8_missed_8 2 rfl rfl ?_
    refine g_i2l (pc := 9) C dX8_missed_9 ?_
    refine g_lconst (pc := 10) C dX8_missed_10 lc_0 ?_
    refine g_ldc2 (pc := 11) C tw_691 dX8_missed_11 ?_
    obtain ⟨r12, h12, hf⟩ := bd_some hf
    refine g_cSi (pc := 14) C (st := []) jW.rf (c_X8_in l D hw h12) y_X8_in tw_653 rfl ⟨by decide, by decide⟩ ⟨Nat.zero_le _, Nat.zero_le _⟩ (Nat.le_of_ble_eq_true rfl) dX8_missed_14 rfl ?_
    refine g_if_eq (pc := 17) C 30 dX8_missed_17 (by decide) (fun q13 => ?_) (fun q13 => ?_)
    · replace hf := (if_pos q13).symm.trans hf
      refine g_iconst (pc := 30) C dX8_missed_30 ic_m1 ?_
      cases hf
      exact g_iret (pc := 31) C hr dX8_missed_31
    · replace hf := (if_neg q13).symm.trans hf
      refine g_iload_n (pc := 20) C dX8_missed_20 3 rfl rfl ?_
      refine g_i2l (pc := 21) C dX8_missed_21 ?_
      refine g_lconst (pc := 22) C dX8_missed_22 lc_0 ?_
      refine g_lconst (pc := 23) C dX8_missed_23 lc_1 ?_
      obtain ⟨r14, h14, hf⟩ := bd_some hf
      refine g_cSi (pc := 24) C (st := []) jW.rf (c_X8_in l D hw h14) y_X8_in tw_653 rfl ⟨by decide, by decide⟩ ⟨Nat.zero_le _, Nat.zero_le _⟩ (Nat.le_of_ble_eq_true rfl) dX8_missed_24 rfl ?_
      refine g_if_ne (pc := 27) C 32 dX8_missed_27 (by decide) (fun q15 => ?_) (fun q15 => ?_)
      · replace hf := (if_neg q15).symm.trans hf
        refine g_aload_n (pc := 32) C dX8_missed_32 0 rfl rfl ?_
        refine g_iload_n (pc := 33) C dX8_missed_33 1 rfl rfl ?_
        refine g_iload_n (pc := 34) C dX8_missed_34 2 rfl rfl ?_
        obtain ⟨r16, h16, hf⟩ := bd_some hf
        refine g_cVi (pc := 35) C (st := []) jW.rf (c_X8_checkIn l D hw h16) y_X8_checkIn tw_705 rfl ⟨by decide, by decide⟩ ⟨Nat.zero_le _, Nat.zero_le _⟩ (Nat.le_of_ble_eq_true rfl) wm_0 cl_X8 rfl dX8_missed_35 rfl ?_
        refine g_istore (pc := 38) C [(4, .int r16), (0, .ref (b 0)), (1, .int x1), (2, .int x2), (3, .int x3)] dX8_missed_38 (by decide) rfl ?_
        refine g_iconst (pc := 40) C dX8_missed_40 ic_0 ?_
        refine g_istore (pc := 41) C [(5, .int 0), (4, .int r16), (0, .ref (b 0)), (1, .int x1), (2, .int x2), (3, .int x3)] dX8_missed_41 (by decide) rfl ?_
        refine g_iload_n (pc := 43) C dX8_missed_43 5 rfl rfl ?_
        refine g_iconst (pc := 44) C dX8_missed_44 ic_1 ?_
        refine g_icmp_ne (pc := 45) C 154 dX8_missed_45 (by decide) (fun q17 => ?_) (fun q17 => ?_)
        · replace hf := (if_neg q17).symm.trans hf
          refine g_iconst (pc := 154) C dX8_missed_154 ic_1 ?_
          refine g_istore (pc := 155) C [(6, .int 1), (5, .int 0), (4, .int r16), (0, .ref (b 0)), (1, .int x1), (2, .int x2), (3, .int x3)] dX8_missed_155 (by decide) rfl ?_
          exact g_sub [3, 4, 5, 2, 1, 0] rfl (b157 1000 r16 0 1 hf)
        · replace hf := (if_pos q17).symm.trans hf
          refine g_iload_n (pc := 48) C dX8_missed_48 4 rfl rfl ?_
          refine g_bipush (pc := 49) C dX8_missed_49 bp_100 ?_
          refine g_idiv (pc := 51) C dX8_missed_51 (by decide) ?_
          refine g_istore (pc := 52) C [(6, .int (x2 / 100)), (5, .int 0), (4, .int r16), (0, .ref (b 0)), (1, .int x1), (2, .int x2), (3, .int x3)] dX8_missed_52 (by decide) rfl ?_
          refine g_iload_n (pc := 54) C dX8_missed_54 5 rfl rfl ?_
          refine g_bipush (pc := 55) C dX8_missed_55 bp_10 ?_
          refine g_idiv (pc := 57) C dX8_missed_57 (by decide) ?_
          refine g_bipush (pc := 58) C dX8_missed_58 bp_10 ?_
          refine g_irem (pc := 60) C dX8_missed_60 (by decide) ?_
          refine g_istore (pc := 61) C [(7, .int ((x2 / 10) - (x2 / 10) / 10 * 10)), (6, .int (x2 / 100)), (5, .int 0), (4, .int r16), (0, .ref (b 0)), (1, .int x1), (2, .int x2), (3, .int x3)] dX8_missed_61 (by decide) rfl ?_
          refine g_iload_n (pc := 63) C dX8_missed_63 6 rfl rfl ?_
          refine g_bipush (pc := 64) C dX8_missed_64 bp_10 ?_
          refine g_irem (pc := 66) C dX8_missed_66 (by decide) ?_
          refine g_istore (pc := 67) C [(8, .int (x2 - x2 / 10 * 10)), (7, .int ((x2 / 10) - (x2 / 10) / 10 * 10)), (6, .int (x2 / 100)), (5, .int 0), (4, .int r16), (0, .ref (b 0)), (1, .int x1), (2, .int x2), (3, .int x3)] dX8_missed_67 (by decide) rfl ?_
          refine g_iload (pc := 69) C dX8_missed_69 3 rfl ?_
          refine g_iload (pc := 71) C dX8_missed_71 2 rfl ?_
          refine g_iload (pc := 73) C dX8_missed_73 1 rfl ?_
          refine g_icmp_eq (pc := 75) C 106 dX8_missed_75 (by decide) (fun q18 => ?_) (fun q18 => ?_)
          · replace hf := (if_pos q18).symm.trans hf
            exact g_sub [5, 6, 4, 2, 1, 0] rfl (b106 r16 (x2 / 100) ((x2 / 10) - (x2 / 10) / 10 * 10) (x2 - x2 / 10 * 10) 0 hf)
          · replace hf := (if_neg q18).symm.trans hf
            refine g_aload_n (pc := 78) C dX8_missed_78 5 rfl rfl ?_
            refine g_iload_n (pc := 79) C dX8_missed_79 6 rfl rfl ?_
            refine g_bipush (pc := 80) C dX8_missed_80 bp_100 ?_
            refine g_iload (pc := 82) C dX8_missed_82 1 rfl ?_
            refine g_imul (pc := 84) C dX8_missed_84 ?_
            refine g_bipush (pc := 85) C dX8_missed_85 bp_10 ?_
            refine g_iload (pc := 87) C dX8_missed_87 2 rfl ?_
            refine g_imul (pc := 89) C dX8_missed_89 ?_
            refine g_iadd (pc := 90) C dX8_missed_90 ?_
            refine g_iload (pc := 91) C dX8_missed_91 0 rfl ?_
            refine g_iadd (pc := 93) C dX8_missed_93 ?_
            obtain ⟨r19, h19, hf⟩ := bd_some hf
            refine g_cVi (pc := 94) C (st := [.int 0]) jW.rf (c_X8_checkIn l D hw h19) y_X8_checkIn tw_705 rfl ⟨by decide, by decide⟩ ⟨Nat.zero_le _, Nat.zero_le _⟩ (Nat.le_of_ble_eq_true rfl) wm_0 cl_X8 rfl dX8_missed_94 rfl ?_
            refine g_iload (pc := 97) C dX8_missed_97 4 rfl ?_
            refine g_icmp_ne (pc := 99) C 106 dX8_missed_99 (by decide) (fun q20 => ?_) (fun q20 => ?_)
            · replace hf := (if_neg q20).symm.trans hf
              exact g_sub [5, 6, 4, 2, 1, 0] rfl (b106 r16 (x2 / 100) ((x2 / 10) - (x2 / 10) / 10 * 10) (x2 - x2 / 10 * 10) 0 hf)
            · replace hf := (if_pos q20).symm.trans hf
              refine g_iconst (pc := 102) C dX8_missed_102 ic_1 ?_
              refine g_goto (pc := 103) C 107 dX8_missed_103 (by decide) ?_
              exact g_sub [5, 6, 4, 2, 1, 0] rfl (b107 r16 (x2 / 100) ((x2 / 10) - (x2 / 10) / 10 * 10) (x2 - x2 / 10 * 10) 1 0 hf)
      · replace hf := (if_pos q15).symm.trans hf
        refine g_iconst (pc := 30) C dX8_missed_30 ic_m1 ?_
        cases hf
        exact g_iret (pc := 31) C hr dX8_missed_31

set_option maxHeartbeats 4000000 in
set_option maxRecDepth 100000 in
theorem c_X8_note1 (l : Launch) (D : va_G) {cI cH cE cJ : ClassId} {b : Nat → Nat} (hw : ∀ σ, va_D (Pm b) (wm cJ b σ)) {σ : Me} {σ' : Me}  (hf : f_X8_note1 σ = some σ') : Mq l D (tyc cI cH cE cJ) (wm cJ b) (Pm b) yX8_note1 cX8_note1 2 (Option.none : Option Jvm.ClassFile.FieldType) 0 [.ref (b 0)] σ (qV D (wm cJ b) (Pm b) σ') := by
  refine mOf (plainFor_of_name (by decide)) hw (Nat.le_of_ble_eq_true rfl) [(0, .ref (b 0))] rfl ?_
  intro p e s m args below meth c C hr
  have b51 : ∀ (n : Nat) (σ : Me) (x1 : Int32) (hf : f_X8_note1_51 n σ x1 = some σ'), Gg p l e (rmd 0) s m args below meth c D (Pm b) (wm cJ b) 2 0 0 (MQ below ((qV D (wm cJ b) (Pm b) σ') s.heap.size) args s 0 0 (fR (Pm b) s.heap.size)) σ [(0, .ref (b 0)), (1, .int x1)] 51 [] := by
    intro n
    induction n with
    | zero => intro σ x1 hf; exact absurd hf (by simp [f_X8_note1_51])
    | succ n ih =>
      intro σ x1 hf
      rw [f_X8_note1_51] at hf
      refine g_iload_n (pc := 51) C dX8_note1_51 1 rfl rfl ?_
      refine g_bipush (pc := 52) C dX8_note1_52 bp_112 ?_
      refine g_icmp_ge (pc := 54) C 83 dX8_note1_54 (by decide) (fun q1 => ?_) (fun q1 => ?_)
      · replace hf := (if_pos q1).symm.trans hf
        refine g_aload_n (pc := 83) C dX8_note1_83 0 rfl rfl ?_
        refine g_dup (pc := 84) C dX8_note1_84 rfl ?_
        refine g_get (pc := 85) C in_X8 wm_0 cl_X8 7 (by decide) tw_629 rfl dX8_note1_85 ?_
        refine g_iconst (pc := 88) C dX8_note1_88 ic_1 ?_
        refine g_iadd (pc := 89) C dX8_note1_89 ?_
        refine g_put (pc := 90) C in_X8 tyX8 tyX8_ok nmX8 wm_0 cl_X8 7 (by decide) tw_629 rfl rfl rfl (Nat.le_of_ble_eq_true rfl) mp_7 dX8_note1_90 ?_
        cases hf
        exact g_vret (pc := 93) C hr dX8_note1_93
      · replace hf := (if_neg q1).symm.trans hf
        refine g_aload_n (pc := 57) C dX8_note1_57 0 rfl rfl ?_
        refine g_get (pc := 58) C in_X8 wm_0 cl_X8 6 (by decide) tw_628 rfl dX8_note1_58 ?_
        refine g_bipush (pc := 61) C dX8_note1_61 bp_112 ?_
        refine g_aload_n (pc := 63) C dX8_note1_63 0 rfl rfl ?_
        refine g_get (pc := 64) C in_X8 wm_0 cl_X8 7 (by decide) tw_629 rfl dX8_note1_64 ?_
        refine g_imul (pc := 67) C dX8_note1_67 ?_
        refine g_iload_n (pc := 68) C dX8_note1_68 1 rfl rfl ?_
        refine g_iadd (pc := 69) C dX8_note1_69 ?_
        refine g_aload_n (pc := 70) C dX8_note1_70 0 rfl rfl ?_
        refine g_get (pc := 71) C in_X8 wm_0 cl_X8 5 (by decide) tw_627 rfl dX8_note1_71 ?_
        refine g_iload_n (pc := 74) C dX8_note1_74 1 rfl rfl ?_
        obtain ⟨q2, hf⟩ := gd_some hf
        refine g_iald (pc := 75) C 3 wm_4 rfl q2 rfl dX8_note1_75 ?_
        obtain ⟨q3, hf⟩ := gd_some hf
        refine g_iast (pc := 76) C 3 wm_5 rfl q3 rfl ma_5 dX8_note1_76 ?_
        refine g_iinc (pc := 77) C [(1, .int (x1 + 1)), (0, .ref (b 0))] 1 dX8_note1_77 rfl ic_1 (by decide) rfl ?_
        refine g_goto (pc := 80) C 51 dX8_note1_80 (by decide) ?_
        exact g_sub [1, 0] rfl (ih (up σ 5 ((112 * (σ 0 7)) + x1).toNatClampNeg (σ 4 x1.toNatClampNeg)) (x1 + 1) hf)
  have b11 : ∀ (n : Nat) (σ : Me) (x1 : Int32) (hf : f_X8_note1_11 n σ x1 = some σ'), Gg p l e (rmd 0) s m args below meth c D (Pm b) (wm cJ b) 2 0 0 (MQ below ((qV D (wm cJ b) (Pm b) σ') s.heap.size) args s 0 0 (fR (Pm b) s.heap.size)) σ [(0, .ref (b 0)), (1, .int x1)] 11 [] := by
    intro n
    induction n with
    | zero => intro σ x1 hf; exact absurd hf (by simp [f_X8_note1_11])
    | succ n ih =>
      intro σ x1 hf
      rw [f_X8_note1_11] at hf
      refine g_iload_n (pc := 11) C dX8_note1_11 1 rfl rfl ?_
      refine g_sipush (pc := 12) C dX8_note1_12 sp_560 ?_
      refine g_icmp_ge (pc := 15) C 39 dX8_note1_15 (by decide) (fun q4 => ?_) (fun q4 => ?_)
      · replace hf := (if_pos q4).symm.trans hf
        refine g_aload_n (pc := 39) C dX8_note1_39 0 rfl rfl ?_
        refine g_dup (pc := 40) C dX8_note1_40 rfl ?_
        refine g_get (pc := 41) C in_X8 wm_0 cl_X8 7 (by decide) tw_629 rfl dX8_note1_41 ?_
        refine g_iconst (pc := 44) C dX8_note1_44 ic_1 ?_
        refine g_isub (pc := 45) C dX8_note1_45 ?_
        refine g_put (pc := 46) C in_X8 tyX8 tyX8_ok nmX8 wm_0 cl_X8 7 (by decide) tw_629 rfl rfl rfl (Nat.le_of_ble_eq_true rfl) mp_7 dX8_note1_46 ?_
        refine g_iconst (pc := 49) C dX8_note1_49 ic_0 ?_
        refine g_istore_n (pc := 50) C [(1, .int 0), (0, .ref (b 0))] dX8_note1_50 rfl (by decide) rfl ?_
        exact g_sub [1, 0] rfl (b51 1000 (up σ 0 7 ((σ 0 7) - 1)) 0 hf)
      · replace hf := (if_neg q4).symm.trans hf
        refine g_aload_n (pc := 18) C dX8_note1_18 0 rfl rfl ?_
        refine g_get (pc := 19) C in_X8 wm_0 cl_X8 6 (by decide) tw_628 rfl dX8_note1_19 ?_
        refine g_iload_n (pc := 22) C dX8_note1_22 1 rfl rfl ?_
        refine g_aload_n (pc := 23) C dX8_note1_23 0 rfl rfl ?_
        refine g_get (pc := 24) C in_X8 wm_0 cl_X8 6 (by decide) tw_628 rfl dX8_note1_24 ?_
        refine g_bipush (pc := 27) C dX8_note1_27 bp_112 ?_
        refine g_iload_n (pc := 29) C dX8_note1_29 1 rfl rfl ?_
        refine g_iadd (pc := 30) C dX8_note1_30 ?_
        obtain ⟨q5, hf⟩ := gd_some hf
        refine g_iald (pc := 31) C 3 wm_5 rfl q5 rfl dX8_note1_31 ?_
        obtain ⟨q6, hf⟩ := gd_some hf
        refine g_iast (pc := 32) C 3 wm_5 rfl q6 rfl ma_5 dX8_note1_32 ?_
        refine g_iinc (pc := 33) C [(1, .int (x1 + 1)), (0, .ref (b 0))] 1 dX8_note1_33 rfl ic_1 (by decide) rfl ?_
        refine g_goto (pc := 36) C 11 dX8_note1_36 (by decide) ?_
        exact g_sub [1, 0] rfl (ih (up σ 5 x1.toNatClampNeg (σ 5 (112 + x1).toNatClampNeg)) (x1 + 1) hf)
  unfold f_X8_note1 at hf
  refine g_aload_n (pc := 0) C dX8_note1_0 0 rfl rfl ?_
  refine g_get (pc := 1) C in_X8 wm_0 cl_X8 7 (by decide) tw_629 rfl dX8_note1_1 ?_
  refine g_bipush (pc := 4) C dX8_note1_4 bp_6 ?_
  refine g_icmp_ne (pc := 6) C 49 dX8_note1_6 (by decide) (fun q7 => ?_) (fun q7 => ?_)
  · replace hf := (if_neg q7).symm.trans hf
    refine g_iconst (pc := 49) C dX8_note1_49 ic_0 ?_
    refine g_istore_n (pc := 50) C [(1, .int 0), (0, .ref (b 0))] dX8_note1_50 rfl (by decide) rfl ?_
    exact g_sub [1, 0] rfl (b51 1000 σ 0 hf)
  · replace hf := (if_pos q7).symm.trans hf
    refine g_iconst (pc := 9) C dX8_note1_9 ic_0 ?_
    refine g_istore_n (pc := 10) C [(1, .int 0), (0, .ref (b 0))] dX8_note1_10 rfl (by decide) rfl ?_
    exact g_sub [1, 0] rfl (b11 1000 σ 0 hf)

set_option maxHeartbeats 4000000 in
set_option maxRecDepth 100000 in
theorem c_X8_undo (l : Launch) (D : va_G) {cI cH cE cJ : ClassId} {b : Nat → Nat} (hw : ∀ σ, va_D (Pm b) (wm cJ b σ)) {σ : Me} {σ' : Me} {r : Int32} (hf : f_X8_undo σ = some (σ', r)) : Mq l D (tyc cI cH cE cJ) (wm cJ b) (Pm b) yX8_undo cX8_undo 2 (Option.some Jvm.ClassFile.FieldType.int) 0 [.ref (b 0)] σ (qI D (wm cJ b) (Pm b) σ' r) := by
  refine mOf (plainFor_of_name (by decide)) hw (Nat.le_of_ble_eq_true rfl) [(0, .ref (b 0))] rfl ?_
  intro p e s m args below meth c C hr
  have b22 : ∀ (n : Nat) (σ : Me) (x1 : Int32) (hf : f_X8_undo_22 n σ x1 = some (σ', r)), Gg p l e (rmd 0) s m args below meth c D (Pm b) (wm cJ b) 2 0 0 (MQ below ((qI D (wm cJ b) (Pm b) σ' r) s.heap.size) args s 0 0 (fR (Pm b) s.heap.size)) σ [(0, .ref (b 0)), (1, .int x1)] 22 [] := by
    intro n
    induction n with
    | zero => intro σ x1 hf; exact absurd hf (by simp [f_X8_undo_22])
    | succ n ih =>
      intro σ x1 hf
      rw [f_X8_undo_22] at hf
      refine g_iload_n (pc := 22) C dX8_undo_22 1 rfl rfl ?_
      refine g_bipush (pc := 23) C dX8_undo_23 bp_112 ?_
      refine g_icmp_ge (pc := 25) C 54 dX8_undo_25 (by decide) (fun q1 => ?_) (fun q1 => ?_)
      · replace hf := (if_pos q1).symm.trans hf
        refine g_aload_n (pc := 54) C dX8_undo_54 0 rfl rfl ?_
        refine g_get (pc := 55) C in_X8 wm_0 cl_X8 7 (by decide) tw_629 rfl dX8_undo_55 ?_
        cases hf
        exact g_iret (pc := 58) C hr dX8_undo_58
      · replace hf := (if_neg q1).symm.trans hf
        refine g_aload_n (pc := 28) C dX8_undo_28 0 rfl rfl ?_
        refine g_get (pc := 29) C in_X8 wm_0 cl_X8 5 (by decide) tw_627 rfl dX8_undo_29 ?_
        refine g_iload_n (pc := 32) C dX8_undo_32 1 rfl rfl ?_
        refine g_aload_n (pc := 33) C dX8_undo_33 0 rfl rfl ?_
        refine g_get (pc := 34) C in_X8 wm_0 cl_X8 6 (by decide) tw_628 rfl dX8_undo_34 ?_
        refine g_bipush (pc := 37) C dX8_undo_37 bp_112 ?_
        refine g_aload_n (pc := 39) C dX8_undo_39 0 rfl rfl ?_
        refine g_get (pc := 40) C in_X8 wm_0 cl_X8 7 (by decide) tw_629 rfl dX8_undo_40 ?_
        refine g_imul (pc := 43) C dX8_undo_43 ?_
        refine g_iload_n (pc := 44) C dX8_undo_44 1 rfl rfl ?_
        refine g_iadd (pc := 45) C dX8_undo_45 ?_
        obtain ⟨q2, hf⟩ := gd_some hf
        refine g_iald (pc := 46) C 3 wm_5 rfl q2 rfl dX8_undo_46 ?_
        obtain ⟨q3, hf⟩ := gd_some hf
        refine g_iast (pc := 47) C 3 wm_4 rfl q3 rfl ma_4 dX8_undo_47 ?_
        refine g_iinc (pc := 48) C [(1, .int (x1 + 1)), (0, .ref (b 0))] 1 dX8_undo_48 rfl ic_1 (by decide) rfl ?_
        refine g_goto (pc := 51) C 22 dX8_undo_51 (by decide) ?_
        exact g_sub [1, 0] rfl (ih (up σ 4 x1.toNatClampNeg (σ 5 ((112 * (σ 0 7)) + x1).toNatClampNeg)) (x1 + 1) hf)
  unfold f_X8_undo at hf
  refine g_aload_n (pc := 0) C dX8_undo_0 0 rfl rfl ?_
  refine g_get (pc := 1) C in_X8 wm_0 cl_X8 7 (by decide) tw_629 rfl dX8_undo_1 ?_
  refine g_if_ne (pc := 4) C 10 dX8_undo_4 (by decide) (fun q4 => ?_) (fun q4 => ?_)
  · replace hf := (if_neg q4).symm.trans hf
    refine g_aload_n (pc := 10) C dX8_undo_10 0 rfl rfl ?_
    refine g_dup (pc := 11) C dX8_undo_11 rfl ?_
    refine g_get (pc := 12) C in_X8 wm_0 cl_X8 7 (by decide) tw_629 rfl dX8_undo_12 ?_
    refine g_iconst (pc := 15) C dX8_undo_15 ic_1 ?_
    refine g_isub (pc := 16) C dX8_undo_16 ?_
    refine g_put (pc := 17) C in_X8 tyX8 tyX8_ok nmX8 wm_0 cl_X8 7 (by decide) tw_629 rfl rfl rfl (Nat.le_of_ble_eq_true rfl) mp_7 dX8_undo_17 ?_
    refine g_iconst (pc := 20) C dX8_undo_20 ic_0 ?_
    refine g_istore_n (pc := 21) C [(1, .int 0), (0, .ref (b 0))] dX8_undo_21 rfl (by decide) rfl ?_
    exact g_sub [1, 0] rfl (b22 1000 (up σ 0 7 ((σ 0 7) - 1)) 0 hf)
  · replace hf := (if_pos q4).symm.trans hf
    refine g_bipush (pc := 7) C dX8_undo_7 bp_m2 ?_
    cases hf
    exact g_iret (pc := 9) C hr dX8_undo_9

set_option maxHeartbeats 4000000 in
set_option maxRecDepth 100000 in
theorem c_X8_run (l : Launch) (D : va_G) {cI cH cE cJ : ClassId} {b : Nat → Nat} (hw : ∀ σ, va_D (Pm b) (wm cJ b σ)) {σ : Me} {x1 : Int32} {x2 : Int32} {x3 : Int32} {σ' : Me} {r : Int32} (hf : f_X8_run σ x1 x2 x3 = some (σ', r)) : Mq l D (tyc cI cH cE cJ) (wm cJ b) (Pm b) yX8_run cX8_run 4 (Option.some Jvm.ClassFile.FieldType.int) 2 [.ref (b 0), .int x1, .int x2, .int x3] σ (qI D (wm cJ b) (Pm b) σ' r) := by
  refine mOf (plainFor_of_name (by decide)) hw (Nat.le_of_ble_eq_true rfl) [(0, .ref (b 0)), (1, .int x1), (2, .int x2), (3, .int x3)] rfl ?_
  intro p e s m args below meth c C hr
  unfold f_X8_run at hf
  refine g_aload_n (pc := 0) C dX8_run_0 0 rfl rfl ?_
  refine g_iload_n (pc := 1) C dX8_run_1 1 rfl rfl ?_
  obtain ⟨r1, h1, hf⟩ := bd_some hf
  refine g_cVi (pc := 2) C (st := []) jW.rf (c_X8_isSeries l D hw h1) y_X8_isSeries tw_701 rfl ⟨by decide, by decide⟩ ⟨Nat.zero_le _, Nat.zero_le _⟩ (Nat.le_of_ble_eq_true rfl) wm_0 cl_X8 rfl dX8_run_2 rfl ?_
  refine g_if_eq (pc := 5) C 28 dX8_run_5 (by decide) (fun q2 => ?_) (fun q2 => ?_)
  · replace hf := (if_pos q2).symm.trans hf
    refine g_iconst (pc := 28) C dX8_run_28 ic_m1 ?_
    cases hf
    exact g_iret (pc := 29) C hr dX8_run_29
  · replace hf := (if_neg q2).symm.trans hf
    refine g_aload_n (pc := 8) C dX8_run_8 0 rfl rfl ?_
    refine g_iload_n (pc := 9) C dX8_run_9 2 rfl rfl ?_
    obtain ⟨r3, h3, hf⟩ := bd_some hf
    refine g_cVi (pc := 10) C (st := []) jW.rf (c_X8_isPress l D hw h3) y_X8_isPress tw_730 rfl ⟨by decide, by decide⟩ ⟨Nat.zero_le _, Nat.zero_le _⟩ (Nat.le_of_ble_eq_true rfl) wm_0 cl_X8 rfl dX8_run_10 rfl ?_
    refine g_if_eq (pc := 13) C 28 dX8_run_13 (by decide) (fun q4 => ?_) (fun q4 => ?_)
    · replace hf := (if_pos q4).symm.trans hf
      refine g_iconst (pc := 28) C dX8_run_28 ic_m1 ?_
      cases hf
      exact g_iret (pc := 29) C hr dX8_run_29
    · replace hf := (if_neg q4).symm.trans hf
      refine g_iload_n (pc := 16) C dX8_run_16 3 rfl rfl ?_
      refine g_i2l (pc := 17) C dX8_run_17 ?_
      refine g_lconst (pc := 18) C dX8_run_18 lc_1 ?_
      refine g_ldc2 (pc := 19) C tw_734 dX8_run_19 ?_
      obtain ⟨r5, h5, hf⟩ := bd_some hf
      refine g_cSi (pc := 22) C (st := []) jW.rf (c_X8_in l D hw h5) y_X8_in tw_653 rfl ⟨by decide, by decide⟩ ⟨Nat.zero_le _, Nat.zero_le _⟩ (Nat.le_of_ble_eq_true rfl) dX8_run_22 rfl ?_
      refine g_if_ne (pc := 25) C 30 dX8_run_25 (by decide) (fun q6 => ?_) (fun q6 => ?_)
      · replace hf := (if_neg q6).symm.trans hf
        refine g_aload_n (pc := 30) C dX8_run_30 0 rfl rfl ?_
        refine g_get (pc := 31) C in_X8 wm_0 cl_X8 5 (by decide) tw_627 rfl dX8_run_31 ?_
        refine g_iconst (pc := 34) C dX8_run_34 ic_4 ?_
        refine g_iload_n (pc := 35) C dX8_run_35 1 rfl rfl ?_
        refine g_imul (pc := 36) C dX8_run_36 ?_
        refine g_iload_n (pc := 37) C dX8_run_37 2 rfl rfl ?_
        refine g_iadd (pc := 38) C dX8_run_38 ?_
        obtain ⟨q7, hf⟩ := gd_some hf
        refine g_iald (pc := 39) C 3 wm_4 rfl q7 rfl dX8_run_39 ?_
        refine g_iload_n (pc := 40) C dX8_run_40 3 rfl rfl ?_
        refine g_iadd (pc := 41) C dX8_run_41 ?_
        refine g_aload_n (pc := 42) C dX8_run_42 0 rfl rfl ?_
        refine g_iload_n (pc := 43) C dX8_run_43 1 rfl rfl ?_
        refine g_iload_n (pc := 44) C dX8_run_44 2 rfl rfl ?_
        obtain ⟨r8, h8, hf⟩ := bd_some hf
        refine g_cVi (pc := 45) C (st := [.int ((σ 4 ((4 * x1) + x2).toNatClampNeg) + x3)]) jW.rf (c_X8_sheets l D hw h8) y_X8_sheets tw_735 rfl ⟨by decide, by decide⟩ ⟨Nat.zero_le _, Nat.zero_le _⟩ (Nat.le_of_ble_eq_true rfl) wm_0 cl_X8 rfl dX8_run_45 rfl ?_
        refine g_icmp_le (pc := 48) C 54 dX8_run_48 (by decide) (fun q9 => ?_) (fun q9 => ?_)
        · replace hf := (if_pos q9).symm.trans hf
          refine g_aload_n (pc := 54) C dX8_run_54 0 rfl rfl ?_
          obtain ⟨s10, h10, hf⟩ := bd_some hf
          refine g_cVv (pc := 55) C (st := []) jW.rf (c_X8_note1 l D hw h10) y_X8_note1 tw_739 rfl ⟨by decide, by decide⟩ ⟨Nat.zero_le _, Nat.zero_le _⟩ (Nat.le_of_ble_eq_true rfl) wm_0 cl_X8 rfl dX8_run_55 rfl ?_
          refine g_aload_n (pc := 58) C dX8_run_58 0 rfl rfl ?_
          refine g_get (pc := 59) C in_X8 wm_0 cl_X8 5 (by decide) tw_627 rfl dX8_run_59 ?_
          refine g_iconst (pc := 62) C dX8_run_62 ic_4 ?_
          refine g_iload_n (pc := 63) C dX8_run_63 1 rfl rfl ?_
          refine g_imul (pc := 64) C dX8_run_64 ?_
          refine g_iload_n (pc := 65) C dX8_run_65 2 rfl rfl ?_
          refine g_iadd (pc := 66) C dX8_run_66 ?_
          refine g_dup2 (pc := 67) C dX8_run_67 rfl rfl ?_
          obtain ⟨q11, hf⟩ := gd_some hf
          refine g_iald (pc := 68) C 3 wm_4 rfl q11 rfl dX8_run_68 ?_
          refine g_iload_n (pc := 69) C dX8_run_69 3 rfl rfl ?_
          refine g_iadd (pc := 70) C dX8_run_70 ?_
          obtain ⟨q12, hf⟩ := gd_some hf
          refine g_iast (pc := 71) C 3 wm_4 rfl q12 rfl ma_4 dX8_run_71 ?_
          refine g_iload_n (pc := 72) C dX8_run_72 3 rfl rfl ?_
          refine g_aload_n (pc := 73) C dX8_run_73 0 rfl rfl ?_
          refine g_get (pc := 74) C in_X8 wm_0 cl_X8 3 (by decide) tw_625 rfl dX8_run_74 ?_
          refine g_iload_n (pc := 77) C dX8_run_77 2 rfl rfl ?_
          obtain ⟨q13, hf⟩ := gd_some hf
          refine g_iald (pc := 78) C 3 wm_2 rfl q13 rfl dX8_run_78 ?_
          refine g_imul (pc := 79) C dX8_run_79 ?_
          cases hf
          exact g_iret (pc := 80) C hr dX8_run_80
        · replace hf := (if_neg q9).symm.trans hf
          refine g_bipush (pc := 51) C dX8_run_51 bp_m2 ?_
          cases hf
          exact g_iret (pc := 53) C hr dX8_run_53
      · replace hf := (if_pos q6).symm.trans hf
        refine g_iconst (pc := 28) C dX8_run_28 ic_m1 ?_
        cases hf
        exact g_iret (pc := 29) C hr dX8_run_29

set_option maxHeartbeats 4000000 in
set_option maxRecDepth 100000 in
theorem c_X8_stands (l : Launch) (D : va_G) {cI cH cE cJ : ClassId} {b : Nat → Nat} (hw : ∀ σ, va_D (Pm b) (wm cJ b σ)) {σ : Me} {x1 : Int32} {x2 : Int32} {σ' : Me} {r : Int32} (hf : f_X8_stands σ x1 x2 = some (σ', r)) : Mq l D (tyc cI cH cE cJ) (wm cJ b) (Pm b) yX8_stands cX8_stands 4 (Option.some Jvm.ClassFile.FieldType.int) 0 [.ref (b 0), .int x1, .int x2] σ (qI D (wm cJ b) (Pm b) σ' r) := by
  refine mOf (plainFor_of_name (by decide)) hw (Nat.le_of_ble_eq_true rfl) [(0, .ref (b 0)), (1, .int x1), (2, .int x2)] rfl ?_
  intro p e s m args below meth c C hr
  unfold f_X8_stands at hf
  refine g_aload_n (pc := 0) C dX8_stands_0 0 rfl rfl ?_
  refine g_get (pc := 1) C in_X8 wm_0 cl_X8 5 (by decide) tw_627 rfl dX8_stands_1 ?_
  refine g_bipush (pc := 4) C dX8_stands_4 bp_111 ?_
  refine g_iald (pc := 6) C 3 wm_4 rfl (by decide) tnn_111 dX8_stands_6 ?_
  refine g_istore_n (pc := 7) C [(3, .int (σ 4 111)), (0, .ref (b 0)), (1, .int x1), (2, .int x2)] dX8_stands_7 rfl (by decide) rfl ?_
  refine g_aload_n (pc := 8) C dX8_stands_8 1 rfl rfl ?_
  refine g_get (pc := 9) C in_X8 wm_0 cl_X8 5 (by decide) tw_627 rfl dX8_stands_9 ?_
  refine g_bipush (pc := 12) C dX8_stands_12 bp_12 ?_
  refine g_iload_n (pc := 14) C dX8_stands_14 0 rfl rfl ?_
  refine g_iadd (pc := 15) C dX8_stands_15 ?_
  refine g_sipush (pc := 16) C dX8_stands_16 sp_1000 ?_
  refine g_iload_n (pc := 19) C dX8_stands_19 2 rfl rfl ?_
  refine g_imul (pc := 20) C dX8_stands_20 ?_
  refine g_iload_n (pc := 21) C dX8_stands_21 3 rfl rfl ?_
  refine g_iadd (pc := 22) C dX8_stands_22 ?_
  obtain ⟨q2, hf⟩ := gd_some hf
  refine g_iast (pc := 23) C 3 wm_4 rfl q2 rfl ma_4 dX8_stands_23 ?_
  refine g_aload_n (pc := 24) C dX8_stands_24 1 rfl rfl ?_
  refine g_get (pc := 25) C in_X8 wm_0 cl_X8 5 (by decide) tw_627 rfl dX8_stands_25 ?_
  refine g_bipush (pc := 28) C dX8_stands_28 bp_111 ?_
  refine g_dup2 (pc := 30) C dX8_stands_30 rfl rfl ?_
  refine g_iald (pc := 31) C 3 wm_4 rfl (by decide) tnn_111 dX8_stands_31 ?_
  refine g_iconst (pc := 32) C dX8_stands_32 ic_1 ?_
  refine g_iadd (pc := 33) C dX8_stands_33 ?_
  refine g_iast (pc := 34) C 3 wm_4 rfl (by decide) tnn_111 ma_4 dX8_stands_34 ?_
  refine g_iload_n (pc := 35) C dX8_stands_35 0 rfl rfl ?_
  cases hf
  exact g_iret (pc := 36) C hr dX8_stands_36

set_option maxHeartbeats 4000000 in
set_option maxRecDepth 100000 in
theorem c_X8_spoil (l : Launch) (D : va_G) {cI cH cE cJ : ClassId} {b : Nat → Nat} (hw : ∀ σ, va_D (Pm b) (wm cJ b σ)) {σ : Me} {x1 : Int32} {x2 : Int32} {σ' : Me} {r : Int32} (hf : f_X8_spoil σ x1 x2 = some (σ', r)) : Mq l D (tyc cI cH cE cJ) (wm cJ b) (Pm b) yX8_spoil cX8_spoil 3 (Option.some Jvm.ClassFile.FieldType.int) 5 [.ref (b 0), .int x1, .int x2] σ (qI D (wm cJ b) (Pm b) σ' r) := by
  refine mOf (plainFor_of_name (by decide)) hw (Nat.le_of_ble_eq_true rfl) [(0, .ref (b 0)), (1, .int x1), (2, .int x2)] rfl ?_
  intro p e s m args below meth c C hr
  unfold f_X8_spoil at hf
  refine g_aload_n (pc := 0) C dX8_spoil_0 0 rfl rfl ?_
  refine g_iload_n (pc := 1) C dX8_spoil_1 1 rfl rfl ?_
  refine g_iload_n (pc := 2) C dX8_spoil_2 2 rfl rfl ?_
  obtain ⟨r1, h1, hf⟩ := bd_some hf
  refine g_cVi (pc := 3) C (st := []) jW.rf (c_X8_isNumber l D hw h1) y_X8_isNumber tw_747 rfl ⟨by decide, by decide⟩ ⟨Nat.zero_le _, Nat.zero_le _⟩ (Nat.le_of_ble_eq_true rfl) wm_0 cl_X8 rfl dX8_spoil_3 rfl ?_
  refine g_if_ne (pc := 6) C 11 dX8_spoil_6 (by decide) (fun q2 => ?_) (fun q2 => ?_)
  · replace hf := (if_neg q2).symm.trans hf
    refine g_aload_n (pc := 11) C dX8_spoil_11 0 rfl rfl ?_
    refine g_iload_n (pc := 12) C dX8_spoil_12 1 rfl rfl ?_
    refine g_iload_n (pc := 13) C dX8_spoil_13 2 rfl rfl ?_
    obtain ⟨r3, h3, hf⟩ := bd_some hf
    refine g_cVi (pc := 14) C (st := []) jW.rf (c_X8_isPrinted l D hw h3) y_X8_isPrinted tw_751 rfl ⟨by decide, by decide⟩ ⟨Nat.zero_le _, Nat.zero_le _⟩ (Nat.le_of_ble_eq_true rfl) wm_0 cl_X8 rfl dX8_spoil_14 rfl ?_
    refine g_if_eq (pc := 17) C 31 dX8_spoil_17 (by decide) (fun q4 => ?_) (fun q4 => ?_)
    · replace hf := (if_pos q4).symm.trans hf
      refine g_bipush (pc := 31) C dX8_spoil_31 bp_m2 ?_
      cases hf
      exact g_iret (pc := 33) C hr dX8_spoil_33
    · replace hf := (if_neg q4).symm.trans hf
      refine g_aload_n (pc := 20) C dX8_spoil_20 0 rfl rfl ?_
      refine g_iload_n (pc := 21) C dX8_spoil_21 1 rfl rfl ?_
      refine g_iload_n (pc := 22) C dX8_spoil_22 2 rfl rfl ?_
      obtain ⟨r5, h5, hf⟩ := bd_some hf
      refine g_cVi (pc := 23) C (st := []) jW.rf (c_X8_starAt l D hw h5) y_X8_starAt tw_767 rfl ⟨by decide, by decide⟩ ⟨Nat.zero_le _, Nat.zero_le _⟩ (Nat.le_of_ble_eq_true rfl) wm_0 cl_X8 rfl dX8_spoil_23 rfl ?_
      refine g_bipush (pc := 26) C dX8_spoil_26 bp_m4 ?_
      refine g_icmp_eq (pc := 28) C 34 dX8_spoil_28 (by decide) (fun q6 => ?_) (fun q6 => ?_)
      · replace hf := (if_pos q6).symm.trans hf
        refine g_aload_n (pc := 34) C dX8_spoil_34 0 rfl rfl ?_
        refine g_get (pc := 35) C in_X8 wm_0 cl_X8 5 (by decide) tw_627 rfl dX8_spoil_35 ?_
        refine g_bipush (pc := 38) C dX8_spoil_38 bp_111 ?_
        refine g_iald (pc := 40) C 3 wm_4 rfl (by decide) tnn_111 dX8_spoil_40 ?_
        refine g_aload_n (pc := 41) C dX8_spoil_41 0 rfl rfl ?_
        refine g_get (pc := 42) C in_X8 wm_0 cl_X8 3 (by decide) tw_625 rfl dX8_spoil_42 ?_
        refine g_bipush (pc := 45) C dX8_spoil_45 bp_24 ?_
        refine g_iald (pc := 47) C 3 wm_2 rfl (by decide) tnn_24 dX8_spoil_47 ?_
        refine g_icmp_ne (pc := 48) C 54 dX8_spoil_48 (by decide) (fun q9 => ?_) (fun q9 => ?_)
        · replace hf := (if_neg q9).symm.trans hf
          refine g_aload_n (pc := 54) C dX8_spoil_54 0 rfl rfl ?_
          obtain ⟨s10, h10, hf⟩ := bd_some hf
          refine g_cVv (pc := 55) C (st := []) jW.rf (c_X8_note1 l D hw h10) y_X8_note1 tw_739 rfl ⟨by decide, by decide⟩ ⟨Nat.zero_le _, Nat.zero_le _⟩ (Nat.le_of_ble_eq_true rfl) wm_0 cl_X8 rfl dX8_spoil_55 rfl ?_
          refine g_aload_n (pc := 58) C dX8_spoil_58 0 rfl rfl ?_
          refine g_iload_n (pc := 59) C dX8_spoil_59 1 rfl rfl ?_
          refine g_iload_n (pc := 60) C dX8_spoil_60 2 rfl rfl ?_
          obtain ⟨s11, r11, h11, hf⟩ := bd2_some hf
          refine g_cVi (pc := 61) C (st := []) jW.rf (c_X8_stands l D hw h11) y_X8_stands tw_771 rfl ⟨by decide, by decide⟩ ⟨Nat.zero_le _, Nat.zero_le _⟩ (Nat.le_of_ble_eq_true rfl) wm_0 cl_X8 rfl dX8_spoil_61 rfl ?_
          cases hf
          exact g_iret (pc := 64) C hr dX8_spoil_64
        · replace hf := (if_pos q9).symm.trans hf
          refine g_bipush (pc := 51) C dX8_spoil_51 bp_m3 ?_
          cases hf
          exact g_iret (pc := 53) C hr dX8_spoil_53
      · replace hf := (if_neg q6).symm.trans hf
        refine g_bipush (pc := 31) C dX8_spoil_31 bp_m2 ?_
        cases hf
        exact g_iret (pc := 33) C hr dX8_spoil_33
  · replace hf := (if_pos q2).symm.trans hf
    refine g_iconst (pc := 9) C dX8_spoil_9 ic_m1 ?_
    cases hf
    exact g_iret (pc := 10) C hr dX8_spoil_10

set_option maxHeartbeats 4000000 in
set_option maxRecDepth 100000 in
theorem c_X8_numberAt (l : Launch) (D : va_G) {cI cH cE cJ : ClassId} {b : Nat → Nat} (hw : ∀ σ, va_D (Pm b) (wm cJ b σ)) {σ : Me} {x1 : Int32} {x2 : Int32} {x3 : Int32} {x4 : Int32} {r : Int32} (hf : f_X8_numberAt σ x1 x2 x3 x4 = some r) : Mq l D (tyc cI cH cE cJ) (wm cJ b) (Pm b) yX8_numberAt cX8_numberAt 5 (Option.some Jvm.ClassFile.FieldType.int) 2 [.ref (b 0), .int x1, .int x2, .int x3, .int x4] σ (qI D (wm cJ b) (Pm b) σ r) := by
  refine mOf (plainFor_of_name (by decide)) hw (Nat.le_of_ble_eq_true rfl) [(0, .ref (b 0)), (1, .int x1), (2, .int x2), (3, .int x3), (4, .int x4)] rfl ?_
  intro p e s m args below meth c C hr
  unfold f_X8_numberAt at hf
  refine g_aload_n (pc := 0) C dX8_numberAt_0 0 rfl rfl ?_
  refine g_iload_n (pc := 1) C dX8_numberAt_1 1 rfl rfl ?_
  refine g_iload_n (pc := 2) C dX8_numberAt_2 2 rfl rfl ?_
  obtain ⟨r1, h1, hf⟩ := bd_some hf
  refine g_cVi (pc := 3) C (st := []) jW.rf (c_X8_first l D hw h1) y_X8_first tw_763 rfl ⟨by decide, by decide⟩ ⟨Nat.zero_le _, Nat.zero_le _⟩ (Nat.le_of_ble_eq_true rfl) wm_0 cl_X8 rfl dX8_numberAt_3 rfl ?_
  refine g_iload (pc := 6) C dX8_numberAt_6 4 rfl ?_
  refine g_aload_n (pc := 8) C dX8_numberAt_8 0 rfl rfl ?_
  refine g_iload_n (pc := 9) C dX8_numberAt_9 1 rfl rfl ?_
  refine g_iload_n (pc := 10) C dX8_numberAt_10 2 rfl rfl ?_
  obtain ⟨r2, h2, hf⟩ := bd_some hf
  refine g_cVi (pc := 11) C (st := [.int x4, .int r1]) jW.rf (c_X8_sheets l D hw h2) y_X8_sheets tw_735 rfl ⟨by decide, by decide⟩ ⟨Nat.zero_le _, Nat.zero_le _⟩ (Nat.le_of_ble_eq_true rfl) wm_0 cl_X8 rfl dX8_numberAt_11 rfl ?_
  refine g_imul (pc := 14) C dX8_numberAt_14 ?_
  refine g_iadd (pc := 15) C dX8_numberAt_15 ?_
  refine g_iload_n (pc := 16) C dX8_numberAt_16 3 rfl rfl ?_
  refine g_iadd (pc := 17) C dX8_numberAt_17 ?_
  cases hf
  exact g_iret (pc := 18) C hr dX8_numberAt_18

set_option maxHeartbeats 4000000 in
set_option maxRecDepth 100000 in
theorem c_X8_spoilSheet (l : Launch) (D : va_G) {cI cH cE cJ : ClassId} {b : Nat → Nat} (hw : ∀ σ, va_D (Pm b) (wm cJ b σ)) {σ : Me} {x1 : Int32} {x2 : Int32} {x3 : Int32} {σ' : Me} {r : Int32} (hf : f_X8_spoilSheet σ x1 x2 x3 = some (σ', r)) : Mq l D (tyc cI cH cE cJ) (wm cJ b) (Pm b) yX8_spoilSheet cX8_spoilSheet 8 (Option.some Jvm.ClassFile.FieldType.int) 3 [.ref (b 0), .int x1, .int x2, .int x3] σ (qI D (wm cJ b) (Pm b) σ' r) := by
  refine mOf (plainFor_of_name (by decide)) hw (Nat.le_of_ble_eq_true rfl) [(0, .ref (b 0)), (1, .int x1), (2, .int x2), (3, .int x3)] rfl ?_
  intro p e s m args below meth c C hr
  have b140 : ∀ (n : Nat) (σ : Me) (x4 : Int32) (x5 : Int32) (hf : f_X8_spoilSheet_140 n σ x1 x2 x3 x4 x5 = some (σ', r)), Gg p l e (rmd 3) s m args below meth c D (Pm b) (wm cJ b) 8 0 0 (MQ below ((qI D (wm cJ b) (Pm b) σ' r) s.heap.size) args s 0 0 (fR (Pm b) s.heap.size)) σ [(0, .ref (b 0)), (1, .int x1), (2, .int x2), (3, .int x3), (4, .int x4), (5, .int x5)] 140 [] := by
    intro n
    induction n with
    | zero => intro σ x4 x5 hf; exact absurd hf (by simp [f_X8_spoilSheet_140])
    | succ n ih =>
      intro σ x4 x5 hf
      rw [f_X8_spoilSheet_140] at hf
      refine g_iload (pc := 140) C dX8_spoilSheet_140 5 rfl ?_
      refine g_aload_n (pc := 142) C dX8_spoilSheet_142 0 rfl rfl ?_
      refine g_get (pc := 143) C in_X8 wm_0 cl_X8 3 (by decide) tw_625 rfl dX8_spoilSheet_143 ?_
      refine g_iload_n (pc := 146) C dX8_spoilSheet_146 2 rfl rfl ?_
      obtain ⟨q1, hf⟩ := gd_some hf
      refine g_iald (pc := 147) C 3 wm_2 rfl q1 rfl dX8_spoilSheet_147 ?_
      refine g_icmp_ge (pc := 148) C 204 dX8_spoilSheet_148 (by decide) (fun q2 => ?_) (fun q2 => ?_)
      · replace hf := (if_pos q2).symm.trans hf
        refine g_iload (pc := 204) C dX8_spoilSheet_204 4 rfl ?_
        cases hf
        exact g_iret (pc := 206) C hr dX8_spoilSheet_206
      · replace hf := (if_neg q2).symm.trans hf
        refine g_aload_n (pc := 151) C dX8_spoilSheet_151 0 rfl rfl ?_
        refine g_iload_n (pc := 152) C dX8_spoilSheet_152 1 rfl rfl ?_
        refine g_iload_n (pc := 153) C dX8_spoilSheet_153 2 rfl rfl ?_
        refine g_iload_n (pc := 154) C dX8_spoilSheet_154 3 rfl rfl ?_
        refine g_iload (pc := 155) C dX8_spoilSheet_155 5 rfl ?_
        obtain ⟨r3, h3, hf⟩ := bd_some hf
        refine g_cVi (pc := 157) C (st := []) jW.rf (c_X8_numberAt l D hw h3) y_X8_numberAt tw_779 rfl ⟨by decide, by decide⟩ ⟨Nat.zero_le _, Nat.zero_le _⟩ (Nat.le_of_ble_eq_true rfl) wm_0 cl_X8 rfl dX8_spoilSheet_157 rfl ?_
        refine g_istore (pc := 160) C [(6, .int r3), (0, .ref (b 0)), (1, .int x1), (2, .int x2), (3, .int x3), (4, .int x4), (5, .int x5)] dX8_spoilSheet_160 (by decide) rfl ?_
        refine g_aload_n (pc := 162) C dX8_spoilSheet_162 1 rfl rfl ?_
        refine g_iload_n (pc := 163) C dX8_spoilSheet_163 2 rfl rfl ?_
        refine g_iload (pc := 164) C dX8_spoilSheet_164 0 rfl ?_
        obtain ⟨r4, h4, hf⟩ := bd_some hf
        refine g_cVi (pc := 166) C (st := []) jW.rf (c_X8_starAt l D hw h4) y_X8_starAt tw_767 rfl ⟨by decide, by decide⟩ ⟨Nat.zero_le _, Nat.zero_le _⟩ (Nat.le_of_ble_eq_true rfl) wm_0 cl_X8 rfl dX8_spoilSheet_166 rfl ?_
        refine g_bipush (pc := 169) C dX8_spoilSheet_169 bp_m4 ?_
        refine g_icmp_ne (pc := 171) C 198 dX8_spoilSheet_171 (by decide) (fun q5 => ?_) (fun q5 => ?_)
        · replace hf := (if_neg q5).symm.trans hf
          refine g_iinc (pc := 198) C [(5, .int (x5 + 1)), (6, .int r3), (0, .ref (b 0)), (1, .int x1), (2, .int x2), (3, .int x3), (4, .int x4)] 6 dX8_spoilSheet_198 rfl ic_1 (by decide) rfl ?_
          refine g_goto (pc := 201) C 140 dX8_spoilSheet_201 (by decide) ?_
          exact g_sub [2, 3, 4, 5, 6, 0] rfl (ih σ x4 (x5 + 1) hf)
        · replace hf := (if_pos q5).symm.trans hf
          refine g_aload_n (pc := 174) C dX8_spoilSheet_174 1 rfl rfl ?_
          refine g_iload_n (pc := 175) C dX8_spoilSheet_175 2 rfl rfl ?_
          refine g_iload (pc := 176) C dX8_spoilSheet_176 0 rfl ?_
          obtain ⟨s6, r6, h6, hf⟩ := bd2_some hf
          refine g_cVi (pc := 178) C (st := []) jW.rf (c_X8_stands l D hw h6) y_X8_stands tw_771 rfl ⟨by decide, by decide⟩ ⟨Nat.zero_le _, Nat.zero_le _⟩ (Nat.le_of_ble_eq_true rfl) wm_0 cl_X8 rfl dX8_spoilSheet_178 rfl ?_
          refine g_istore (pc := 181) C [(7, .int r6), (6, .int r3), (0, .ref (b 0)), (1, .int x1), (2, .int x2), (3, .int x3), (4, .int x4), (5, .int x5)] dX8_spoilSheet_181 (by decide) rfl ?_
          refine g_iload (pc := 183) C dX8_spoilSheet_183 6 rfl ?_
          refine g_iload (pc := 185) C dX8_spoilSheet_185 0 rfl ?_
          refine g_if_ge (pc := 187) C 194 dX8_spoilSheet_187 (by decide) (fun q7 => ?_) (fun q7 => ?_)
          · replace hf := (if_pos q7).symm.trans hf
            refine g_iconst (pc := 194) C dX8_spoilSheet_194 ic_0 ?_
            refine g_iadd (pc := 195) C dX8_spoilSheet_195 ?_
            refine g_istore (pc := 196) C [(4, .int (x4 + 0)), (7, .int r6), (6, .int r3), (0, .ref (b 0)), (1, .int x1), (2, .int x2), (3, .int x3), (5, .int x5)] dX8_spoilSheet_196 (by decide) rfl ?_
            refine g_iinc (pc := 198) C [(5, .int (x5 + 1)), (4, .int (x4 + 0)), (7, .int r6), (6, .int r3), (0, .ref (b 0)), (1, .int x1), (2, .int x2), (3, .int x3)] 7 dX8_spoilSheet_198 rfl ic_1 (by decide) rfl ?_
            refine g_goto (pc := 201) C 140 dX8_spoilSheet_201 (by decide) ?_
            exact g_sub [4, 5, 6, 7, 1, 0] rfl (ih s6 (x4 + 0) (x5 + 1) hf)
          · replace hf := (if_neg q7).symm.trans hf
            refine g_iconst (pc := 190) C dX8_spoilSheet_190 ic_1 ?_
            refine g_goto (pc := 191) C 195 dX8_spoilSheet_191 (by decide) ?_
            refine g_iadd (pc := 195) C dX8_spoilSheet_195 ?_
            refine g_istore (pc := 196) C [(4, .int (x4 + 1)), (7, .int r6), (6, .int r3), (0, .ref (b 0)), (1, .int x1), (2, .int x2), (3, .int x3), (5, .int x5)] dX8_spoilSheet_196 (by decide) rfl ?_
            refine g_iinc (pc := 198) C [(5, .int (x5 + 1)), (4, .int (x4 + 1)), (7, .int r6), (6, .int r3), (0, .ref (b 0)), (1, .int x1), (2, .int x2), (3, .int x3)] 7 dX8_spoilSheet_198 rfl ic_1 (by decide) rfl ?_
            refine g_goto (pc := 201) C 140 dX8_spoilSheet_201 (by decide) ?_
            exact g_sub [4, 5, 6, 7, 1, 0] rfl (ih s6 (x4 + 1) (x5 + 1) hf)
  have b42 : ∀ (n : Nat) (σ : Me) (x4 : Int32) (x5 : Int32) (hf : f_X8_spoilSheet_42 n σ x1 x2 x3 x4 x5 = some (σ', r)), Gg p l e (rmd 3) s m args below meth c D (Pm b) (wm cJ b) 8 0 0 (MQ below ((qI D (wm cJ b) (Pm b) σ' r) s.heap.size) args s 0 0 (fR (Pm b) s.heap.size)) σ [(0, .ref (b 0)), (1, .int x1), (2, .int x2), (3, .int x3), (4, .int x4), (5, .int x5)] 42 [] := by
    intro n
    induction n with
    | zero => intro σ x4 x5 hf; exact absurd hf (by simp [f_X8_spoilSheet_42])
    | succ n ih =>
      intro σ x4 x5 hf
      rw [f_X8_spoilSheet_42] at hf
      refine g_iload (pc := 42) C dX8_spoilSheet_42 5 rfl ?_
      refine g_aload_n (pc := 44) C dX8_spoilSheet_44 0 rfl rfl ?_
      refine g_get (pc := 45) C in_X8 wm_0 cl_X8 3 (by decide) tw_625 rfl dX8_spoilSheet_45 ?_
      refine g_iload_n (pc := 48) C dX8_spoilSheet_48 2 rfl rfl ?_
      obtain ⟨q8, hf⟩ := gd_some hf
      refine g_iald (pc := 49) C 3 wm_2 rfl q8 rfl dX8_spoilSheet_49 ?_
      refine g_icmp_ge (pc := 50) C 88 dX8_spoilSheet_50 (by decide) (fun q9 => ?_) (fun q9 => ?_)
      · replace hf := (if_pos q9).symm.trans hf
        refine g_iload_n (pc := 88) C dX8_spoilSheet_88 3 rfl rfl ?_
        refine g_aload_n (pc := 89) C dX8_spoilSheet_89 0 rfl rfl ?_
        refine g_get (pc := 90) C in_X8 wm_0 cl_X8 5 (by decide) tw_627 rfl dX8_spoilSheet_90 ?_
        refine g_iconst (pc := 93) C dX8_spoilSheet_93 ic_4 ?_
        refine g_iload_n (pc := 94) C dX8_spoilSheet_94 1 rfl rfl ?_
        refine g_imul (pc := 95) C dX8_spoilSheet_95 ?_
        refine g_iload_n (pc := 96) C dX8_spoilSheet_96 2 rfl rfl ?_
        refine g_iadd (pc := 97) C dX8_spoilSheet_97 ?_
        obtain ⟨q10, hf⟩ := gd_some hf
        refine g_iald (pc := 98) C 3 wm_4 rfl q10 rfl dX8_spoilSheet_98 ?_
        refine g_icmp_ge (pc := 99) C 107 dX8_spoilSheet_99 (by decide) (fun q11 => ?_) (fun q11 => ?_)
        · replace hf := (if_pos q11).symm.trans hf
          refine g_bipush (pc := 107) C dX8_spoilSheet_107 bp_m2 ?_
          cases hf
          exact g_iret (pc := 109) C hr dX8_spoilSheet_109
        · replace hf := (if_neg q11).symm.trans hf
          refine g_iload (pc := 102) C dX8_spoilSheet_102 4 rfl ?_
          refine g_if_ne (pc := 104) C 110 dX8_spoilSheet_104 (by decide) (fun q12 => ?_) (fun q12 => ?_)
          · replace hf := (if_neg q12).symm.trans hf
            refine g_aload_n (pc := 110) C dX8_spoilSheet_110 0 rfl rfl ?_
            refine g_get (pc := 111) C in_X8 wm_0 cl_X8 5 (by decide) tw_627 rfl dX8_spoilSheet_111 ?_
            refine g_bipush (pc := 114) C dX8_spoilSheet_114 bp_111 ?_
            refine g_iald (pc := 116) C 3 wm_4 rfl (by decide) tnn_111 dX8_spoilSheet_116 ?_
            refine g_iload (pc := 117) C dX8_spoilSheet_117 4 rfl ?_
            refine g_iadd (pc := 119) C dX8_spoilSheet_119 ?_
            refine g_aload_n (pc := 120) C dX8_spoilSheet_120 0 rfl rfl ?_
            refine g_get (pc := 121) C in_X8 wm_0 cl_X8 3 (by decide) tw_625 rfl dX8_spoilSheet_121 ?_
            refine g_bipush (pc := 124) C dX8_spoilSheet_124 bp_24 ?_
            refine g_iald (pc := 126) C 3 wm_2 rfl (by decide) tnn_24 dX8_spoilSheet_126 ?_
            refine g_icmp_le (pc := 127) C 133 dX8_spoilSheet_127 (by decide) (fun q15 => ?_) (fun q15 => ?_)
            · replace hf := (if_pos q15).symm.trans hf
              refine g_aload_n (pc := 133) C dX8_spoilSheet_133 0 rfl rfl ?_
              obtain ⟨s16, h16, hf⟩ := bd_some hf
              refine g_cVv (pc := 134) C (st := []) jW.rf (c_X8_note1 l D hw h16) y_X8_note1 tw_739 rfl ⟨by decide, by decide⟩ ⟨Nat.zero_le _, Nat.zero_le _⟩ (Nat.le_of_ble_eq_true rfl) wm_0 cl_X8 rfl dX8_spoilSheet_134 rfl ?_
              refine g_iconst (pc := 137) C dX8_spoilSheet_137 ic_0 ?_
              refine g_istore (pc := 138) C [(5, .int 0), (0, .ref (b 0)), (1, .int x1), (2, .int x2), (3, .int x3), (4, .int x4)] dX8_spoilSheet_138 (by decide) rfl ?_
              exact g_sub [1, 2, 3, 4, 5, 0] rfl (b140 1000 s16 x4 0 hf)
            · replace hf := (if_neg q15).symm.trans hf
              refine g_bipush (pc := 130) C dX8_spoilSheet_130 bp_m3 ?_
              cases hf
              exact g_iret (pc := 132) C hr dX8_spoilSheet_132
          · replace hf := (if_pos q12).symm.trans hf
            refine g_bipush (pc := 107) C dX8_spoilSheet_107 bp_m2 ?_
            cases hf
            exact g_iret (pc := 109) C hr dX8_spoilSheet_109
      · replace hf := (if_neg q9).symm.trans hf
        refine g_iload (pc := 53) C dX8_spoilSheet_53 4 rfl ?_
        refine g_aload_n (pc := 55) C dX8_spoilSheet_55 0 rfl rfl ?_
        refine g_iload_n (pc := 56) C dX8_spoilSheet_56 1 rfl rfl ?_
        refine g_aload_n (pc := 57) C dX8_spoilSheet_57 0 rfl rfl ?_
        refine g_iload_n (pc := 58) C dX8_spoilSheet_58 1 rfl rfl ?_
        refine g_iload_n (pc := 59) C dX8_spoilSheet_59 2 rfl rfl ?_
        refine g_iload_n (pc := 60) C dX8_spoilSheet_60 3 rfl rfl ?_
        refine g_iload (pc := 61) C dX8_spoilSheet_61 5 rfl ?_
        obtain ⟨r17, h17, hf⟩ := bd_some hf
        refine g_cVi (pc := 63) C (st := [.int x1, .ref (b 0), .int x4]) jW.rf (c_X8_numberAt l D hw h17) y_X8_numberAt tw_779 rfl ⟨by decide, by decide⟩ ⟨Nat.zero_le _, Nat.zero_le _⟩ (Nat.le_of_ble_eq_true rfl) wm_0 cl_X8 rfl dX8_spoilSheet_63 rfl ?_
        obtain ⟨r18, h18, hf⟩ := bd_some hf
        refine g_cVi (pc := 66) C (st := [.int x4]) jW.rf (c_X8_starAt l D hw h18) y_X8_starAt tw_767 rfl ⟨by decide, by decide⟩ ⟨Nat.zero_le _, Nat.zero_le _⟩ (Nat.le_of_ble_eq_true rfl) wm_0 cl_X8 rfl dX8_spoilSheet_66 rfl ?_
        refine g_bipush (pc := 69) C dX8_spoilSheet_69 bp_m4 ?_
        refine g_icmp_ne (pc := 71) C 78 dX8_spoilSheet_71 (by decide) (fun q19 => ?_) (fun q19 => ?_)
        · replace hf := (if_neg q19).symm.trans hf
          refine g_iconst (pc := 78) C dX8_spoilSheet_78 ic_0 ?_
          refine g_iadd (pc := 79) C dX8_spoilSheet_79 ?_
          refine g_istore (pc := 80) C [(4, .int (x4 + 0)), (0, .ref (b 0)), (1, .int x1), (2, .int x2), (3, .int x3), (5, .int x5)] dX8_spoilSheet_80 (by decide) rfl ?_
          refine g_iinc (pc := 82) C [(5, .int (x5 + 1)), (4, .int (x4 + 0)), (0, .ref (b 0)), (1, .int x1), (2, .int x2), (3, .int x3)] 5 dX8_spoilSheet_82 rfl ic_1 (by decide) rfl ?_
          refine g_goto (pc := 85) C 42 dX8_spoilSheet_85 (by decide) ?_
          exact g_sub [2, 3, 4, 5, 1, 0] rfl (ih σ (x4 + 0) (x5 + 1) hf)
        · replace hf := (if_pos q19).symm.trans hf
          refine g_iconst (pc := 74) C dX8_spoilSheet_74 ic_1 ?_
          refine g_goto (pc := 75) C 79 dX8_spoilSheet_75 (by decide) ?_
          refine g_iadd (pc := 79) C dX8_spoilSheet_79 ?_
          refine g_istore (pc := 80) C [(4, .int (x4 + 1)), (0, .ref (b 0)), (1, .int x1), (2, .int x2), (3, .int x3), (5, .int x5)] dX8_spoilSheet_80 (by decide) rfl ?_
          refine g_iinc (pc := 82) C [(5, .int (x5 + 1)), (4, .int (x4 + 1)), (0, .ref (b 0)), (1, .int x1), (2, .int x2), (3, .int x3)] 5 dX8_spoilSheet_82 rfl ic_1 (by decide) rfl ?_
          refine g_goto (pc := 85) C 42 dX8_spoilSheet_85 (by decide) ?_
          exact g_sub [2, 3, 4, 5, 1, 0] rfl (ih σ (x4 + 1) (x5 + 1) hf)
  unfold f_X8_spoilSheet at hf
  refine g_aload_n (pc := 0) C dX8_spoilSheet_0 0 rfl rfl ?_
  refine g_iload_n (pc := 1) C dX8_spoilSheet_1 1 rfl rfl ?_
  obtain ⟨r20, h20, hf⟩ := bd_some hf
  refine g_cVi (pc := 2) C (st := []) jW.rf (c_X8_isSeries l D hw h20) y_X8_isSeries tw_701 rfl ⟨by decide, by decide⟩ ⟨Nat.zero_le _, Nat.zero_le _⟩ (Nat.le_of_ble_eq_true rfl) wm_0 cl_X8 rfl dX8_spoilSheet_2 rfl ?_
  refine g_if_eq (pc := 5) C 34 dX8_spoilSheet_5 (by decide) (fun q21 => ?_) (fun q21 => ?_)
  · replace hf := (if_pos q21).symm.trans hf
    refine g_iconst (pc := 34) C dX8_spoilSheet_34 ic_m1 ?_
    cases hf
    exact g_iret (pc := 35) C hr dX8_spoilSheet_35
  · replace hf := (if_neg q21).symm.trans hf
    refine g_aload_n (pc := 8) C dX8_spoilSheet_8 0 rfl rfl ?_
    refine g_iload_n (pc := 9) C dX8_spoilSheet_9 2 rfl rfl ?_
    obtain ⟨r22, h22, hf⟩ := bd_some hf
    refine g_cVi (pc := 10) C (st := []) jW.rf (c_X8_isPress l D hw h22) y_X8_isPress tw_730 rfl ⟨by decide, by decide⟩ ⟨Nat.zero_le _, Nat.zero_le _⟩ (Nat.le_of_ble_eq_true rfl) wm_0 cl_X8 rfl dX8_spoilSheet_10 rfl ?_
    refine g_if_eq (pc := 13) C 34 dX8_spoilSheet_13 (by decide) (fun q23 => ?_) (fun q23 => ?_)
    · replace hf := (if_pos q23).symm.trans hf
      refine g_iconst (pc := 34) C dX8_spoilSheet_34 ic_m1 ?_
      cases hf
      exact g_iret (pc := 35) C hr dX8_spoilSheet_35
    · replace hf := (if_neg q23).symm.trans hf
      refine g_iload_n (pc := 16) C dX8_spoilSheet_16 3 rfl rfl ?_
      refine g_i2l (pc := 17) C dX8_spoilSheet_17 ?_
      refine g_lconst (pc := 18) C dX8_spoilSheet_18 lc_0 ?_
      refine g_aload_n (pc := 19) C dX8_spoilSheet_19 0 rfl rfl ?_
      refine g_iload_n (pc := 20) C dX8_spoilSheet_20 1 rfl rfl ?_
      refine g_iload_n (pc := 21) C dX8_spoilSheet_21 2 rfl rfl ?_
      obtain ⟨r24, h24, hf⟩ := bd_some hf
      refine g_cVi (pc := 22) C (st := [.long 0, .long x3.toInt64]) jW.rf (c_X8_sheets l D hw h24) y_X8_sheets tw_735 rfl ⟨by decide, by decide⟩ ⟨Nat.zero_le _, Nat.zero_le _⟩ (Nat.le_of_ble_eq_true rfl) wm_0 cl_X8 rfl dX8_spoilSheet_22 rfl ?_
      refine g_iconst (pc := 25) C dX8_spoilSheet_25 ic_1 ?_
      refine g_isub (pc := 26) C dX8_spoilSheet_26 ?_
      refine g_i2l (pc := 27) C dX8_spoilSheet_27 ?_
      obtain ⟨r25, h25, hf⟩ := bd_some hf
      refine g_cSi (pc := 28) C (st := []) jW.rf (c_X8_in l D hw h25) y_X8_in tw_653 rfl ⟨by decide, by decide⟩ ⟨Nat.zero_le _, Nat.zero_le _⟩ (Nat.le_of_ble_eq_true rfl) dX8_spoilSheet_28 rfl ?_
      refine g_if_ne (pc := 31) C 36 dX8_spoilSheet_31 (by decide) (fun q26 => ?_) (fun q26 => ?_)
      · replace hf := (if_neg q26).symm.trans hf
        refine g_iconst (pc := 36) C dX8_spoilSheet_36 ic_0 ?_
        refine g_istore (pc := 37) C [(4, .int 0), (0, .ref (b 0)), (1, .int x1), (2, .int x2), (3, .int x3)] dX8_spoilSheet_37 (by decide) rfl ?_
        refine g_iconst (pc := 39) C dX8_spoilSheet_39 ic_0 ?_
        refine g_istore (pc := 40) C [(5, .int 0), (4, .int 0), (0, .ref (b 0)), (1, .int x1), (2, .int x2), (3, .int x3)] dX8_spoilSheet_40 (by decide) rfl ?_
        exact g_sub [2, 3, 4, 5, 1, 0] rfl (b42 1000 σ 0 0 hf)
      · replace hf := (if_pos q26).symm.trans hf
        refine g_iconst (pc := 34) C dX8_spoilSheet_34 ic_m1 ?_
        cases hf
        exact g_iret (pc := 35) C hr dX8_spoilSheet_35

set_option maxHeartbeats 4000000 in
set_option maxRecDepth 100000 in
theorem c_X8_printed (l : Launch) (D : va_G) {cI cH cE cJ : ClassId} {b : Nat → Nat} (hw : ∀ σ, va_D (Pm b) (wm cJ b σ)) {σ : Me} {x1 : Int32} {r : Int32} (hf : f_X8_printed σ x1 = some r) : Mq l D (tyc cI cH cE cJ) (wm cJ b) (Pm b) yX8_printed cX8_printed 4 (Option.some Jvm.ClassFile.FieldType.int) 0 [.ref (b 0), .int x1] σ (qI D (wm cJ b) (Pm b) σ r) := by
  refine mOf (plainFor_of_name (by decide)) hw (Nat.le_of_ble_eq_true rfl) [(0, .ref (b 0)), (1, .int x1)] rfl ?_
  intro p e s m args below meth c C hr
  have b4 : ∀ (n : Nat) (x2 : Int32) (x3 : Int32) (hf : f_X8_printed_4 n σ x1 x2 x3 = some r), Gg p l e (rmd 0) s m args below meth c D (Pm b) (wm cJ b) 4 0 0 (MQ below ((qI D (wm cJ b) (Pm b) σ r) s.heap.size) args s 0 0 (fR (Pm b) s.heap.size)) σ [(0, .ref (b 0)), (1, .int x1), (2, .int x2), (3, .int x3)] 4 [] := by
    intro n
    induction n with
    | zero => intro x2 x3 hf; exact absurd hf (by simp [f_X8_printed_4])
    | succ n ih =>
      intro x2 x3 hf
      rw [f_X8_printed_4] at hf
      refine g_iload_n (pc := 4) C dX8_printed_4 3 rfl rfl ?_
      refine g_aload_n (pc := 5) C dX8_printed_5 0 rfl rfl ?_
      refine g_get (pc := 6) C in_X8 wm_0 cl_X8 3 (by decide) tw_625 rfl dX8_printed_6 ?_
      refine g_bipush (pc := 9) C dX8_printed_9 bp_22 ?_
      refine g_iald (pc := 11) C 3 wm_2 rfl (by decide) tnn_22 dX8_printed_11 ?_
      refine g_icmp_ge (pc := 12) C 41 dX8_printed_12 (by decide) (fun q2 => ?_) (fun q2 => ?_)
      · replace hf := (if_pos q2).symm.trans hf
        refine g_iload_n (pc := 41) C dX8_printed_41 2 rfl rfl ?_
        cases hf
        exact g_iret (pc := 42) C hr dX8_printed_42
      · replace hf := (if_neg q2).symm.trans hf
        refine g_iload_n (pc := 15) C dX8_printed_15 2 rfl rfl ?_
        refine g_aload_n (pc := 16) C dX8_printed_16 0 rfl rfl ?_
        refine g_get (pc := 17) C in_X8 wm_0 cl_X8 5 (by decide) tw_627 rfl dX8_printed_17 ?_
        refine g_iconst (pc := 20) C dX8_printed_20 ic_4 ?_
        refine g_iload_n (pc := 21) C dX8_printed_21 1 rfl rfl ?_
        refine g_imul (pc := 22) C dX8_printed_22 ?_
        refine g_iload_n (pc := 23) C dX8_printed_23 3 rfl rfl ?_
        refine g_iadd (pc := 24) C dX8_printed_24 ?_
        obtain ⟨q3, hf⟩ := gd_some hf
        refine g_iald (pc := 25) C 3 wm_4 rfl q3 rfl dX8_printed_25 ?_
        refine g_aload_n (pc := 26) C dX8_printed_26 0 rfl rfl ?_
        refine g_get (pc := 27) C in_X8 wm_0 cl_X8 3 (by decide) tw_625 rfl dX8_printed_27 ?_
        refine g_iload_n (pc := 30) C dX8_printed_30 3 rfl rfl ?_
        obtain ⟨q4, hf⟩ := gd_some hf
        refine g_iald (pc := 31) C 3 wm_2 rfl q4 rfl dX8_printed_31 ?_
        refine g_imul (pc := 32) C dX8_printed_32 ?_
        refine g_iadd (pc := 33) C dX8_printed_33 ?_
        refine g_istore_n (pc := 34) C [(2, .int (x2 + ((σ 4 ((4 * x1) + x3).toNatClampNeg) * (σ 2 x3.toNatClampNeg)))), (0, .ref (b 0)), (1, .int x1), (3, .int x3)] dX8_printed_34 rfl (by decide) rfl ?_
        refine g_iinc (pc := 35) C [(3, .int (x3 + 1)), (2, .int (x2 + ((σ 4 ((4 * x1) + x3).toNatClampNeg) * (σ 2 x3.toNatClampNeg)))), (0, .ref (b 0)), (1, .int x1)] 3 dX8_printed_35 rfl ic_1 (by decide) rfl ?_
        refine g_goto (pc := 38) C 4 dX8_printed_38 (by decide) ?_
        exact g_sub [2, 3, 1, 0] rfl (ih (x2 + ((σ 4 ((4 * x1) + x3).toNatClampNeg) * (σ 2 x3.toNatClampNeg))) (x3 + 1) hf)
  unfold f_X8_printed at hf
  refine g_iconst (pc := 0) C dX8_printed_0 ic_0 ?_
  refine g_istore_n (pc := 1) C [(2, .int 0), (0, .ref (b 0)), (1, .int x1)] dX8_printed_1 rfl (by decide) rfl ?_
  refine g_iconst (pc := 2) C dX8_printed_2 ic_0 ?_
  refine g_istore_n (pc := 3) C [(3, .int 0), (2, .int 0), (0, .ref (b 0)), (1, .int x1)] dX8_printed_3 rfl (by decide) rfl ?_
  exact g_sub [2, 3, 1, 0] rfl (b4 1000 0 0 hf)

set_option maxHeartbeats 4000000 in
set_option maxRecDepth 100000 in
theorem c_X8_spoiled (l : Launch) (D : va_G) {cI cH cE cJ : ClassId} {b : Nat → Nat} (hw : ∀ σ, va_D (Pm b) (wm cJ b σ)) {σ : Me} {x1 : Int32} {r : Int32} (hf : f_X8_spoiled σ x1 = some r) : Mq l D (tyc cI cH cE cJ) (wm cJ b) (Pm b) yX8_spoiled cX8_spoiled 4 (Option.some Jvm.ClassFile.FieldType.int) 0 [.ref (b 0), .int x1] σ (qI D (wm cJ b) (Pm b) σ r) := by
  refine mOf (plainFor_of_name (by decide)) hw (Nat.le_of_ble_eq_true rfl) [(0, .ref (b 0)), (1, .int x1)] rfl ?_
  intro p e s m args below meth c C hr
  have b4 : ∀ (n : Nat) (x2 : Int32) (x3 : Int32) (hf : f_X8_spoiled_4 n σ x1 x2 x3 = some r), Gg p l e (rmd 0) s m args below meth c D (Pm b) (wm cJ b) 4 0 0 (MQ below ((qI D (wm cJ b) (Pm b) σ r) s.heap.size) args s 0 0 (fR (Pm b) s.heap.size)) σ [(0, .ref (b 0)), (1, .int x1), (2, .int x2), (3, .int x3)] 4 [] := by
    intro n
    induction n with
    | zero => intro x2 x3 hf; exact absurd hf (by simp [f_X8_spoiled_4])
    | succ n ih =>
      intro x2 x3 hf
      rw [f_X8_spoiled_4] at hf
      refine g_iload_n (pc := 4) C dX8_spoiled_4 3 rfl rfl ?_
      refine g_aload_n (pc := 5) C dX8_spoiled_5 0 rfl rfl ?_
      refine g_get (pc := 6) C in_X8 wm_0 cl_X8 5 (by decide) tw_627 rfl dX8_spoiled_6 ?_
      refine g_bipush (pc := 9) C dX8_spoiled_9 bp_111 ?_
      refine g_iald (pc := 11) C 3 wm_4 rfl (by decide) tnn_111 dX8_spoiled_11 ?_
      refine g_icmp_ge (pc := 12) C 46 dX8_spoiled_12 (by decide) (fun q2 => ?_) (fun q2 => ?_)
      · replace hf := (if_pos q2).symm.trans hf
        refine g_iload_n (pc := 46) C dX8_spoiled_46 2 rfl rfl ?_
        cases hf
        exact g_iret (pc := 47) C hr dX8_spoiled_47
      · replace hf := (if_neg q2).symm.trans hf
        refine g_iload_n (pc := 15) C dX8_spoiled_15 2 rfl rfl ?_
        refine g_aload_n (pc := 16) C dX8_spoiled_16 0 rfl rfl ?_
        refine g_get (pc := 17) C in_X8 wm_0 cl_X8 5 (by decide) tw_627 rfl dX8_spoiled_17 ?_
        refine g_bipush (pc := 20) C dX8_spoiled_20 bp_12 ?_
        refine g_iload_n (pc := 22) C dX8_spoiled_22 3 rfl rfl ?_
        refine g_iadd (pc := 23) C dX8_spoiled_23 ?_
        obtain ⟨q3, hf⟩ := gd_some hf
        refine g_iald (pc := 24) C 3 wm_4 rfl q3 rfl dX8_spoiled_24 ?_
        refine g_sipush (pc := 25) C dX8_spoiled_25 sp_1000 ?_
        refine g_idiv (pc := 28) C dX8_spoiled_28 (by decide) ?_
        refine g_iload_n (pc := 29) C dX8_spoiled_29 1 rfl rfl ?_
        refine g_icmp_ne (pc := 30) C 37 dX8_spoiled_30 (by decide) (fun q4 => ?_) (fun q4 => ?_)
        · replace hf := (if_neg q4).symm.trans hf
          refine g_iconst (pc := 37) C dX8_spoiled_37 ic_0 ?_
          refine g_iadd (pc := 38) C dX8_spoiled_38 ?_
          refine g_istore_n (pc := 39) C [(2, .int (x2 + 0)), (0, .ref (b 0)), (1, .int x1), (3, .int x3)] dX8_spoiled_39 rfl (by decide) rfl ?_
          refine g_iinc (pc := 40) C [(3, .int (x3 + 1)), (2, .int (x2 + 0)), (0, .ref (b 0)), (1, .int x1)] 3 dX8_spoiled_40 rfl ic_1 (by decide) rfl ?_
          refine g_goto (pc := 43) C 4 dX8_spoiled_43 (by decide) ?_
          exact g_sub [2, 3, 1, 0] rfl (ih (x2 + 0) (x3 + 1) hf)
        · replace hf := (if_pos q4).symm.trans hf
          refine g_iconst (pc := 33) C dX8_spoiled_33 ic_1 ?_
          refine g_goto (pc := 34) C 38 dX8_spoiled_34 (by decide) ?_
          refine g_iadd (pc := 38) C dX8_spoiled_38 ?_
          refine g_istore_n (pc := 39) C [(2, .int (x2 + 1)), (0, .ref (b 0)), (1, .int x1), (3, .int x3)] dX8_spoiled_39 rfl (by decide) rfl ?_
          refine g_iinc (pc := 40) C [(3, .int (x3 + 1)), (2, .int (x2 + 1)), (0, .ref (b 0)), (1, .int x1)] 3 dX8_spoiled_40 rfl ic_1 (by decide) rfl ?_
          refine g_goto (pc := 43) C 4 dX8_spoiled_43 (by decide) ?_
          exact g_sub [2, 3, 1, 0] rfl (ih (x2 + 1) (x3 + 1) hf)
  unfold f_X8_spoiled at hf
  refine g_iconst (pc := 0) C dX8_spoiled_0 ic_0 ?_
  refine g_istore_n (pc := 1) C [(2, .int 0), (0, .ref (b 0)), (1, .int x1)] dX8_spoiled_1 rfl (by decide) rfl ?_
  refine g_iconst (pc := 2) C dX8_spoiled_2 ic_0 ?_
  refine g_istore_n (pc := 3) C [(3, .int 0), (2, .int 0), (0, .ref (b 0)), (1, .int x1)] dX8_spoiled_3 rfl (by decide) rfl ?_
  exact g_sub [2, 3, 1, 0] rfl (b4 1000 0 0 hf)

set_option maxHeartbeats 4000000 in
set_option maxRecDepth 100000 in
theorem c_X8_leftOf (l : Launch) (D : va_G) {cI cH cE cJ : ClassId} {b : Nat → Nat} (hw : ∀ σ, va_D (Pm b) (wm cJ b σ)) {σ : Me} {x1 : Int32} {r : Int32} (hf : f_X8_leftOf σ x1 = some r) : Mq l D (tyc cI cH cE cJ) (wm cJ b) (Pm b) yX8_leftOf cX8_leftOf 4 (Option.some Jvm.ClassFile.FieldType.int) 1 [.ref (b 0), .int x1] σ (qI D (wm cJ b) (Pm b) σ r) := by
  refine mOf (plainFor_of_name (by decide)) hw (Nat.le_of_ble_eq_true rfl) [(0, .ref (b 0)), (1, .int x1)] rfl ?_
  intro p e s m args below meth c C hr
  have b4 : ∀ (n : Nat) (x2 : Int32) (x3 : Int32) (hf : f_X8_leftOf_4 n σ x1 x2 x3 = some r), Gg p l e (rmd 1) s m args below meth c D (Pm b) (wm cJ b) 4 0 0 (MQ below ((qI D (wm cJ b) (Pm b) σ r) s.heap.size) args s 0 0 (fR (Pm b) s.heap.size)) σ [(0, .ref (b 0)), (1, .int x1), (2, .int x2), (3, .int x3)] 4 [] := by
    intro n
    induction n with
    | zero => intro x2 x3 hf; exact absurd hf (by simp [f_X8_leftOf_4])
    | succ n ih =>
      intro x2 x3 hf
      rw [f_X8_leftOf_4] at hf
      refine g_iload_n (pc := 4) C dX8_leftOf_4 3 rfl rfl ?_
      refine g_aload_n (pc := 5) C dX8_leftOf_5 0 rfl rfl ?_
      refine g_get (pc := 6) C in_X8 wm_0 cl_X8 3 (by decide) tw_625 rfl dX8_leftOf_6 ?_
      refine g_bipush (pc := 9) C dX8_leftOf_9 bp_22 ?_
      refine g_iald (pc := 11) C 3 wm_2 rfl (by decide) tnn_22 dX8_leftOf_11 ?_
      refine g_icmp_ge (pc := 12) C 41 dX8_leftOf_12 (by decide) (fun q2 => ?_) (fun q2 => ?_)
      · replace hf := (if_pos q2).symm.trans hf
        refine g_iload_n (pc := 41) C dX8_leftOf_41 2 rfl rfl ?_
        cases hf
        exact g_iret (pc := 42) C hr dX8_leftOf_42
      · replace hf := (if_neg q2).symm.trans hf
        refine g_iload_n (pc := 15) C dX8_leftOf_15 2 rfl rfl ?_
        refine g_aload_n (pc := 16) C dX8_leftOf_16 0 rfl rfl ?_
        refine g_iload_n (pc := 17) C dX8_leftOf_17 1 rfl rfl ?_
        refine g_iload_n (pc := 18) C dX8_leftOf_18 3 rfl rfl ?_
        obtain ⟨r3, h3, hf⟩ := bd_some hf
        refine g_cVi (pc := 19) C (st := [.int x2]) jW.rf (c_X8_sheets l D hw h3) y_X8_sheets tw_735 rfl ⟨by decide, by decide⟩ ⟨Nat.zero_le _, Nat.zero_le _⟩ (Nat.le_of_ble_eq_true rfl) wm_0 cl_X8 rfl dX8_leftOf_19 rfl ?_
        refine g_aload_n (pc := 22) C dX8_leftOf_22 0 rfl rfl ?_
        refine g_get (pc := 23) C in_X8 wm_0 cl_X8 5 (by decide) tw_627 rfl dX8_leftOf_23 ?_
        refine g_iconst (pc := 26) C dX8_leftOf_26 ic_4 ?_
        refine g_iload_n (pc := 27) C dX8_leftOf_27 1 rfl rfl ?_
        refine g_imul (pc := 28) C dX8_leftOf_28 ?_
        refine g_iload_n (pc := 29) C dX8_leftOf_29 3 rfl rfl ?_
        refine g_iadd (pc := 30) C dX8_leftOf_30 ?_
        obtain ⟨q4, hf⟩ := gd_some hf
        refine g_iald (pc := 31) C 3 wm_4 rfl q4 rfl dX8_leftOf_31 ?_
        refine g_isub (pc := 32) C dX8_leftOf_32 ?_
        refine g_iadd (pc := 33) C dX8_leftOf_33 ?_
        refine g_istore_n (pc := 34) C [(2, .int (x2 + (r3 - (σ 4 ((4 * x1) + x3).toNatClampNeg)))), (0, .ref (b 0)), (1, .int x1), (3, .int x3)] dX8_leftOf_34 rfl (by decide) rfl ?_
        refine g_iinc (pc := 35) C [(3, .int (x3 + 1)), (2, .int (x2 + (r3 - (σ 4 ((4 * x1) + x3).toNatClampNeg)))), (0, .ref (b 0)), (1, .int x1)] 3 dX8_leftOf_35 rfl ic_1 (by decide) rfl ?_
        refine g_goto (pc := 38) C 4 dX8_leftOf_38 (by decide) ?_
        exact g_sub [2, 3, 1, 0] rfl (ih (x2 + (r3 - (σ 4 ((4 * x1) + x3).toNatClampNeg))) (x3 + 1) hf)
  unfold f_X8_leftOf at hf
  refine g_iconst (pc := 0) C dX8_leftOf_0 ic_0 ?_
  refine g_istore_n (pc := 1) C [(2, .int 0), (0, .ref (b 0)), (1, .int x1)] dX8_leftOf_1 rfl (by decide) rfl ?_
  refine g_iconst (pc := 2) C dX8_leftOf_2 ic_0 ?_
  refine g_istore_n (pc := 3) C [(3, .int 0), (2, .int 0), (0, .ref (b 0)), (1, .int x1)] dX8_leftOf_3 rfl (by decide) rfl ?_
  exact g_sub [2, 3, 1, 0] rfl (b4 1000 0 0 hf)

set_option maxHeartbeats 4000000 in
set_option maxRecDepth 100000 in
theorem c_X8_packs (l : Launch) (D : va_G) {cI cH cE cJ : ClassId} {b : Nat → Nat} (hw : ∀ σ, va_D (Pm b) (wm cJ b σ)) {σ : Me} {x1 : Int32} {r : Int32} (hf : f_X8_packs σ x1 = some r) : Mq l D (tyc cI cH cE cJ) (wm cJ b) (Pm b) yX8_packs cX8_packs 2 (Option.some Jvm.ClassFile.FieldType.int) 1 [.ref (b 0), .int x1] σ (qI D (wm cJ b) (Pm b) σ r) := by
  refine mOf (plainFor_of_name (by decide)) hw (Nat.le_of_ble_eq_true rfl) [(0, .ref (b 0)), (1, .int x1)] rfl ?_
  intro p e s m args below meth c C hr
  unfold f_X8_packs at hf
  refine g_aload_n (pc := 0) C dX8_packs_0 0 rfl rfl ?_
  refine g_get (pc := 1) C in_X8 wm_0 cl_X8 3 (by decide) tw_625 rfl dX8_packs_1 ?_
  refine g_iload_n (pc := 4) C dX8_packs_4 1 rfl rfl ?_
  obtain ⟨r1, h1, hf⟩ := bd_some hf
  refine g_cSi (pc := 5) C (st := []) jW.rf (c_X8_whole_2 l D hw h1) y_X8_whole tw_688 rfl ⟨by decide, by decide⟩ ⟨Nat.zero_le _, Nat.zero_le _⟩ (Nat.le_of_ble_eq_true rfl) dX8_packs_5 rfl ?_
  refine g_bipush (pc := 8) C dX8_packs_8 bp_9 ?_
  refine g_iadd (pc := 10) C dX8_packs_10 ?_
  refine g_bipush (pc := 11) C dX8_packs_11 bp_10 ?_
  refine g_idiv (pc := 13) C dX8_packs_13 (by decide) ?_
  cases hf
  exact g_iret (pc := 14) C hr dX8_packs_14

set_option maxHeartbeats 4000000 in
set_option maxRecDepth 100000 in
theorem c_X8_isWhole (l : Launch) (D : va_G) {cI cH cE cJ : ClassId} {b : Nat → Nat} (hw : ∀ σ, va_D (Pm b) (wm cJ b σ)) {σ : Me} {x1 : Int32} {x2 : Int32} {r : Bool} (hf : f_X8_isWhole σ x1 x2 = some r) : Mq l D (tyc cI cH cE cJ) (wm cJ b) (Pm b) yX8_isWhole cX8_isWhole 4 (Option.some Jvm.ClassFile.FieldType.boolean) 5 [.ref (b 0), .int x1, .int x2] σ (qI D (wm cJ b) (Pm b) σ (bI r)) := by
  refine mOf (plainFor_of_name (by decide)) hw (Nat.le_of_ble_eq_true rfl) [(0, .ref (b 0)), (1, .int x1), (2, .int x2)] rfl ?_
  intro p e s m args below meth c C hr
  have b5 : ∀ (n : Nat) (x3 : Int32) (hf : f_X8_isWhole_5 n σ x1 x2 x3 = some r), Gg p l e (rmd 5) s m args below meth c D (Pm b) (wm cJ b) 4 0 0 (MQ below ((qI D (wm cJ b) (Pm b) σ (bI r)) s.heap.size) args s 0 0 (fR (Pm b) s.heap.size)) σ [(0, .ref (b 0)), (1, .int x1), (2, .int x2), (3, .int x3)] 5 [] := by
    intro n
    induction n with
    | zero => intro x3 hf; exact absurd hf (by simp [f_X8_isWhole_5])
    | succ n ih =>
      intro x3 hf
      rw [f_X8_isWhole_5] at hf
      refine g_iload_n (pc := 5) C dX8_isWhole_5 3 rfl rfl ?_
      refine g_bipush (pc := 6) C dX8_isWhole_6 bp_10 ?_
      refine g_iload_n (pc := 8) C dX8_isWhole_8 2 rfl rfl ?_
      refine g_imul (pc := 9) C dX8_isWhole_9 ?_
      refine g_bipush (pc := 10) C dX8_isWhole_10 bp_10 ?_
      refine g_iadd (pc := 12) C dX8_isWhole_12 ?_
      refine g_icmp_ge (pc := 13) C 45 dX8_isWhole_13 (by decide) (fun q1 => ?_) (fun q1 => ?_)
      · replace hf := (if_pos q1).symm.trans hf
        refine g_iconst (pc := 45) C dX8_isWhole_45 ic_1 ?_
        cases hf
        exact g_zret (pc := 46) (b := true) C hr dX8_isWhole_46
      · replace hf := (if_neg q1).symm.trans hf
        refine g_iload_n (pc := 16) C dX8_isWhole_16 3 rfl rfl ?_
        refine g_aload_n (pc := 17) C dX8_isWhole_17 0 rfl rfl ?_
        refine g_get (pc := 18) C in_X8 wm_0 cl_X8 3 (by decide) tw_625 rfl dX8_isWhole_18 ?_
        refine g_iload_n (pc := 21) C dX8_isWhole_21 1 rfl rfl ?_
        obtain ⟨r2, h2, hf⟩ := bd_some hf
        refine g_cSi (pc := 22) C (st := [.int x3]) jW.rf (c_X8_whole_2 l D hw h2) y_X8_whole tw_688 rfl ⟨by decide, by decide⟩ ⟨Nat.zero_le _, Nat.zero_le _⟩ (Nat.le_of_ble_eq_true rfl) dX8_isWhole_22 rfl ?_
        refine g_icmp_ge (pc := 25) C 45 dX8_isWhole_25 (by decide) (fun q3 => ?_) (fun q3 => ?_)
        · replace hf := (if_pos q3).symm.trans hf
          refine g_iconst (pc := 45) C dX8_isWhole_45 ic_1 ?_
          cases hf
          exact g_zret (pc := 46) (b := true) C hr dX8_isWhole_46
        · replace hf := (if_neg q3).symm.trans hf
          refine g_aload_n (pc := 28) C dX8_isWhole_28 0 rfl rfl ?_
          refine g_iload_n (pc := 29) C dX8_isWhole_29 1 rfl rfl ?_
          refine g_iload_n (pc := 30) C dX8_isWhole_30 3 rfl rfl ?_
          obtain ⟨r4, h4, hf⟩ := bd_some hf
          refine g_cVi (pc := 31) C (st := []) jW.rf (c_X8_isPrinted l D hw h4) y_X8_isPrinted tw_751 rfl ⟨by decide, by decide⟩ ⟨Nat.zero_le _, Nat.zero_le _⟩ (Nat.le_of_ble_eq_true rfl) wm_0 cl_X8 rfl dX8_isWhole_31 rfl ?_
          refine g_if_ne (pc := 34) C 39 dX8_isWhole_34 (by decide) (fun q5 => ?_) (fun q5 => ?_)
          · replace hf := (if_neg q5).symm.trans hf
            refine g_iinc (pc := 39) C [(3, .int (x3 + 1)), (0, .ref (b 0)), (1, .int x1), (2, .int x2)] 3 dX8_isWhole_39 rfl ic_1 (by decide) rfl ?_
            refine g_goto (pc := 42) C 5 dX8_isWhole_42 (by decide) ?_
            exact g_sub [1, 2, 3, 0] rfl (ih (x3 + 1) hf)
          · replace hf := (if_pos q5).symm.trans hf
            refine g_iconst (pc := 37) C dX8_isWhole_37 ic_0 ?_
            cases hf
            exact g_zret (pc := 38) (b := false) C hr dX8_isWhole_38
  unfold f_X8_isWhole at hf
  refine g_bipush (pc := 0) C dX8_isWhole_0 bp_10 ?_
  refine g_iload_n (pc := 2) C dX8_isWhole_2 2 rfl rfl ?_
  refine g_imul (pc := 3) C dX8_isWhole_3 ?_
  refine g_istore_n (pc := 4) C [(3, .int (10 * x2)), (0, .ref (b 0)), (1, .int x1), (2, .int x2)] dX8_isWhole_4 rfl (by decide) rfl ?_
  exact g_sub [1, 2, 3, 0] rfl (b5 1000 (10 * x2) hf)

set_option maxHeartbeats 4000000 in
set_option maxRecDepth 100000 in
theorem c_X8_wholes (l : Launch) (D : va_G) {cI cH cE cJ : ClassId} {b : Nat → Nat} (hw : ∀ σ, va_D (Pm b) (wm cJ b σ)) {σ : Me} {x1 : Int32} {r : Int32} (hf : f_X8_wholes σ x1 = some r) : Mq l D (tyc cI cH cE cJ) (wm cJ b) (Pm b) yX8_wholes cX8_wholes 4 (Option.some Jvm.ClassFile.FieldType.int) 6 [.ref (b 0), .int x1] σ (qI D (wm cJ b) (Pm b) σ r) := by
  refine mOf (plainFor_of_name (by decide)) hw (Nat.le_of_ble_eq_true rfl) [(0, .ref (b 0)), (1, .int x1)] rfl ?_
  intro p e s m args below meth c C hr
  have b4 : ∀ (n : Nat) (x2 : Int32) (x3 : Int32) (hf : f_X8_wholes_4 n σ x1 x2 x3 = some r), Gg p l e (rmd 6) s m args below meth c D (Pm b) (wm cJ b) 4 0 0 (MQ below ((qI D (wm cJ b) (Pm b) σ r) s.heap.size) args s 0 0 (fR (Pm b) s.heap.size)) σ [(0, .ref (b 0)), (1, .int x1), (2, .int x2), (3, .int x3)] 4 [] := by
    intro n
    induction n with
    | zero => intro x2 x3 hf; exact absurd hf (by simp [f_X8_wholes_4])
    | succ n ih =>
      intro x2 x3 hf
      rw [f_X8_wholes_4] at hf
      refine g_iload_n (pc := 4) C dX8_wholes_4 3 rfl rfl ?_
      refine g_aload_n (pc := 5) C dX8_wholes_5 0 rfl rfl ?_
      refine g_iload_n (pc := 6) C dX8_wholes_6 1 rfl rfl ?_
      obtain ⟨r1, h1, hf⟩ := bd_some hf
      refine g_cVi (pc := 7) C (st := [.int x3]) jW.rf (c_X8_packs l D hw h1) y_X8_packs tw_800 rfl ⟨by decide, by decide⟩ ⟨Nat.zero_le _, Nat.zero_le _⟩ (Nat.le_of_ble_eq_true rfl) wm_0 cl_X8 rfl dX8_wholes_7 rfl ?_
      refine g_icmp_ge (pc := 10) C 36 dX8_wholes_10 (by decide) (fun q2 => ?_) (fun q2 => ?_)
      · replace hf := (if_pos q2).symm.trans hf
        refine g_iload_n (pc := 36) C dX8_wholes_36 2 rfl rfl ?_
        cases hf
        exact g_iret (pc := 37) C hr dX8_wholes_37
      · replace hf := (if_neg q2).symm.trans hf
        refine g_iload_n (pc := 13) C dX8_wholes_13 2 rfl rfl ?_
        refine g_aload_n (pc := 14) C dX8_wholes_14 0 rfl rfl ?_
        refine g_iload_n (pc := 15) C dX8_wholes_15 1 rfl rfl ?_
        refine g_iload_n (pc := 16) C dX8_wholes_16 3 rfl rfl ?_
        obtain ⟨r3, h3, hf⟩ := bd_some hf
        refine g_cVi (pc := 17) C (st := [.int x2]) jW.rf (c_X8_isWhole l D hw h3) y_X8_isWhole tw_808 rfl ⟨by decide, by decide⟩ ⟨Nat.zero_le _, Nat.zero_le _⟩ (Nat.le_of_ble_eq_true rfl) wm_0 cl_X8 rfl dX8_wholes_17 rfl ?_
        refine g_if_eq (pc := 20) C 27 dX8_wholes_20 (by decide) (fun q4 => ?_) (fun q4 => ?_)
        · replace hf := (if_pos q4).symm.trans hf
          refine g_iconst (pc := 27) C dX8_wholes_27 ic_0 ?_
          refine g_iadd (pc := 28) C dX8_wholes_28 ?_
          refine g_istore_n (pc := 29) C [(2, .int (x2 + 0)), (0, .ref (b 0)), (1, .int x1), (3, .int x3)] dX8_wholes_29 rfl (by decide) rfl ?_
          refine g_iinc (pc := 30) C [(3, .int (x3 + 1)), (2, .int (x2 + 0)), (0, .ref (b 0)), (1, .int x1)] 3 dX8_wholes_30 rfl ic_1 (by decide) rfl ?_
          refine g_goto (pc := 33) C 4 dX8_wholes_33 (by decide) ?_
          exact g_sub [2, 3, 1, 0] rfl (ih (x2 + 0) (x3 + 1) hf)
        · replace hf := (if_neg q4).symm.trans hf
          refine g_iconst (pc := 23) C dX8_wholes_23 ic_1 ?_
          refine g_goto (pc := 24) C 28 dX8_wholes_24 (by decide) ?_
          refine g_iadd (pc := 28) C dX8_wholes_28 ?_
          refine g_istore_n (pc := 29) C [(2, .int (x2 + 1)), (0, .ref (b 0)), (1, .int x1), (3, .int x3)] dX8_wholes_29 rfl (by decide) rfl ?_
          refine g_iinc (pc := 30) C [(3, .int (x3 + 1)), (2, .int (x2 + 1)), (0, .ref (b 0)), (1, .int x1)] 3 dX8_wholes_30 rfl ic_1 (by decide) rfl ?_
          refine g_goto (pc := 33) C 4 dX8_wholes_33 (by decide) ?_
          exact g_sub [2, 3, 1, 0] rfl (ih (x2 + 1) (x3 + 1) hf)
  unfold f_X8_wholes at hf
  refine g_iconst (pc := 0) C dX8_wholes_0 ic_0 ?_
  refine g_istore_n (pc := 1) C [(2, .int 0), (0, .ref (b 0)), (1, .int x1)] dX8_wholes_1 rfl (by decide) rfl ?_
  refine g_iconst (pc := 2) C dX8_wholes_2 ic_0 ?_
  refine g_istore_n (pc := 3) C [(3, .int 0), (2, .int 0), (0, .ref (b 0)), (1, .int x1)] dX8_wholes_3 rfl (by decide) rfl ?_
  exact g_sub [2, 3, 1, 0] rfl (b4 1000 0 0 hf)

set_option maxHeartbeats 4000000 in
set_option maxRecDepth 100000 in
theorem c_X8_series (l : Launch) (D : va_G) {cI cH cE cJ : ClassId} {b : Nat → Nat} (hw : ∀ σ, va_D (Pm b) (wm cJ b σ)) {σ : Me} {x1 : Int32} {x2 : Int32} {r : Int32} (hf : f_X8_series σ x1 x2 = some r) : Mq l D (tyc cI cH cE cJ) (wm cJ b) (Pm b) yX8_series cX8_series 3 (Option.some Jvm.ClassFile.FieldType.int) 7 [.ref (b 0), .int x1, .int x2] σ (qI D (wm cJ b) (Pm b) σ r) := by
  refine mOf (plainFor_of_name (by decide)) hw (Nat.le_of_ble_eq_true rfl) [(0, .ref (b 0)), (1, .int x1), (2, .int x2)] rfl ?_
  intro p e s m args below meth c C hr
  unfold f_X8_series at hf
  refine g_aload_n (pc := 0) C dX8_series_0 0 rfl rfl ?_
  refine g_iload_n (pc := 1) C dX8_series_1 1 rfl rfl ?_
  obtain ⟨r1, h1, hf⟩ := bd_some hf
  refine g_cVi (pc := 2) C (st := []) jW.rf (c_X8_isSeries l D hw h1) y_X8_isSeries tw_701 rfl ⟨by decide, by decide⟩ ⟨Nat.zero_le _, Nat.zero_le _⟩ (Nat.le_of_ble_eq_true rfl) wm_0 cl_X8 rfl dX8_series_2 rfl ?_
  refine g_if_eq (pc := 5) C 20 dX8_series_5 (by decide) (fun q2 => ?_) (fun q2 => ?_)
  · replace hf := (if_pos q2).symm.trans hf
    refine g_iconst (pc := 20) C dX8_series_20 ic_m1 ?_
    cases hf
    exact g_iret (pc := 21) C hr dX8_series_21
  · replace hf := (if_neg q2).symm.trans hf
    refine g_iload_n (pc := 8) C dX8_series_8 2 rfl rfl ?_
    refine g_i2l (pc := 9) C dX8_series_9 ?_
    refine g_lconst (pc := 10) C dX8_series_10 lc_0 ?_
    refine g_ldc2 (pc := 11) C tw_787 dX8_series_11 ?_
    obtain ⟨r3, h3, hf⟩ := bd_some hf
    refine g_cSi (pc := 14) C (st := []) jW.rf (c_X8_in l D hw h3) y_X8_in tw_653 rfl ⟨by decide, by decide⟩ ⟨Nat.zero_le _, Nat.zero_le _⟩ (Nat.le_of_ble_eq_true rfl) dX8_series_14 rfl ?_
    refine g_if_ne (pc := 17) C 22 dX8_series_17 (by decide) (fun q4 => ?_) (fun q4 => ?_)
    · replace hf := (if_neg q4).symm.trans hf
      refine g_iload_n (pc := 22) C dX8_series_22 2 rfl rfl ?_
      by_cases q5 : x2 = 0
      · replace hf := (if_pos q5).symm.trans hf
        refine g_tabIn (pc := 23) C (off := 41) 64 dX8_series_23 (by rw [q5]; decide) (by rw [q5]; decide) (by rw [q5]; rfl) (by decide) ?_
        refine g_aload_n (pc := 64) C dX8_series_64 0 rfl rfl ?_
        refine g_get (pc := 65) C in_X8 wm_0 cl_X8 3 (by decide) tw_625 rfl dX8_series_65 ?_
        refine g_iconst (pc := 68) C dX8_series_68 ic_4 ?_
        refine g_bipush (pc := 69) C dX8_series_69 bp_6 ?_
        refine g_iload_n (pc := 71) C dX8_series_71 1 rfl rfl ?_
        refine g_imul (pc := 72) C dX8_series_72 ?_
        refine g_iadd (pc := 73) C dX8_series_73 ?_
        refine g_iload_n (pc := 74) C dX8_series_74 2 rfl rfl ?_
        refine g_iadd (pc := 75) C dX8_series_75 ?_
        obtain ⟨q6, hf⟩ := gd_some hf
        refine g_iald (pc := 76) C 3 wm_2 rfl q6 rfl dX8_series_76 ?_
        cases hf
        exact g_iret (pc := 77) C hr dX8_series_77
      replace hf := (if_neg q5).symm.trans hf
      by_cases q7 : x2 = 1
      · replace hf := (if_pos q7).symm.trans hf
        refine g_tabIn (pc := 23) C (off := 41) 64 dX8_series_23 (by rw [q7]; decide) (by rw [q7]; decide) (by rw [q7]; rfl) (by decide) ?_
        refine g_aload_n (pc := 64) C dX8_series_64 0 rfl rfl ?_
        refine g_get (pc := 65) C in_X8 wm_0 cl_X8 3 (by decide) tw_625 rfl dX8_series_65 ?_
        refine g_iconst (pc := 68) C dX8_series_68 ic_4 ?_
        refine g_bipush (pc := 69) C dX8_series_69 bp_6 ?_
        refine g_iload_n (pc := 71) C dX8_series_71 1 rfl rfl ?_
        refine g_imul (pc := 72) C dX8_series_72 ?_
        refine g_iadd (pc := 73) C dX8_series_73 ?_
        refine g_iload_n (pc := 74) C dX8_series_74 2 rfl rfl ?_
        refine g_iadd (pc := 75) C dX8_series_75 ?_
        obtain ⟨q8, hf⟩ := gd_some hf
        refine g_iald (pc := 76) C 3 wm_2 rfl q8 rfl dX8_series_76 ?_
        cases hf
        exact g_iret (pc := 77) C hr dX8_series_77
      replace hf := (if_neg q7).symm.trans hf
      by_cases q9 : x2 = 2
      · replace hf := (if_pos q9).symm.trans hf
        refine g_tabIn (pc := 23) C (off := 55) 78 dX8_series_23 (by rw [q9]; decide) (by rw [q9]; decide) (by rw [q9]; rfl) (by decide) ?_
        refine g_aload_n (pc := 78) C dX8_series_78 0 rfl rfl ?_
        refine g_get (pc := 79) C in_X8 wm_0 cl_X8 3 (by decide) tw_625 rfl dX8_series_79 ?_
        refine g_iload_n (pc := 82) C dX8_series_82 1 rfl rfl ?_
        obtain ⟨r10, h10, hf⟩ := bd_some hf
        refine g_cSi (pc := 83) C (st := []) jW.rf (c_X8_whole_2 l D hw h10) y_X8_whole tw_688 rfl ⟨by decide, by decide⟩ ⟨Nat.zero_le _, Nat.zero_le _⟩ (Nat.le_of_ble_eq_true rfl) dX8_series_83 rfl ?_
        cases hf
        exact g_iret (pc := 86) C hr dX8_series_86
      replace hf := (if_neg q9).symm.trans hf
      by_cases q11 : x2 = 3
      · replace hf := (if_pos q11).symm.trans hf
        refine g_tabIn (pc := 23) C (off := 64) 87 dX8_series_23 (by rw [q11]; decide) (by rw [q11]; decide) (by rw [q11]; rfl) (by decide) ?_
        refine g_aload_n (pc := 87) C dX8_series_87 0 rfl rfl ?_
        refine g_iload_n (pc := 88) C dX8_series_88 1 rfl rfl ?_
        obtain ⟨r12, h12, hf⟩ := bd_some hf
        refine g_cVi (pc := 89) C (st := []) jW.rf (c_X8_printed l D hw h12) y_X8_printed tw_788 rfl ⟨by decide, by decide⟩ ⟨Nat.zero_le _, Nat.zero_le _⟩ (Nat.le_of_ble_eq_true rfl) wm_0 cl_X8 rfl dX8_series_89 rfl ?_
        cases hf
        exact g_iret (pc := 92) C hr dX8_series_92
      replace hf := (if_neg q11).symm.trans hf
      by_cases q13 : x2 = 4
      · replace hf := (if_pos q13).symm.trans hf
        refine g_tabIn (pc := 23) C (off := 70) 93 dX8_series_23 (by rw [q13]; decide) (by rw [q13]; decide) (by rw [q13]; rfl) (by decide) ?_
        refine g_aload_n (pc := 93) C dX8_series_93 0 rfl rfl ?_
        refine g_iload_n (pc := 94) C dX8_series_94 1 rfl rfl ?_
        obtain ⟨r14, h14, hf⟩ := bd_some hf
        refine g_cVi (pc := 95) C (st := []) jW.rf (c_X8_spoiled l D hw h14) y_X8_spoiled tw_792 rfl ⟨by decide, by decide⟩ ⟨Nat.zero_le _, Nat.zero_le _⟩ (Nat.le_of_ble_eq_true rfl) wm_0 cl_X8 rfl dX8_series_95 rfl ?_
        cases hf
        exact g_iret (pc := 98) C hr dX8_series_98
      replace hf := (if_neg q13).symm.trans hf
      by_cases q15 : x2 = 5
      · replace hf := (if_pos q15).symm.trans hf
        refine g_tabIn (pc := 23) C (off := 76) 99 dX8_series_23 (by rw [q15]; decide) (by rw [q15]; decide) (by rw [q15]; rfl) (by decide) ?_
        refine g_aload_n (pc := 99) C dX8_series_99 0 rfl rfl ?_
        refine g_iload_n (pc := 100) C dX8_series_100 1 rfl rfl ?_
        obtain ⟨r16, h16, hf⟩ := bd_some hf
        refine g_cVi (pc := 101) C (st := []) jW.rf (c_X8_leftOf l D hw h16) y_X8_leftOf tw_796 rfl ⟨by decide, by decide⟩ ⟨Nat.zero_le _, Nat.zero_le _⟩ (Nat.le_of_ble_eq_true rfl) wm_0 cl_X8 rfl dX8_series_101 rfl ?_
        cases hf
        exact g_iret (pc := 104) C hr dX8_series_104
      replace hf := (if_neg q15).symm.trans hf
      by_cases q17 : x2 = 6
      · replace hf := (if_pos q17).symm.trans hf
        refine g_tabIn (pc := 23) C (off := 82) 105 dX8_series_23 (by rw [q17]; decide) (by rw [q17]; decide) (by rw [q17]; rfl) (by decide) ?_
        refine g_aload_n (pc := 105) C dX8_series_105 0 rfl rfl ?_
        refine g_iload_n (pc := 106) C dX8_series_106 1 rfl rfl ?_
        obtain ⟨r18, h18, hf⟩ := bd_some hf
        refine g_cVi (pc := 107) C (st := []) jW.rf (c_X8_packs l D hw h18) y_X8_packs tw_800 rfl ⟨by decide, by decide⟩ ⟨Nat.zero_le _, Nat.zero_le _⟩ (Nat.le_of_ble_eq_true rfl) wm_0 cl_X8 rfl dX8_series_107 rfl ?_
        cases hf
        exact g_iret (pc := 110) C hr dX8_series_110
      replace hf := (if_neg q17).symm.trans hf
      refine g_tabOut (pc := 23) C 111 dX8_series_23 (by have zq5 := lv_neT q5 (a := 0) rfl; have zq7 := lv_neT q7 (a := 1) rfl; have zq9 := lv_neT q9 (a := 2) rfl; have zq11 := lv_neT q11 (a := 3) rfl; have zq13 := lv_neT q13 (a := 4) rfl; have zq15 := lv_neT q15 (a := 5) rfl; have zq17 := lv_neT q17 (a := 6) rfl; omega) (by decide) ?_
      refine g_aload_n (pc := 111) C dX8_series_111 0 rfl rfl ?_
      refine g_iload_n (pc := 112) C dX8_series_112 1 rfl rfl ?_
      obtain ⟨r19, h19, hf⟩ := bd_some hf
      refine g_cVi (pc := 113) C (st := []) jW.rf (c_X8_wholes l D hw h19) y_X8_wholes tw_804 rfl ⟨by decide, by decide⟩ ⟨Nat.zero_le _, Nat.zero_le _⟩ (Nat.le_of_ble_eq_true rfl) wm_0 cl_X8 rfl dX8_series_113 rfl ?_
      cases hf
      exact g_iret (pc := 116) C hr dX8_series_116
    · replace hf := (if_pos q4).symm.trans hf
      refine g_iconst (pc := 20) C dX8_series_20 ic_m1 ?_
      cases hf
      exact g_iret (pc := 21) C hr dX8_series_21

set_option maxHeartbeats 4000000 in
set_option maxRecDepth 100000 in
theorem c_X8_share (l : Launch) (D : va_G) {cI cH cE cJ : ClassId} {b : Nat → Nat} (hw : ∀ σ, va_D (Pm b) (wm cJ b σ)) {σ : Me} {x1 : Int32} {x2 : Int32} {x3 : Int32} {r : Int32} (hf : f_X8_share σ x1 x2 x3 = some r) : Mq l D (tyc cI cH cE cJ) (wm cJ b) (Pm b) yX8_share cX8_share 4 (Option.some Jvm.ClassFile.FieldType.int) 2 [.ref (b 0), .int x1, .int x2, .int x3] σ (qI D (wm cJ b) (Pm b) σ r) := by
  refine mOf (plainFor_of_name (by decide)) hw (Nat.le_of_ble_eq_true rfl) [(0, .ref (b 0)), (1, .int x1), (2, .int x2), (3, .int x3)] rfl ?_
  intro p e s m args below meth c C hr
  unfold f_X8_share at hf
  refine g_aload_n (pc := 0) C dX8_share_0 0 rfl rfl ?_
  refine g_iload_n (pc := 1) C dX8_share_1 1 rfl rfl ?_
  obtain ⟨r1, h1, hf⟩ := bd_some hf
  refine g_cVi (pc := 2) C (st := []) jW.rf (c_X8_isSeries l D hw h1) y_X8_isSeries tw_701 rfl ⟨by decide, by decide⟩ ⟨Nat.zero_le _, Nat.zero_le _⟩ (Nat.le_of_ble_eq_true rfl) wm_0 cl_X8 rfl dX8_share_2 rfl ?_
  refine g_if_eq (pc := 5) C 28 dX8_share_5 (by decide) (fun q2 => ?_) (fun q2 => ?_)
  · replace hf := (if_pos q2).symm.trans hf
    refine g_iconst (pc := 28) C dX8_share_28 ic_m1 ?_
    cases hf
    exact g_iret (pc := 29) C hr dX8_share_29
  · replace hf := (if_neg q2).symm.trans hf
    refine g_aload_n (pc := 8) C dX8_share_8 0 rfl rfl ?_
    refine g_iload_n (pc := 9) C dX8_share_9 2 rfl rfl ?_
    obtain ⟨r3, h3, hf⟩ := bd_some hf
    refine g_cVi (pc := 10) C (st := []) jW.rf (c_X8_isPress l D hw h3) y_X8_isPress tw_730 rfl ⟨by decide, by decide⟩ ⟨Nat.zero_le _, Nat.zero_le _⟩ (Nat.le_of_ble_eq_true rfl) wm_0 cl_X8 rfl dX8_share_10 rfl ?_
    refine g_if_eq (pc := 13) C 28 dX8_share_13 (by decide) (fun q4 => ?_) (fun q4 => ?_)
    · replace hf := (if_pos q4).symm.trans hf
      refine g_iconst (pc := 28) C dX8_share_28 ic_m1 ?_
      cases hf
      exact g_iret (pc := 29) C hr dX8_share_29
    · replace hf := (if_neg q4).symm.trans hf
      refine g_iload_n (pc := 16) C dX8_share_16 3 rfl rfl ?_
      refine g_i2l (pc := 17) C dX8_share_17 ?_
      refine g_lconst (pc := 18) C dX8_share_18 lc_0 ?_
      refine g_ldc2 (pc := 19) C tw_816 dX8_share_19 ?_
      obtain ⟨r5, h5, hf⟩ := bd_some hf
      refine g_cSi (pc := 22) C (st := []) jW.rf (c_X8_in l D hw h5) y_X8_in tw_653 rfl ⟨by decide, by decide⟩ ⟨Nat.zero_le _, Nat.zero_le _⟩ (Nat.le_of_ble_eq_true rfl) dX8_share_22 rfl ?_
      refine g_if_ne (pc := 25) C 30 dX8_share_25 (by decide) (fun q6 => ?_) (fun q6 => ?_)
      · replace hf := (if_neg q6).symm.trans hf
        refine g_iload_n (pc := 30) C dX8_share_30 3 rfl rfl ?_
        refine g_if_ne (pc := 31) C 43 dX8_share_31 (by decide) (fun q7 => ?_) (fun q7 => ?_)
        · replace hf := (if_neg q7).symm.trans hf
          refine g_iload_n (pc := 43) C dX8_share_43 3 rfl rfl ?_
          refine g_iconst (pc := 44) C dX8_share_44 ic_1 ?_
          refine g_icmp_ne (pc := 45) C 61 dX8_share_45 (by decide) (fun q8 => ?_) (fun q8 => ?_)
          · replace hf := (if_neg q8).symm.trans hf
            refine g_iload_n (pc := 61) C dX8_share_61 3 rfl rfl ?_
            refine g_iconst (pc := 62) C dX8_share_62 ic_2 ?_
            refine g_icmp_ne (pc := 63) C 75 dX8_share_63 (by decide) (fun q9 => ?_) (fun q9 => ?_)
            · replace hf := (if_neg q9).symm.trans hf
              refine g_aload_n (pc := 75) C dX8_share_75 0 rfl rfl ?_
              refine g_get (pc := 76) C in_X8 wm_0 cl_X8 3 (by decide) tw_625 rfl dX8_share_76 ?_
              refine g_iload_n (pc := 79) C dX8_share_79 2 rfl rfl ?_
              obtain ⟨q10, hf⟩ := gd_some hf
              refine g_iald (pc := 80) C 3 wm_2 rfl q10 rfl dX8_share_80 ?_
              cases hf
              exact g_iret (pc := 81) C hr dX8_share_81
            · replace hf := (if_pos q9).symm.trans hf
              refine g_aload_n (pc := 66) C dX8_share_66 0 rfl rfl ?_
              refine g_iload_n (pc := 67) C dX8_share_67 1 rfl rfl ?_
              refine g_iload_n (pc := 68) C dX8_share_68 2 rfl rfl ?_
              obtain ⟨r11, h11, hf⟩ := bd_some hf
              refine g_cVi (pc := 69) C (st := []) jW.rf (c_X8_first l D hw h11) y_X8_first tw_763 rfl ⟨by decide, by decide⟩ ⟨Nat.zero_le _, Nat.zero_le _⟩ (Nat.le_of_ble_eq_true rfl) wm_0 cl_X8 rfl dX8_share_69 rfl ?_
              refine g_goto (pc := 72) C 81 dX8_share_72 (by decide) ?_
              cases hf
              exact g_iret (pc := 81) C hr dX8_share_81
          · replace hf := (if_pos q8).symm.trans hf
            refine g_aload_n (pc := 48) C dX8_share_48 0 rfl rfl ?_
            refine g_get (pc := 49) C in_X8 wm_0 cl_X8 5 (by decide) tw_627 rfl dX8_share_49 ?_
            refine g_iconst (pc := 52) C dX8_share_52 ic_4 ?_
            refine g_iload_n (pc := 53) C dX8_share_53 1 rfl rfl ?_
            refine g_imul (pc := 54) C dX8_share_54 ?_
            refine g_iload_n (pc := 55) C dX8_share_55 2 rfl rfl ?_
            refine g_iadd (pc := 56) C dX8_share_56 ?_
            obtain ⟨q12, hf⟩ := gd_some hf
            refine g_iald (pc := 57) C 3 wm_4 rfl q12 rfl dX8_share_57 ?_
            refine g_goto (pc := 58) C 81 dX8_share_58 (by decide) ?_
            cases hf
            exact g_iret (pc := 81) C hr dX8_share_81
        · replace hf := (if_pos q7).symm.trans hf
          refine g_aload_n (pc := 34) C dX8_share_34 0 rfl rfl ?_
          refine g_iload_n (pc := 35) C dX8_share_35 1 rfl rfl ?_
          refine g_iload_n (pc := 36) C dX8_share_36 2 rfl rfl ?_
          obtain ⟨r13, h13, hf⟩ := bd_some hf
          refine g_cVi (pc := 37) C (st := []) jW.rf (c_X8_sheets l D hw h13) y_X8_sheets tw_735 rfl ⟨by decide, by decide⟩ ⟨Nat.zero_le _, Nat.zero_le _⟩ (Nat.le_of_ble_eq_true rfl) wm_0 cl_X8 rfl dX8_share_37 rfl ?_
          refine g_goto (pc := 40) C 81 dX8_share_40 (by decide) ?_
          cases hf
          exact g_iret (pc := 81) C hr dX8_share_81
      · replace hf := (if_pos q6).symm.trans hf
        refine g_iconst (pc := 28) C dX8_share_28 ic_m1 ?_
        cases hf
        exact g_iret (pc := 29) C hr dX8_share_29

set_option maxHeartbeats 4000000 in
set_option maxRecDepth 100000 in
theorem c_X8_where (l : Launch) (D : va_G) {cI cH cE cJ : ClassId} {b : Nat → Nat} (hw : ∀ σ, va_D (Pm b) (wm cJ b σ)) {σ : Me} {x1 : Int32} {x2 : Int32} {x3 : Int32} {r : Int32} (hf : f_X8_where σ x1 x2 x3 = some r) : Mq l D (tyc cI cH cE cJ) (wm cJ b) (Pm b) yX8_where cX8_where 5 (Option.some Jvm.ClassFile.FieldType.int) 4 [.ref (b 0), .int x1, .int x2, .int x3] σ (qI D (wm cJ b) (Pm b) σ r) := by
  refine mOf (plainFor_of_name (by decide)) hw (Nat.le_of_ble_eq_true rfl) [(0, .ref (b 0)), (1, .int x1), (2, .int x2), (3, .int x3)] rfl ?_
  intro p e s m args below meth c C hr
  unfold f_X8_where at hf
  refine g_aload_n (pc := 0) C dX8_where_0 0 rfl rfl ?_
  refine g_iload_n (pc := 1) C dX8_where_1 1 rfl rfl ?_
  refine g_iload_n (pc := 2) C dX8_where_2 2 rfl rfl ?_
  obtain ⟨r1, h1, hf⟩ := bd_some hf
  refine g_cVi (pc := 3) C (st := []) jW.rf (c_X8_isNumber l D hw h1) y_X8_isNumber tw_747 rfl ⟨by decide, by decide⟩ ⟨Nat.zero_le _, Nat.zero_le _⟩ (Nat.le_of_ble_eq_true rfl) wm_0 cl_X8 rfl dX8_where_3 rfl ?_
  refine g_if_eq (pc := 6) C 21 dX8_where_6 (by decide) (fun q2 => ?_) (fun q2 => ?_)
  · replace hf := (if_pos q2).symm.trans hf
    refine g_iconst (pc := 21) C dX8_where_21 ic_m1 ?_
    cases hf
    exact g_iret (pc := 22) C hr dX8_where_22
  · replace hf := (if_neg q2).symm.trans hf
    refine g_iload_n (pc := 9) C dX8_where_9 3 rfl rfl ?_
    refine g_i2l (pc := 10) C dX8_where_10 ?_
    refine g_lconst (pc := 11) C dX8_where_11 lc_0 ?_
    refine g_ldc2 (pc := 12) C tw_821 dX8_where_12 ?_
    obtain ⟨r3, h3, hf⟩ := bd_some hf
    refine g_cSi (pc := 15) C (st := []) jW.rf (c_X8_in l D hw h3) y_X8_in tw_653 rfl ⟨by decide, by decide⟩ ⟨Nat.zero_le _, Nat.zero_le _⟩ (Nat.le_of_ble_eq_true rfl) dX8_where_15 rfl ?_
    refine g_if_ne (pc := 18) C 23 dX8_where_18 (by decide) (fun q4 => ?_) (fun q4 => ?_)
    · replace hf := (if_neg q4).symm.trans hf
      refine g_aload_n (pc := 23) C dX8_where_23 0 rfl rfl ?_
      refine g_iload_n (pc := 24) C dX8_where_24 1 rfl rfl ?_
      refine g_iload_n (pc := 25) C dX8_where_25 2 rfl rfl ?_
      obtain ⟨r5, h5, hf⟩ := bd_some hf
      refine g_cVi (pc := 26) C (st := []) jW.rf (c_X8_pressOf l D hw h5) y_X8_pressOf tw_759 rfl ⟨by decide, by decide⟩ ⟨Nat.zero_le _, Nat.zero_le _⟩ (Nat.le_of_ble_eq_true rfl) wm_0 cl_X8 rfl dX8_where_26 rfl ?_
      refine g_istore (pc := 29) C [(4, .int r5), (0, .ref (b 0)), (1, .int x1), (2, .int x2), (3, .int x3)] dX8_where_29 (by decide) rfl ?_
      refine g_iload_n (pc := 31) C dX8_where_31 4 rfl rfl ?_
      refine g_if_ne (pc := 32) C 40 dX8_where_32 (by decide) (fun q6 => ?_) (fun q6 => ?_)
      · replace hf := (if_neg q6).symm.trans hf
        refine g_iload_n (pc := 40) C dX8_where_40 4 rfl rfl ?_
        refine g_iconst (pc := 41) C dX8_where_41 ic_1 ?_
        refine g_icmp_ne (pc := 42) C 54 dX8_where_42 (by decide) (fun q7 => ?_) (fun q7 => ?_)
        · replace hf := (if_neg q7).symm.trans hf
          refine g_iload_n (pc := 54) C dX8_where_54 3 rfl rfl ?_
          refine g_aload_n (pc := 55) C dX8_where_55 1 rfl rfl ?_
          refine g_iload_n (pc := 56) C dX8_where_56 2 rfl rfl ?_
          refine g_iload (pc := 57) C dX8_where_57 0 rfl ?_
          obtain ⟨r8, h8, hf⟩ := bd_some hf
          refine g_cVi (pc := 59) C (st := [.int x2]) jW.rf (c_X8_first l D hw h8) y_X8_first tw_763 rfl ⟨by decide, by decide⟩ ⟨Nat.zero_le _, Nat.zero_le _⟩ (Nat.le_of_ble_eq_true rfl) wm_0 cl_X8 rfl dX8_where_59 rfl ?_
          refine g_isub (pc := 62) C dX8_where_62 ?_
          refine g_aload_n (pc := 63) C dX8_where_63 1 rfl rfl ?_
          refine g_iload_n (pc := 64) C dX8_where_64 2 rfl rfl ?_
          refine g_iload (pc := 65) C dX8_where_65 0 rfl ?_
          obtain ⟨r9, h9, hf⟩ := bd_some hf
          refine g_cVi (pc := 67) C (st := [.int (x2 - r8)]) jW.rf (c_X8_sheets l D hw h9) y_X8_sheets tw_735 rfl ⟨by decide, by decide⟩ ⟨Nat.zero_le _, Nat.zero_le _⟩ (Nat.le_of_ble_eq_true rfl) wm_0 cl_X8 rfl dX8_where_67 rfl ?_
          obtain ⟨q10, hf⟩ := gd_some hf
          refine g_idiv (pc := 70) C dX8_where_70 (of_decide_eq_true q10) ?_
          cases hf
          exact g_iret (pc := 71) C hr dX8_where_71
        · replace hf := (if_pos q7).symm.trans hf
          refine g_aload_n (pc := 45) C dX8_where_45 1 rfl rfl ?_
          refine g_iload_n (pc := 46) C dX8_where_46 2 rfl rfl ?_
          refine g_iload_n (pc := 47) C dX8_where_47 3 rfl rfl ?_
          obtain ⟨r11, h11, hf⟩ := bd_some hf
          refine g_cVi (pc := 48) C (st := []) jW.rf (c_X8_sheetOf l D hw h11) y_X8_sheetOf tw_755 rfl ⟨by decide, by decide⟩ ⟨Nat.zero_le _, Nat.zero_le _⟩ (Nat.le_of_ble_eq_true rfl) wm_0 cl_X8 rfl dX8_where_48 rfl ?_
          refine g_goto (pc := 51) C 71 dX8_where_51 (by decide) ?_
          cases hf
          exact g_iret (pc := 71) C hr dX8_where_71
      · replace hf := (if_pos q6).symm.trans hf
        refine g_iload (pc := 35) C dX8_where_35 0 rfl ?_
        refine g_goto (pc := 37) C 71 dX8_where_37 (by decide) ?_
        cases hf
        exact g_iret (pc := 71) C hr dX8_where_71
    · replace hf := (if_pos q4).symm.trans hf
      refine g_iconst (pc := 21) C dX8_where_21 ic_m1 ?_
      cases hf
      exact g_iret (pc := 22) C hr dX8_where_22

set_option maxHeartbeats 4000000 in
set_option maxRecDepth 100000 in
theorem c_X8_number (l : Launch) (D : va_G) {cI cH cE cJ : ClassId} {b : Nat → Nat} (hw : ∀ σ, va_D (Pm b) (wm cJ b σ)) {σ : Me} {x1 : Int32} {x2 : Int32} {x3 : Int32} {x4 : Int32} {r : Int32} (hf : f_X8_number σ x1 x2 x3 x4 = some r) : Mq l D (tyc cI cH cE cJ) (wm cJ b) (Pm b) yX8_number cX8_number 6 (Option.some Jvm.ClassFile.FieldType.int) 3 [.ref (b 0), .int x1, .int x2, .int x3, .int x4] σ (qI D (wm cJ b) (Pm b) σ r) := by
  refine mOf (plainFor_of_name (by decide)) hw (Nat.le_of_ble_eq_true rfl) [(0, .ref (b 0)), (1, .int x1), (2, .int x2), (3, .int x3), (4, .int x4)] rfl ?_
  intro p e s m args below meth c C hr
  have b58 : ∀ (t0 : Int32) (hf : f_X8_number_58 σ x1 x2 x3 x4 t0 = some r), Gg p l e (rmd 3) s m args below meth c D (Pm b) (wm cJ b) 6 0 0 (MQ below ((qI D (wm cJ b) (Pm b) σ r) s.heap.size) args s 0 0 (fR (Pm b) s.heap.size)) σ [(0, .ref (b 0)), (1, .int x1), (2, .int x2), (3, .int x3), (4, .int x4)] 58 [.int t0] := by
    intro  t0 hf
    unfold f_X8_number_58 at hf
    refine g_istore (pc := 58) C [(5, .int t0), (0, .ref (b 0)), (1, .int x1), (2, .int x2), (3, .int x3), (4, .int x4)] dX8_number_58 (by decide) rfl ?_
    refine g_iload (pc := 60) C dX8_number_60 0 rfl ?_
    refine g_if_eq (pc := 62) C 77 dX8_number_62 (by decide) (fun q1 => ?_) (fun q1 => ?_)
    · replace hf := (if_pos q1).symm.trans hf
      refine g_iconst (pc := 77) C dX8_number_77 ic_m1 ?_
      cases hf
      exact g_iret (pc := 78) C hr dX8_number_78
    · replace hf := (if_neg q1).symm.trans hf
      refine g_aload_n (pc := 65) C dX8_number_65 1 rfl rfl ?_
      refine g_iload_n (pc := 66) C dX8_number_66 2 rfl rfl ?_
      refine g_iload_n (pc := 67) C dX8_number_67 3 rfl rfl ?_
      refine g_iload_n (pc := 68) C dX8_number_68 4 rfl rfl ?_
      refine g_iload (pc := 69) C dX8_number_69 5 rfl ?_
      obtain ⟨r2, h2, hf⟩ := bd_some hf
      refine g_cVi (pc := 71) C (st := []) jW.rf (c_X8_numberAt l D hw h2) y_X8_numberAt tw_779 rfl ⟨by decide, by decide⟩ ⟨Nat.zero_le _, Nat.zero_le _⟩ (Nat.le_of_ble_eq_true rfl) wm_0 cl_X8 rfl dX8_number_71 rfl ?_
      refine g_goto (pc := 74) C 78 dX8_number_74 (by decide) ?_
      cases hf
      exact g_iret (pc := 78) C hr dX8_number_78
  have b57 : ∀ (hf : f_X8_number_57 σ x1 x2 x3 x4 = some r), Gg p l e (rmd 3) s m args below meth c D (Pm b) (wm cJ b) 6 0 0 (MQ below ((qI D (wm cJ b) (Pm b) σ r) s.heap.size) args s 0 0 (fR (Pm b) s.heap.size)) σ [(0, .ref (b 0)), (1, .int x1), (2, .int x2), (3, .int x3), (4, .int x4)] 57 [] := by
    intro   hf
    unfold f_X8_number_57 at hf
    refine g_iconst (pc := 57) C dX8_number_57 ic_0 ?_
    exact g_sub [0, 1, 2, 3, 4] rfl (b58 0 hf)
  unfold f_X8_number at hf
  refine g_aload_n (pc := 0) C dX8_number_0 0 rfl rfl ?_
  refine g_iload_n (pc := 1) C dX8_number_1 1 rfl rfl ?_
  obtain ⟨r3, h3, hf⟩ := bd_some hf
  refine g_cVi (pc := 2) C (st := []) jW.rf (c_X8_isSeries l D hw h3) y_X8_isSeries tw_701 rfl ⟨by decide, by decide⟩ ⟨Nat.zero_le _, Nat.zero_le _⟩ (Nat.le_of_ble_eq_true rfl) wm_0 cl_X8 rfl dX8_number_2 rfl ?_
  refine g_if_eq (pc := 5) C 57 dX8_number_5 (by decide) (fun q4 => ?_) (fun q4 => ?_)
  · replace hf := (if_pos q4).symm.trans hf
    exact g_sub [0, 1, 2, 3, 4] rfl (b57 hf)
  · replace hf := (if_neg q4).symm.trans hf
    refine g_aload_n (pc := 8) C dX8_number_8 0 rfl rfl ?_
    refine g_iload_n (pc := 9) C dX8_number_9 2 rfl rfl ?_
    obtain ⟨r5, h5, hf⟩ := bd_some hf
    refine g_cVi (pc := 10) C (st := []) jW.rf (c_X8_isPress l D hw h5) y_X8_isPress tw_730 rfl ⟨by decide, by decide⟩ ⟨Nat.zero_le _, Nat.zero_le _⟩ (Nat.le_of_ble_eq_true rfl) wm_0 cl_X8 rfl dX8_number_10 rfl ?_
    refine g_if_eq (pc := 13) C 57 dX8_number_13 (by decide) (fun q6 => ?_) (fun q6 => ?_)
    · replace hf := (if_pos q6).symm.trans hf
      exact g_sub [0, 1, 2, 3, 4] rfl (b57 hf)
    · replace hf := (if_neg q6).symm.trans hf
      refine g_iload_n (pc := 16) C dX8_number_16 3 rfl rfl ?_
      refine g_i2l (pc := 17) C dX8_number_17 ?_
      refine g_lconst (pc := 18) C dX8_number_18 lc_0 ?_
      refine g_aload_n (pc := 19) C dX8_number_19 0 rfl rfl ?_
      refine g_iload_n (pc := 20) C dX8_number_20 1 rfl rfl ?_
      refine g_iload_n (pc := 21) C dX8_number_21 2 rfl rfl ?_
      obtain ⟨r7, h7, hf⟩ := bd_some hf
      refine g_cVi (pc := 22) C (st := [.long 0, .long x3.toInt64]) jW.rf (c_X8_sheets l D hw h7) y_X8_sheets tw_735 rfl ⟨by decide, by decide⟩ ⟨Nat.zero_le _, Nat.zero_le _⟩ (Nat.le_of_ble_eq_true rfl) wm_0 cl_X8 rfl dX8_number_22 rfl ?_
      refine g_iconst (pc := 25) C dX8_number_25 ic_1 ?_
      refine g_isub (pc := 26) C dX8_number_26 ?_
      refine g_i2l (pc := 27) C dX8_number_27 ?_
      obtain ⟨r8, h8, hf⟩ := bd_some hf
      refine g_cSi (pc := 28) C (st := []) jW.rf (c_X8_in l D hw h8) y_X8_in tw_653 rfl ⟨by decide, by decide⟩ ⟨Nat.zero_le _, Nat.zero_le _⟩ (Nat.le_of_ble_eq_true rfl) dX8_number_28 rfl ?_
      refine g_if_eq (pc := 31) C 57 dX8_number_31 (by decide) (fun q9 => ?_) (fun q9 => ?_)
      · replace hf := (if_pos q9).symm.trans hf
        exact g_sub [0, 1, 2, 3, 4] rfl (b57 hf)
      · replace hf := (if_neg q9).symm.trans hf
        refine g_iload (pc := 34) C dX8_number_34 4 rfl ?_
        refine g_i2l (pc := 36) C dX8_number_36 ?_
        refine g_lconst (pc := 37) C dX8_number_37 lc_0 ?_
        refine g_aload_n (pc := 38) C dX8_number_38 0 rfl rfl ?_
        refine g_get (pc := 39) C in_X8 wm_0 cl_X8 3 (by decide) tw_625 rfl dX8_number_39 ?_
        refine g_iload_n (pc := 42) C dX8_number_42 2 rfl rfl ?_
        obtain ⟨q10, hf⟩ := gd_some hf
        refine g_iald (pc := 43) C 3 wm_2 rfl q10 rfl dX8_number_43 ?_
        refine g_iconst (pc := 44) C dX8_number_44 ic_1 ?_
        refine g_isub (pc := 45) C dX8_number_45 ?_
        refine g_i2l (pc := 46) C dX8_number_46 ?_
        obtain ⟨r11, h11, hf⟩ := bd_some hf
        refine g_cSi (pc := 47) C (st := []) jW.rf (c_X8_in l D hw h11) y_X8_in tw_653 rfl ⟨by decide, by decide⟩ ⟨Nat.zero_le _, Nat.zero_le _⟩ (Nat.le_of_ble_eq_true rfl) dX8_number_47 rfl ?_
        refine g_if_eq (pc := 50) C 57 dX8_number_50 (by decide) (fun q12 => ?_) (fun q12 => ?_)
        · replace hf := (if_pos q12).symm.trans hf
          exact g_sub [0, 1, 2, 3, 4] rfl (b57 hf)
        · replace hf := (if_neg q12).symm.trans hf
          refine g_iconst (pc := 53) C dX8_number_53 ic_1 ?_
          refine g_goto (pc := 54) C 58 dX8_number_54 (by decide) ?_
          exact g_sub [0, 1, 2, 3, 4] rfl (b58 1 hf)

set_option maxHeartbeats 4000000 in
set_option maxRecDepth 100000 in
theorem c_X8_note (l : Launch) (D : va_G) {cI cH cE cJ : ClassId} {b : Nat → Nat} (hw : ∀ σ, va_D (Pm b) (wm cJ b σ)) {σ : Me} {x1 : Int32} {x2 : Int32} {r : Int32} (hf : f_X8_note σ x1 x2 = some r) : Mq l D (tyc cI cH cE cJ) (wm cJ b) (Pm b) yX8_note cX8_note 3 (Option.some Jvm.ClassFile.FieldType.int) 5 [.ref (b 0), .int x1, .int x2] σ (qI D (wm cJ b) (Pm b) σ r) := by
  refine mOf (plainFor_of_name (by decide)) hw (Nat.le_of_ble_eq_true rfl) [(0, .ref (b 0)), (1, .int x1), (2, .int x2)] rfl ?_
  intro p e s m args below meth c C hr
  unfold f_X8_note at hf
  refine g_aload_n (pc := 0) C dX8_note_0 0 rfl rfl ?_
  refine g_iload_n (pc := 1) C dX8_note_1 1 rfl rfl ?_
  refine g_iload_n (pc := 2) C dX8_note_2 2 rfl rfl ?_
  obtain ⟨r1, h1, hf⟩ := bd_some hf
  refine g_cVi (pc := 3) C (st := []) jW.rf (c_X8_isNumber l D hw h1) y_X8_isNumber tw_747 rfl ⟨by decide, by decide⟩ ⟨Nat.zero_le _, Nat.zero_le _⟩ (Nat.le_of_ble_eq_true rfl) wm_0 cl_X8 rfl dX8_note_3 rfl ?_
  refine g_if_ne (pc := 6) C 13 dX8_note_6 (by decide) (fun q2 => ?_) (fun q2 => ?_)
  · replace hf := (if_neg q2).symm.trans hf
    refine g_aload_n (pc := 13) C dX8_note_13 0 rfl rfl ?_
    refine g_iload_n (pc := 14) C dX8_note_14 1 rfl rfl ?_
    refine g_iload_n (pc := 15) C dX8_note_15 2 rfl rfl ?_
    obtain ⟨r3, h3, hf⟩ := bd_some hf
    refine g_cVi (pc := 16) C (st := []) jW.rf (c_X8_isPrinted l D hw h3) y_X8_isPrinted tw_751 rfl ⟨by decide, by decide⟩ ⟨Nat.zero_le _, Nat.zero_le _⟩ (Nat.le_of_ble_eq_true rfl) wm_0 cl_X8 rfl dX8_note_16 rfl ?_
    refine g_if_ne (pc := 19) C 26 dX8_note_19 (by decide) (fun q4 => ?_) (fun q4 => ?_)
    · replace hf := (if_neg q4).symm.trans hf
      refine g_aload_n (pc := 26) C dX8_note_26 0 rfl rfl ?_
      refine g_iload_n (pc := 27) C dX8_note_27 1 rfl rfl ?_
      refine g_iload_n (pc := 28) C dX8_note_28 2 rfl rfl ?_
      obtain ⟨r5, h5, hf⟩ := bd_some hf
      refine g_cVi (pc := 29) C (st := []) jW.rf (c_X8_starAt l D hw h5) y_X8_starAt tw_767 rfl ⟨by decide, by decide⟩ ⟨Nat.zero_le _, Nat.zero_le _⟩ (Nat.le_of_ble_eq_true rfl) wm_0 cl_X8 rfl dX8_note_29 rfl ?_
      refine g_bipush (pc := 32) C dX8_note_32 bp_m4 ?_
      refine g_icmp_ne (pc := 34) C 41 dX8_note_34 (by decide) (fun q6 => ?_) (fun q6 => ?_)
      · replace hf := (if_neg q6).symm.trans hf
        refine g_iconst (pc := 41) C dX8_note_41 ic_2 ?_
        cases hf
        exact g_iret (pc := 42) C hr dX8_note_42
      · replace hf := (if_pos q6).symm.trans hf
        refine g_iconst (pc := 37) C dX8_note_37 ic_1 ?_
        refine g_goto (pc := 38) C 42 dX8_note_38 (by decide) ?_
        cases hf
        exact g_iret (pc := 42) C hr dX8_note_42
    · replace hf := (if_pos q4).symm.trans hf
      refine g_iconst (pc := 22) C dX8_note_22 ic_0 ?_
      refine g_goto (pc := 23) C 42 dX8_note_23 (by decide) ?_
      cases hf
      exact g_iret (pc := 42) C hr dX8_note_42
  · replace hf := (if_pos q2).symm.trans hf
    refine g_iconst (pc := 9) C dX8_note_9 ic_m1 ?_
    refine g_goto (pc := 10) C 42 dX8_note_10 (by decide) ?_
    cases hf
    exact g_iret (pc := 42) C hr dX8_note_42

set_option maxHeartbeats 4000000 in
set_option maxRecDepth 100000 in
theorem c_X8_star (l : Launch) (D : va_G) {cI cH cE cJ : ClassId} {b : Nat → Nat} (hw : ∀ σ, va_D (Pm b) (wm cJ b σ)) {σ : Me} {x1 : Int32} {x2 : Int32} {r : Int32} (hf : f_X8_star σ x1 x2 = some r) : Mq l D (tyc cI cH cE cJ) (wm cJ b) (Pm b) yX8_star cX8_star 3 (Option.some Jvm.ClassFile.FieldType.int) 2 [.ref (b 0), .int x1, .int x2] σ (qI D (wm cJ b) (Pm b) σ r) := by
  refine mOf (plainFor_of_name (by decide)) hw (Nat.le_of_ble_eq_true rfl) [(0, .ref (b 0)), (1, .int x1), (2, .int x2)] rfl ?_
  intro p e s m args below meth c C hr
  unfold f_X8_star at hf
  refine g_iload_n (pc := 0) C dX8_star_0 1 rfl rfl ?_
  refine g_i2l (pc := 1) C dX8_star_1 ?_
  refine g_lconst (pc := 2) C dX8_star_2 lc_0 ?_
  refine g_aload_n (pc := 3) C dX8_star_3 0 rfl rfl ?_
  refine g_get (pc := 4) C in_X8 wm_0 cl_X8 3 (by decide) tw_625 rfl dX8_star_4 ?_
  refine g_bipush (pc := 7) C dX8_star_7 bp_24 ?_
  refine g_iald (pc := 9) C 3 wm_2 rfl (by decide) tnn_24 dX8_star_9 ?_
  refine g_iconst (pc := 10) C dX8_star_10 ic_1 ?_
  refine g_isub (pc := 11) C dX8_star_11 ?_
  refine g_i2l (pc := 12) C dX8_star_12 ?_
  obtain ⟨r2, h2, hf⟩ := bd_some hf
  refine g_cSi (pc := 13) C (st := []) jW.rf (c_X8_in l D hw h2) y_X8_in tw_653 rfl ⟨by decide, by decide⟩ ⟨Nat.zero_le _, Nat.zero_le _⟩ (Nat.le_of_ble_eq_true rfl) dX8_star_13 rfl ?_
  refine g_if_eq (pc := 16) C 31 dX8_star_16 (by decide) (fun q3 => ?_) (fun q3 => ?_)
  · replace hf := (if_pos q3).symm.trans hf
    refine g_iconst (pc := 31) C dX8_star_31 ic_m1 ?_
    cases hf
    exact g_iret (pc := 32) C hr dX8_star_32
  · replace hf := (if_neg q3).symm.trans hf
    refine g_iload_n (pc := 19) C dX8_star_19 2 rfl rfl ?_
    refine g_i2l (pc := 20) C dX8_star_20 ?_
    refine g_lconst (pc := 21) C dX8_star_21 lc_0 ?_
    refine g_ldc2 (pc := 22) C tw_821 dX8_star_22 ?_
    obtain ⟨r4, h4, hf⟩ := bd_some hf
    refine g_cSi (pc := 25) C (st := []) jW.rf (c_X8_in l D hw h4) y_X8_in tw_653 rfl ⟨by decide, by decide⟩ ⟨Nat.zero_le _, Nat.zero_le _⟩ (Nat.le_of_ble_eq_true rfl) dX8_star_25 rfl ?_
    refine g_if_ne (pc := 28) C 33 dX8_star_28 (by decide) (fun q5 => ?_) (fun q5 => ?_)
    · replace hf := (if_neg q5).symm.trans hf
      refine g_iload_n (pc := 33) C dX8_star_33 2 rfl rfl ?_
      refine g_iconst (pc := 34) C dX8_star_34 ic_2 ?_
      refine g_icmp_ne (pc := 35) C 47 dX8_star_35 (by decide) (fun q6 => ?_) (fun q6 => ?_)
      · replace hf := (if_neg q6).symm.trans hf
        refine g_iload_n (pc := 47) C dX8_star_47 1 rfl rfl ?_
        refine g_aload_n (pc := 48) C dX8_star_48 0 rfl rfl ?_
        refine g_get (pc := 49) C in_X8 wm_0 cl_X8 5 (by decide) tw_627 rfl dX8_star_49 ?_
        refine g_bipush (pc := 52) C dX8_star_52 bp_111 ?_
        refine g_iald (pc := 54) C 3 wm_4 rfl (by decide) tnn_111 dX8_star_54 ?_
        refine g_icmp_lt (pc := 55) C 63 dX8_star_55 (by decide) (fun q8 => ?_) (fun q8 => ?_)
        · replace hf := (if_pos q8).symm.trans hf
          refine g_iload_n (pc := 63) C dX8_star_63 2 rfl rfl ?_
          refine g_if_ne (pc := 64) C 83 dX8_star_64 (by decide) (fun q9 => ?_) (fun q9 => ?_)
          · replace hf := (if_neg q9).symm.trans hf
            refine g_aload_n (pc := 83) C dX8_star_83 0 rfl rfl ?_
            refine g_get (pc := 84) C in_X8 wm_0 cl_X8 5 (by decide) tw_627 rfl dX8_star_84 ?_
            refine g_bipush (pc := 87) C dX8_star_87 bp_12 ?_
            refine g_iload_n (pc := 89) C dX8_star_89 1 rfl rfl ?_
            refine g_iadd (pc := 90) C dX8_star_90 ?_
            obtain ⟨q10, hf⟩ := gd_some hf
            refine g_iald (pc := 91) C 3 wm_4 rfl q10 rfl dX8_star_91 ?_
            refine g_sipush (pc := 92) C dX8_star_92 sp_1000 ?_
            refine g_irem (pc := 95) C dX8_star_95 (by decide) ?_
            cases hf
            exact g_iret (pc := 96) C hr dX8_star_96
          · replace hf := (if_pos q9).symm.trans hf
            refine g_aload_n (pc := 67) C dX8_star_67 0 rfl rfl ?_
            refine g_get (pc := 68) C in_X8 wm_0 cl_X8 5 (by decide) tw_627 rfl dX8_star_68 ?_
            refine g_bipush (pc := 71) C dX8_star_71 bp_12 ?_
            refine g_iload_n (pc := 73) C dX8_star_73 1 rfl rfl ?_
            refine g_iadd (pc := 74) C dX8_star_74 ?_
            obtain ⟨q11, hf⟩ := gd_some hf
            refine g_iald (pc := 75) C 3 wm_4 rfl q11 rfl dX8_star_75 ?_
            refine g_sipush (pc := 76) C dX8_star_76 sp_1000 ?_
            refine g_idiv (pc := 79) C dX8_star_79 (by decide) ?_
            refine g_goto (pc := 80) C 96 dX8_star_80 (by decide) ?_
            cases hf
            exact g_iret (pc := 96) C hr dX8_star_96
        · replace hf := (if_neg q8).symm.trans hf
          refine g_bipush (pc := 58) C dX8_star_58 bp_m4 ?_
          refine g_goto (pc := 60) C 96 dX8_star_60 (by decide) ?_
          cases hf
          exact g_iret (pc := 96) C hr dX8_star_96
      · replace hf := (if_pos q6).symm.trans hf
        refine g_iconst (pc := 38) C dX8_star_38 ic_0 ?_
        refine g_iconst (pc := 39) C dX8_star_39 ic_1 ?_
        refine g_iload_n (pc := 40) C dX8_star_40 1 rfl rfl ?_
        obtain ⟨r12, h12, hf⟩ := bd_some hf
        refine g_cSi (pc := 41) C (st := []) jW.rf (c_X8_checkOf l D hw h12) y_X8_checkOf tw_709 rfl ⟨by decide, by decide⟩ ⟨Nat.zero_le _, Nat.zero_le _⟩ (Nat.le_of_ble_eq_true rfl) dX8_star_41 rfl ?_
        refine g_goto (pc := 44) C 96 dX8_star_44 (by decide) ?_
        cases hf
        exact g_iret (pc := 96) C hr dX8_star_96
    · replace hf := (if_pos q5).symm.trans hf
      refine g_iconst (pc := 31) C dX8_star_31 ic_m1 ?_
      cases hf
      exact g_iret (pc := 32) C hr dX8_star_32

set_option maxHeartbeats 4000000 in
set_option maxRecDepth 100000 in
theorem c_X8_starOf (l : Launch) (D : va_G) {cI cH cE cJ : ClassId} {b : Nat → Nat} (hw : ∀ σ, va_D (Pm b) (wm cJ b σ)) {σ : Me} {x1 : Int32} {x2 : Int32} {r : Int32} (hf : f_X8_starOf σ x1 x2 = some r) : Mq l D (tyc cI cH cE cJ) (wm cJ b) (Pm b) yX8_starOf cX8_starOf 3 (Option.some Jvm.ClassFile.FieldType.int) 3 [.ref (b 0), .int x1, .int x2] σ (qI D (wm cJ b) (Pm b) σ r) := by
  refine mOf (plainFor_of_name (by decide)) hw (Nat.le_of_ble_eq_true rfl) [(0, .ref (b 0)), (1, .int x1), (2, .int x2)] rfl ?_
  intro p e s m args below meth c C hr
  unfold f_X8_starOf at hf
  refine g_aload_n (pc := 0) C dX8_starOf_0 0 rfl rfl ?_
  refine g_iload_n (pc := 1) C dX8_starOf_1 1 rfl rfl ?_
  refine g_iload_n (pc := 2) C dX8_starOf_2 2 rfl rfl ?_
  obtain ⟨r1, h1, hf⟩ := bd_some hf
  refine g_cVi (pc := 3) C (st := []) jW.rf (c_X8_isNumber l D hw h1) y_X8_isNumber tw_747 rfl ⟨by decide, by decide⟩ ⟨Nat.zero_le _, Nat.zero_le _⟩ (Nat.le_of_ble_eq_true rfl) wm_0 cl_X8 rfl dX8_starOf_3 rfl ?_
  refine g_if_eq (pc := 6) C 18 dX8_starOf_6 (by decide) (fun q2 => ?_) (fun q2 => ?_)
  · replace hf := (if_pos q2).symm.trans hf
    refine g_iconst (pc := 18) C dX8_starOf_18 ic_m1 ?_
    cases hf
    exact g_iret (pc := 19) C hr dX8_starOf_19
  · replace hf := (if_neg q2).symm.trans hf
    refine g_aload_n (pc := 9) C dX8_starOf_9 0 rfl rfl ?_
    refine g_iload_n (pc := 10) C dX8_starOf_10 1 rfl rfl ?_
    refine g_iload_n (pc := 11) C dX8_starOf_11 2 rfl rfl ?_
    obtain ⟨r3, h3, hf⟩ := bd_some hf
    refine g_cVi (pc := 12) C (st := []) jW.rf (c_X8_starAt l D hw h3) y_X8_starAt tw_767 rfl ⟨by decide, by decide⟩ ⟨Nat.zero_le _, Nat.zero_le _⟩ (Nat.le_of_ble_eq_true rfl) wm_0 cl_X8 rfl dX8_starOf_12 rfl ?_
    refine g_goto (pc := 15) C 19 dX8_starOf_15 (by decide) ?_
    cases hf
    exact g_iret (pc := 19) C hr dX8_starOf_19

set_option maxHeartbeats 4000000 in
set_option maxRecDepth 100000 in
theorem c_X8_judgeStar (l : Launch) (D : va_G) {cI cH cE cJ : ClassId} {b : Nat → Nat} (hw : ∀ σ, va_D (Pm b) (wm cJ b σ)) {σ : Me} {x1 : Int32} {x2 : Int32} {r : Int32} (hf : f_X8_judgeStar σ x1 x2 = some r) : Mq l D (tyc cI cH cE cJ) (wm cJ b) (Pm b) yX8_judgeStar cX8_judgeStar 3 (Option.some Jvm.ClassFile.FieldType.int) 2 [.ref (b 0), .int x1, .int x2] σ (qI D (wm cJ b) (Pm b) σ r) := by
  refine mOf (plainFor_of_name (by decide)) hw (Nat.le_of_ble_eq_true rfl) [(0, .ref (b 0)), (1, .int x1), (2, .int x2)] rfl ?_
  intro p e s m args below meth c C hr
  unfold f_X8_judgeStar at hf
  refine g_iload_n (pc := 0) C dX8_judgeStar_0 1 rfl rfl ?_
  refine g_aload_n (pc := 1) C dX8_judgeStar_1 0 rfl rfl ?_
  refine g_get (pc := 2) C in_X8 wm_0 cl_X8 3 (by decide) tw_625 rfl dX8_judgeStar_2 ?_
  refine g_bipush (pc := 5) C dX8_judgeStar_5 bp_24 ?_
  refine g_iald (pc := 7) C 3 wm_2 rfl (by decide) tnn_24 dX8_judgeStar_7 ?_
  refine g_icmp_lt (pc := 8) C 15 dX8_judgeStar_8 (by decide) (fun q2 => ?_) (fun q2 => ?_)
  · replace hf := (if_pos q2).symm.trans hf
    refine g_iload_n (pc := 15) C dX8_judgeStar_15 2 rfl rfl ?_
    refine g_iconst (pc := 16) C dX8_judgeStar_16 ic_0 ?_
    refine g_iconst (pc := 17) C dX8_judgeStar_17 ic_1 ?_
    refine g_iload_n (pc := 18) C dX8_judgeStar_18 1 rfl rfl ?_
    obtain ⟨r3, h3, hf⟩ := bd_some hf
    refine g_cSi (pc := 19) C (st := [.int x2]) jW.rf (c_X8_checkOf l D hw h3) y_X8_checkOf tw_709 rfl ⟨by decide, by decide⟩ ⟨Nat.zero_le _, Nat.zero_le _⟩ (Nat.le_of_ble_eq_true rfl) dX8_judgeStar_19 rfl ?_
    refine g_icmp_eq (pc := 22) C 29 dX8_judgeStar_22 (by decide) (fun q4 => ?_) (fun q4 => ?_)
    · replace hf := (if_pos q4).symm.trans hf
      refine g_iload_n (pc := 29) C dX8_judgeStar_29 1 rfl rfl ?_
      refine g_aload_n (pc := 30) C dX8_judgeStar_30 0 rfl rfl ?_
      refine g_get (pc := 31) C in_X8 wm_0 cl_X8 5 (by decide) tw_627 rfl dX8_judgeStar_31 ?_
      refine g_bipush (pc := 34) C dX8_judgeStar_34 bp_111 ?_
      refine g_iald (pc := 36) C 3 wm_4 rfl (by decide) tnn_111 dX8_judgeStar_36 ?_
      refine g_icmp_lt (pc := 37) C 44 dX8_judgeStar_37 (by decide) (fun q6 => ?_) (fun q6 => ?_)
      · replace hf := (if_pos q6).symm.trans hf
        refine g_iconst (pc := 44) C dX8_judgeStar_44 ic_0 ?_
        cases hf
        exact g_iret (pc := 45) C hr dX8_judgeStar_45
      · replace hf := (if_neg q6).symm.trans hf
        refine g_iconst (pc := 40) C dX8_judgeStar_40 ic_4 ?_
        refine g_goto (pc := 41) C 45 dX8_judgeStar_41 (by decide) ?_
        cases hf
        exact g_iret (pc := 45) C hr dX8_judgeStar_45
    · replace hf := (if_neg q4).symm.trans hf
      refine g_iconst (pc := 25) C dX8_judgeStar_25 ic_3 ?_
      refine g_goto (pc := 26) C 45 dX8_judgeStar_26 (by decide) ?_
      cases hf
      exact g_iret (pc := 45) C hr dX8_judgeStar_45
  · replace hf := (if_neg q2).symm.trans hf
    refine g_iconst (pc := 11) C dX8_judgeStar_11 ic_2 ?_
    refine g_goto (pc := 12) C 45 dX8_judgeStar_12 (by decide) ?_
    cases hf
    exact g_iret (pc := 45) C hr dX8_judgeStar_45

set_option maxHeartbeats 4000000 in
set_option maxRecDepth 100000 in
theorem c_X8_judge (l : Launch) (D : va_G) {cI cH cE cJ : ClassId} {b : Nat → Nat} (hw : ∀ σ, va_D (Pm b) (wm cJ b σ)) {σ : Me} {x1 : Int32} {x2 : Int32} {x3 : Int32} {r : Int32} (hf : f_X8_judge σ x1 x2 x3 = some r) : Mq l D (tyc cI cH cE cJ) (wm cJ b) (Pm b) yX8_judge cX8_judge 5 (Option.some Jvm.ClassFile.FieldType.int) 5 [.ref (b 0), .int x1, .int x2, .int x3] σ (qI D (wm cJ b) (Pm b) σ r) := by
  refine mOf (plainFor_of_name (by decide)) hw (Nat.le_of_ble_eq_true rfl) [(0, .ref (b 0)), (1, .int x1), (2, .int x2), (3, .int x3)] rfl ?_
  intro p e s m args below meth c C hr
  have b86 : ∀ (x4 : Int32) (hf : f_X8_judge_86 σ x2 x3 x4 = some r), Gg p l e (rmd 5) s m args below meth c D (Pm b) (wm cJ b) 5 0 0 (MQ below ((qI D (wm cJ b) (Pm b) σ r) s.heap.size) args s 0 0 (fR (Pm b) s.heap.size)) σ [(0, .ref (b 0)), (2, .int x2), (3, .int x3), (4, .int x4)] 86 [] := by
    intro  x4 hf
    unfold f_X8_judge_86 at hf
    refine g_iload (pc := 86) C dX8_judge_86 3 rfl ?_
    refine g_aload_n (pc := 88) C dX8_judge_88 0 rfl rfl ?_
    refine g_get (pc := 89) C in_X8 wm_0 cl_X8 3 (by decide) tw_625 rfl dX8_judge_89 ?_
    refine g_bipush (pc := 92) C dX8_judge_92 bp_23 ?_
    refine g_iald (pc := 94) C 3 wm_2 rfl (by decide) tnn_23 dX8_judge_94 ?_
    refine g_icmp_ne (pc := 95) C 100 dX8_judge_95 (by decide) (fun q2 => ?_) (fun q2 => ?_)
    · replace hf := (if_neg q2).symm.trans hf
      refine g_aload_n (pc := 100) C dX8_judge_100 0 rfl rfl ?_
      refine g_iload (pc := 101) C dX8_judge_101 3 rfl ?_
      refine g_iload_n (pc := 103) C dX8_judge_103 1 rfl rfl ?_
      obtain ⟨r3, h3, hf⟩ := bd_some hf
      refine g_cVi (pc := 104) C (st := []) jW.rf (c_X8_isNumber l D hw h3) y_X8_isNumber tw_747 rfl ⟨by decide, by decide⟩ ⟨Nat.zero_le _, Nat.zero_le _⟩ (Nat.le_of_ble_eq_true rfl) wm_0 cl_X8 rfl dX8_judge_104 rfl ?_
      refine g_if_ne (pc := 107) C 114 dX8_judge_107 (by decide) (fun q4 => ?_) (fun q4 => ?_)
      · replace hf := (if_neg q4).symm.trans hf
        refine g_iload_n (pc := 114) C dX8_judge_114 2 rfl rfl ?_
        refine g_aload_n (pc := 115) C dX8_judge_115 0 rfl rfl ?_
        refine g_iload (pc := 116) C dX8_judge_116 3 rfl ?_
        refine g_iload_n (pc := 118) C dX8_judge_118 1 rfl rfl ?_
        obtain ⟨r5, h5, hf⟩ := bd_some hf
        refine g_cVi (pc := 119) C (st := [.int x3]) jW.rf (c_X8_checkIn l D hw h5) y_X8_checkIn tw_705 rfl ⟨by decide, by decide⟩ ⟨Nat.zero_le _, Nat.zero_le _⟩ (Nat.le_of_ble_eq_true rfl) wm_0 cl_X8 rfl dX8_judge_119 rfl ?_
        refine g_icmp_eq (pc := 122) C 129 dX8_judge_122 (by decide) (fun q6 => ?_) (fun q6 => ?_)
        · replace hf := (if_pos q6).symm.trans hf
          refine g_aload_n (pc := 129) C dX8_judge_129 0 rfl rfl ?_
          refine g_iload (pc := 130) C dX8_judge_130 3 rfl ?_
          refine g_iload_n (pc := 132) C dX8_judge_132 1 rfl rfl ?_
          obtain ⟨r7, h7, hf⟩ := bd_some hf
          refine g_cVi (pc := 133) C (st := []) jW.rf (c_X8_isPrinted l D hw h7) y_X8_isPrinted tw_751 rfl ⟨by decide, by decide⟩ ⟨Nat.zero_le _, Nat.zero_le _⟩ (Nat.le_of_ble_eq_true rfl) wm_0 cl_X8 rfl dX8_judge_133 rfl ?_
          refine g_if_ne (pc := 136) C 143 dX8_judge_136 (by decide) (fun q8 => ?_) (fun q8 => ?_)
          · replace hf := (if_neg q8).symm.trans hf
            refine g_aload_n (pc := 143) C dX8_judge_143 0 rfl rfl ?_
            refine g_iload (pc := 144) C dX8_judge_144 3 rfl ?_
            refine g_iload_n (pc := 146) C dX8_judge_146 1 rfl rfl ?_
            obtain ⟨r9, h9, hf⟩ := bd_some hf
            refine g_cVi (pc := 147) C (st := []) jW.rf (c_X8_starAt l D hw h9) y_X8_starAt tw_767 rfl ⟨by decide, by decide⟩ ⟨Nat.zero_le _, Nat.zero_le _⟩ (Nat.le_of_ble_eq_true rfl) wm_0 cl_X8 rfl dX8_judge_147 rfl ?_
            refine g_bipush (pc := 150) C dX8_judge_150 bp_m4 ?_
            refine g_icmp_eq (pc := 152) C 159 dX8_judge_152 (by decide) (fun q10 => ?_) (fun q10 => ?_)
            · replace hf := (if_pos q10).symm.trans hf
              refine g_iconst (pc := 159) C dX8_judge_159 ic_0 ?_
              cases hf
              exact g_iret (pc := 160) C hr dX8_judge_160
            · replace hf := (if_neg q10).symm.trans hf
              refine g_iconst (pc := 155) C dX8_judge_155 ic_5 ?_
              refine g_goto (pc := 156) C 160 dX8_judge_156 (by decide) ?_
              cases hf
              exact g_iret (pc := 160) C hr dX8_judge_160
          · replace hf := (if_pos q8).symm.trans hf
            refine g_iconst (pc := 139) C dX8_judge_139 ic_4 ?_
            refine g_goto (pc := 140) C 160 dX8_judge_140 (by decide) ?_
            cases hf
            exact g_iret (pc := 160) C hr dX8_judge_160
        · replace hf := (if_neg q6).symm.trans hf
          refine g_iconst (pc := 125) C dX8_judge_125 ic_3 ?_
          refine g_goto (pc := 126) C 160 dX8_judge_126 (by decide) ?_
          cases hf
          exact g_iret (pc := 160) C hr dX8_judge_160
      · replace hf := (if_pos q4).symm.trans hf
        refine g_iconst (pc := 110) C dX8_judge_110 ic_2 ?_
        refine g_goto (pc := 111) C 160 dX8_judge_111 (by decide) ?_
        cases hf
        exact g_iret (pc := 160) C hr dX8_judge_160
    · replace hf := (if_pos q2).symm.trans hf
      refine g_iconst (pc := 98) C dX8_judge_98 ic_1 ?_
      cases hf
      exact g_iret (pc := 99) C hr dX8_judge_99
  have b52 : ∀ (n : Nat) (x4 : Int32) (hf : f_X8_judge_52 n σ x1 x2 x3 x4 = some r), Gg p l e (rmd 5) s m args below meth c D (Pm b) (wm cJ b) 5 0 0 (MQ below ((qI D (wm cJ b) (Pm b) σ r) s.heap.size) args s 0 0 (fR (Pm b) s.heap.size)) σ [(0, .ref (b 0)), (1, .int x1), (2, .int x2), (3, .int x3), (4, .int x4)] 52 [] := by
    intro n
    induction n with
    | zero => intro x4 hf; exact absurd hf (by simp [f_X8_judge_52])
    | succ n ih =>
      intro x4 hf
      rw [f_X8_judge_52] at hf
      refine g_iload (pc := 52) C dX8_judge_52 4 rfl ?_
      refine g_aload_n (pc := 54) C dX8_judge_54 0 rfl rfl ?_
      refine g_get (pc := 55) C in_X8 wm_0 cl_X8 3 (by decide) tw_625 rfl dX8_judge_55 ?_
      refine g_bipush (pc := 58) C dX8_judge_58 bp_23 ?_
      refine g_iald (pc := 60) C 3 wm_2 rfl (by decide) tnn_23 dX8_judge_60 ?_
      refine g_icmp_ge (pc := 61) C 86 dX8_judge_61 (by decide) (fun q12 => ?_) (fun q12 => ?_)
      · replace hf := (if_pos q12).symm.trans hf
        exact g_sub [0, 2, 3, 4] rfl (b86 x4 hf)
      · replace hf := (if_neg q12).symm.trans hf
        refine g_aload_n (pc := 64) C dX8_judge_64 0 rfl rfl ?_
        refine g_get (pc := 65) C in_X8 wm_0 cl_X8 3 (by decide) tw_625 rfl dX8_judge_65 ?_
        refine g_iconst (pc := 68) C dX8_judge_68 ic_4 ?_
        refine g_bipush (pc := 69) C dX8_judge_69 bp_6 ?_
        refine g_iload (pc := 71) C dX8_judge_71 4 rfl ?_
        refine g_imul (pc := 73) C dX8_judge_73 ?_
        refine g_iadd (pc := 74) C dX8_judge_74 ?_
        obtain ⟨q13, hf⟩ := gd_some hf
        refine g_iald (pc := 75) C 3 wm_2 rfl q13 rfl dX8_judge_75 ?_
        refine g_iload_n (pc := 76) C dX8_judge_76 1 rfl rfl ?_
        refine g_icmp_eq (pc := 77) C 86 dX8_judge_77 (by decide) (fun q14 => ?_) (fun q14 => ?_)
        · replace hf := (if_pos q14).symm.trans hf
          exact g_sub [0, 2, 3, 4] rfl (b86 x4 hf)
        · replace hf := (if_neg q14).symm.trans hf
          refine g_iinc (pc := 80) C [(4, .int (x4 + 1)), (0, .ref (b 0)), (1, .int x1), (2, .int x2), (3, .int x3)] 4 dX8_judge_80 rfl ic_1 (by decide) rfl ?_
          refine g_goto (pc := 83) C 52 dX8_judge_83 (by decide) ?_
          exact g_sub [1, 2, 3, 4, 0] rfl (ih (x4 + 1) hf)
  unfold f_X8_judge at hf
  refine g_iload_n (pc := 0) C dX8_judge_0 1 rfl rfl ?_
  refine g_i2l (pc := 1) C dX8_judge_1 ?_
  refine g_lconst (pc := 2) C dX8_judge_2 lc_0 ?_
  refine g_ldc2 (pc := 3) C tw_842 dX8_judge_3 ?_
  obtain ⟨r15, h15, hf⟩ := bd_some hf
  refine g_cSi (pc := 6) C (st := []) jW.rf (c_X8_in l D hw h15) y_X8_in tw_653 rfl ⟨by decide, by decide⟩ ⟨Nat.zero_le _, Nat.zero_le _⟩ (Nat.le_of_ble_eq_true rfl) dX8_judge_6 rfl ?_
  refine g_if_eq (pc := 9) C 36 dX8_judge_9 (by decide) (fun q16 => ?_) (fun q16 => ?_)
  · replace hf := (if_pos q16).symm.trans hf
    refine g_iconst (pc := 36) C dX8_judge_36 ic_m1 ?_
    cases hf
    exact g_iret (pc := 37) C hr dX8_judge_37
  · replace hf := (if_neg q16).symm.trans hf
    refine g_iload_n (pc := 12) C dX8_judge_12 2 rfl rfl ?_
    refine g_i2l (pc := 13) C dX8_judge_13 ?_
    refine g_lconst (pc := 14) C dX8_judge_14 lc_0 ?_
    refine g_ldc2 (pc := 15) C tw_691 dX8_judge_15 ?_
    obtain ⟨r17, h17, hf⟩ := bd_some hf
    refine g_cSi (pc := 18) C (st := []) jW.rf (c_X8_in l D hw h17) y_X8_in tw_653 rfl ⟨by decide, by decide⟩ ⟨Nat.zero_le _, Nat.zero_le _⟩ (Nat.le_of_ble_eq_true rfl) dX8_judge_18 rfl ?_
    refine g_if_eq (pc := 21) C 36 dX8_judge_21 (by decide) (fun q18 => ?_) (fun q18 => ?_)
    · replace hf := (if_pos q18).symm.trans hf
      refine g_iconst (pc := 36) C dX8_judge_36 ic_m1 ?_
      cases hf
      exact g_iret (pc := 37) C hr dX8_judge_37
    · replace hf := (if_neg q18).symm.trans hf
      refine g_iload_n (pc := 24) C dX8_judge_24 3 rfl rfl ?_
      refine g_i2l (pc := 25) C dX8_judge_25 ?_
      refine g_lconst (pc := 26) C dX8_judge_26 lc_0 ?_
      refine g_ldc2 (pc := 27) C tw_843 dX8_judge_27 ?_
      obtain ⟨r19, h19, hf⟩ := bd_some hf
      refine g_cSi (pc := 30) C (st := []) jW.rf (c_X8_in l D hw h19) y_X8_in tw_653 rfl ⟨by decide, by decide⟩ ⟨Nat.zero_le _, Nat.zero_le _⟩ (Nat.le_of_ble_eq_true rfl) dX8_judge_30 rfl ?_
      refine g_if_ne (pc := 33) C 38 dX8_judge_33 (by decide) (fun q20 => ?_) (fun q20 => ?_)
      · replace hf := (if_neg q20).symm.trans hf
        refine g_iload_n (pc := 38) C dX8_judge_38 1 rfl rfl ?_
        refine g_if_ne (pc := 39) C 49 dX8_judge_39 (by decide) (fun q21 => ?_) (fun q21 => ?_)
        · replace hf := (if_neg q21).symm.trans hf
          refine g_iconst (pc := 49) C dX8_judge_49 ic_0 ?_
          refine g_istore (pc := 50) C [(4, .int 0), (0, .ref (b 0)), (1, .int x1), (2, .int x2), (3, .int x3)] dX8_judge_50 (by decide) rfl ?_
          exact g_sub [1, 2, 3, 4, 0] rfl (b52 1000 0 hf)
        · replace hf := (if_pos q21).symm.trans hf
          refine g_aload_n (pc := 42) C dX8_judge_42 0 rfl rfl ?_
          refine g_iload_n (pc := 43) C dX8_judge_43 2 rfl rfl ?_
          refine g_iload_n (pc := 44) C dX8_judge_44 3 rfl rfl ?_
          obtain ⟨r22, h22, hf⟩ := bd_some hf
          refine g_cVi (pc := 45) C (st := []) jW.rf (c_X8_judgeStar l D hw h22) y_X8_judgeStar tw_844 rfl ⟨by decide, by decide⟩ ⟨Nat.zero_le _, Nat.zero_le _⟩ (Nat.le_of_ble_eq_true rfl) wm_0 cl_X8 rfl dX8_judge_45 rfl ?_
          cases hf
          exact g_iret (pc := 48) C hr dX8_judge_48
      · replace hf := (if_pos q20).symm.trans hf
        refine g_iconst (pc := 36) C dX8_judge_36 ic_m1 ?_
        cases hf
        exact g_iret (pc := 37) C hr dX8_judge_37

set_option maxHeartbeats 4000000 in
set_option maxRecDepth 100000 in
theorem c_X8_pack (l : Launch) (D : va_G) {cI cH cE cJ : ClassId} {b : Nat → Nat} (hw : ∀ σ, va_D (Pm b) (wm cJ b σ)) {σ : Me} {x1 : Int32} {x2 : Int32} {x3 : Int32} {r : Int32} (hf : f_X8_pack σ x1 x2 x3 = some r) : Mq l D (tyc cI cH cE cJ) (wm cJ b) (Pm b) yX8_pack cX8_pack 6 (Option.some Jvm.ClassFile.FieldType.int) 6 [.ref (b 0), .int x1, .int x2, .int x3] σ (qI D (wm cJ b) (Pm b) σ r) := by
  refine mOf (plainFor_of_name (by decide)) hw (Nat.le_of_ble_eq_true rfl) [(0, .ref (b 0)), (1, .int x1), (2, .int x2), (3, .int x3)] rfl ?_
  intro p e s m args below meth c C hr
  unfold f_X8_pack at hf
  refine g_aload_n (pc := 0) C dX8_pack_0 0 rfl rfl ?_
  refine g_iload_n (pc := 1) C dX8_pack_1 1 rfl rfl ?_
  obtain ⟨r1, h1, hf⟩ := bd_some hf
  refine g_cVi (pc := 2) C (st := []) jW.rf (c_X8_isSeries l D hw h1) y_X8_isSeries tw_701 rfl ⟨by decide, by decide⟩ ⟨Nat.zero_le _, Nat.zero_le _⟩ (Nat.le_of_ble_eq_true rfl) wm_0 cl_X8 rfl dX8_pack_2 rfl ?_
  refine g_if_eq (pc := 5) C 37 dX8_pack_5 (by decide) (fun q2 => ?_) (fun q2 => ?_)
  · replace hf := (if_pos q2).symm.trans hf
    refine g_iconst (pc := 37) C dX8_pack_37 ic_m1 ?_
    cases hf
    exact g_iret (pc := 38) C hr dX8_pack_38
  · replace hf := (if_neg q2).symm.trans hf
    refine g_iload_n (pc := 8) C dX8_pack_8 2 rfl rfl ?_
    refine g_i2l (pc := 9) C dX8_pack_9 ?_
    refine g_lconst (pc := 10) C dX8_pack_10 lc_0 ?_
    refine g_aload_n (pc := 11) C dX8_pack_11 0 rfl rfl ?_
    refine g_iload_n (pc := 12) C dX8_pack_12 1 rfl rfl ?_
    obtain ⟨r3, h3, hf⟩ := bd_some hf
    refine g_cVi (pc := 13) C (st := [.long 0, .long x2.toInt64]) jW.rf (c_X8_packs l D hw h3) y_X8_packs tw_800 rfl ⟨by decide, by decide⟩ ⟨Nat.zero_le _, Nat.zero_le _⟩ (Nat.le_of_ble_eq_true rfl) wm_0 cl_X8 rfl dX8_pack_13 rfl ?_
    refine g_iconst (pc := 16) C dX8_pack_16 ic_1 ?_
    refine g_isub (pc := 17) C dX8_pack_17 ?_
    refine g_i2l (pc := 18) C dX8_pack_18 ?_
    obtain ⟨r4, h4, hf⟩ := bd_some hf
    refine g_cSi (pc := 19) C (st := []) jW.rf (c_X8_in l D hw h4) y_X8_in tw_653 rfl ⟨by decide, by decide⟩ ⟨Nat.zero_le _, Nat.zero_le _⟩ (Nat.le_of_ble_eq_true rfl) dX8_pack_19 rfl ?_
    refine g_if_eq (pc := 22) C 37 dX8_pack_22 (by decide) (fun q5 => ?_) (fun q5 => ?_)
    · replace hf := (if_pos q5).symm.trans hf
      refine g_iconst (pc := 37) C dX8_pack_37 ic_m1 ?_
      cases hf
      exact g_iret (pc := 38) C hr dX8_pack_38
    · replace hf := (if_neg q5).symm.trans hf
      refine g_iload_n (pc := 25) C dX8_pack_25 3 rfl rfl ?_
      refine g_i2l (pc := 26) C dX8_pack_26 ?_
      refine g_lconst (pc := 27) C dX8_pack_27 lc_0 ?_
      refine g_ldc2 (pc := 28) C tw_852 dX8_pack_28 ?_
      obtain ⟨r6, h6, hf⟩ := bd_some hf
      refine g_cSi (pc := 31) C (st := []) jW.rf (c_X8_in l D hw h6) y_X8_in tw_653 rfl ⟨by decide, by decide⟩ ⟨Nat.zero_le _, Nat.zero_le _⟩ (Nat.le_of_ble_eq_true rfl) dX8_pack_31 rfl ?_
      refine g_if_ne (pc := 34) C 39 dX8_pack_34 (by decide) (fun q7 => ?_) (fun q7 => ?_)
      · replace hf := (if_neg q7).symm.trans hf
        refine g_aload_n (pc := 39) C dX8_pack_39 0 rfl rfl ?_
        refine g_iload_n (pc := 40) C dX8_pack_40 1 rfl rfl ?_
        refine g_iload_n (pc := 41) C dX8_pack_41 2 rfl rfl ?_
        obtain ⟨r8, h8, hf⟩ := bd_some hf
        refine g_cVi (pc := 42) C (st := []) jW.rf (c_X8_isWhole l D hw h8) y_X8_isWhole tw_808 rfl ⟨by decide, by decide⟩ ⟨Nat.zero_le _, Nat.zero_le _⟩ (Nat.le_of_ble_eq_true rfl) wm_0 cl_X8 rfl dX8_pack_42 rfl ?_
        refine g_if_ne (pc := 45) C 51 dX8_pack_45 (by decide) (fun q9 => ?_) (fun q9 => ?_)
        · replace hf := (if_neg q9).symm.trans hf
          refine g_bipush (pc := 51) C dX8_pack_51 bp_10 ?_
          refine g_iload_n (pc := 53) C dX8_pack_53 2 rfl rfl ?_
          refine g_imul (pc := 54) C dX8_pack_54 ?_
          refine g_iload_n (pc := 55) C dX8_pack_55 3 rfl rfl ?_
          refine g_iadd (pc := 56) C dX8_pack_56 ?_
          refine g_istore (pc := 57) C [(4, .int ((10 * x2) + x3)), (0, .ref (b 0)), (1, .int x1), (2, .int x2), (3, .int x3)] dX8_pack_57 (by decide) rfl ?_
          refine g_iload (pc := 59) C dX8_pack_59 0 rfl ?_
          refine g_aload_n (pc := 61) C dX8_pack_61 1 rfl rfl ?_
          refine g_get (pc := 62) C in_X8 wm_0 cl_X8 3 (by decide) tw_625 rfl dX8_pack_62 ?_
          refine g_iload_n (pc := 65) C dX8_pack_65 2 rfl rfl ?_
          obtain ⟨r10, h10, hf⟩ := bd_some hf
          refine g_cSi (pc := 66) C (st := [.int ((10 * x2) + x3)]) jW.rf (c_X8_whole_2 l D hw h10) y_X8_whole tw_688 rfl ⟨by decide, by decide⟩ ⟨Nat.zero_le _, Nat.zero_le _⟩ (Nat.le_of_ble_eq_true rfl) dX8_pack_66 rfl ?_
          refine g_icmp_lt (pc := 69) C 75 dX8_pack_69 (by decide) (fun q11 => ?_) (fun q11 => ?_)
          · replace hf := (if_pos q11).symm.trans hf
            refine g_aload_n (pc := 75) C dX8_pack_75 1 rfl rfl ?_
            refine g_iload_n (pc := 76) C dX8_pack_76 2 rfl rfl ?_
            refine g_iload (pc := 77) C dX8_pack_77 0 rfl ?_
            obtain ⟨r12, h12, hf⟩ := bd_some hf
            refine g_cVi (pc := 79) C (st := []) jW.rf (c_X8_starAt l D hw h12) y_X8_starAt tw_767 rfl ⟨by decide, by decide⟩ ⟨Nat.zero_le _, Nat.zero_le _⟩ (Nat.le_of_ble_eq_true rfl) wm_0 cl_X8 rfl dX8_pack_79 rfl ?_
            refine g_istore (pc := 82) C [(5, .int r12), (4, .int ((10 * x2) + x3)), (0, .ref (b 0)), (1, .int x1), (2, .int x2), (3, .int x3)] dX8_pack_82 (by decide) rfl ?_
            refine g_iload (pc := 84) C dX8_pack_84 0 rfl ?_
            refine g_bipush (pc := 86) C dX8_pack_86 bp_m4 ?_
            refine g_icmp_ne (pc := 88) C 96 dX8_pack_88 (by decide) (fun q13 => ?_) (fun q13 => ?_)
            · replace hf := (if_neg q13).symm.trans hf
              refine g_sipush (pc := 96) C dX8_pack_96 sp_1000 ?_
              refine g_iload (pc := 99) C dX8_pack_99 0 rfl ?_
              refine g_iadd (pc := 101) C dX8_pack_101 ?_
              cases hf
              exact g_iret (pc := 102) C hr dX8_pack_102
            · replace hf := (if_pos q13).symm.trans hf
              refine g_iload (pc := 91) C dX8_pack_91 1 rfl ?_
              refine g_goto (pc := 93) C 102 dX8_pack_93 (by decide) ?_
              cases hf
              exact g_iret (pc := 102) C hr dX8_pack_102
          · replace hf := (if_neg q11).symm.trans hf
            refine g_bipush (pc := 72) C dX8_pack_72 bp_m4 ?_
            cases hf
            exact g_iret (pc := 74) C hr dX8_pack_74
        · replace hf := (if_pos q9).symm.trans hf
          refine g_bipush (pc := 48) C dX8_pack_48 bp_m2 ?_
          cases hf
          exact g_iret (pc := 50) C hr dX8_pack_50
      · replace hf := (if_pos q7).symm.trans hf
        refine g_iconst (pc := 37) C dX8_pack_37 ic_m1 ?_
        cases hf
        exact g_iret (pc := 38) C hr dX8_pack_38

set_option maxHeartbeats 4000000 in
set_option maxRecDepth 100000 in
theorem c_X8_count (l : Launch) (D : va_G) {cI cH cE cJ : ClassId} {b : Nat → Nat} (hw : ∀ σ, va_D (Pm b) (wm cJ b σ)) {σ : Me} {x1 : Int32} {r : Int32} (hf : f_X8_count σ x1 = some r) : Mq l D (tyc cI cH cE cJ) (wm cJ b) (Pm b) yX8_count cX8_count 6 (Option.some Jvm.ClassFile.FieldType.int) 7 [.ref (b 0), .int x1] σ (qI D (wm cJ b) (Pm b) σ r) := by
  refine mOf (plainFor_of_name (by decide)) hw (Nat.le_of_ble_eq_true rfl) [(0, .ref (b 0)), (1, .int x1)] rfl ?_
  intro p e s m args below meth c C hr
  have b61 : ∀ (n : Nat) (x2 : Int32) (x3 : Int32) (x4 : Int32) (x5 : Int32) (hf : f_X8_count_61 n σ x1 x2 x3 x4 x5 = some r), Gg p l e (rmd 7) s m args below meth c D (Pm b) (wm cJ b) 6 0 0 (MQ below ((qI D (wm cJ b) (Pm b) σ r) s.heap.size) args s 0 0 (fR (Pm b) s.heap.size)) σ [(0, .ref (b 0)), (1, .int x1), (2, .int x2), (3, .int x3), (4, .int x4), (5, .int x5)] 61 [] := by
    intro n
    induction n with
    | zero => intro x2 x3 x4 x5 hf; exact absurd hf (by simp [f_X8_count_61])
    | succ n ih =>
      intro x2 x3 x4 x5 hf
      rw [f_X8_count_61] at hf
      refine g_iload (pc := 61) C dX8_count_61 5 rfl ?_
      refine g_bipush (pc := 63) C dX8_count_63 bp_12 ?_
      refine g_icmp_ge (pc := 65) C 84 dX8_count_65 (by decide) (fun q1 => ?_) (fun q1 => ?_)
      · replace hf := (if_pos q1).symm.trans hf
        refine g_iload_n (pc := 84) C dX8_count_84 1 rfl rfl ?_
        by_cases q2 : x1 = 0
        · replace hf := (if_pos q2).symm.trans hf
          refine g_tabIn (pc := 85) C (off := 55) 140 dX8_count_85 (by rw [q2]; decide) (by rw [q2]; decide) (by rw [q2]; rfl) (by decide) ?_
          refine g_aload_n (pc := 140) C dX8_count_140 0 rfl rfl ?_
          refine g_get (pc := 141) C in_X8 wm_0 cl_X8 3 (by decide) tw_625 rfl dX8_count_141 ?_
          refine g_bipush (pc := 144) C dX8_count_144 bp_22 ?_
          refine g_iald (pc := 146) C 3 wm_2 rfl (by decide) tnn_22 dX8_count_146 ?_
          cases hf
          exact g_iret (pc := 147) C hr dX8_count_147
        replace hf := (if_neg q2).symm.trans hf
        by_cases q4 : x1 = 1
        · replace hf := (if_pos q4).symm.trans hf
          refine g_tabIn (pc := 85) C (off := 63) 148 dX8_count_85 (by rw [q4]; decide) (by rw [q4]; decide) (by rw [q4]; rfl) (by decide) ?_
          refine g_aload_n (pc := 148) C dX8_count_148 0 rfl rfl ?_
          refine g_get (pc := 149) C in_X8 wm_0 cl_X8 3 (by decide) tw_625 rfl dX8_count_149 ?_
          refine g_bipush (pc := 152) C dX8_count_152 bp_23 ?_
          refine g_iald (pc := 154) C 3 wm_2 rfl (by decide) tnn_23 dX8_count_154 ?_
          cases hf
          exact g_iret (pc := 155) C hr dX8_count_155
        replace hf := (if_neg q4).symm.trans hf
        by_cases q6 : x1 = 2
        · replace hf := (if_pos q6).symm.trans hf
          refine g_tabIn (pc := 85) C (off := 71) 156 dX8_count_85 (by rw [q6]; decide) (by rw [q6]; decide) (by rw [q6]; rfl) (by decide) ?_
          refine g_aload_n (pc := 156) C dX8_count_156 0 rfl rfl ?_
          refine g_get (pc := 157) C in_X8 wm_0 cl_X8 3 (by decide) tw_625 rfl dX8_count_157 ?_
          refine g_bipush (pc := 160) C dX8_count_160 bp_24 ?_
          refine g_iald (pc := 162) C 3 wm_2 rfl (by decide) tnn_24 dX8_count_162 ?_
          cases hf
          exact g_iret (pc := 163) C hr dX8_count_163
        replace hf := (if_neg q6).symm.trans hf
        by_cases q8 : x1 = 3
        · replace hf := (if_pos q8).symm.trans hf
          refine g_tabIn (pc := 85) C (off := 79) 164 dX8_count_85 (by rw [q8]; decide) (by rw [q8]; decide) (by rw [q8]; rfl) (by decide) ?_
          refine g_aload_n (pc := 164) C dX8_count_164 0 rfl rfl ?_
          refine g_get (pc := 165) C in_X8 wm_0 cl_X8 5 (by decide) tw_627 rfl dX8_count_165 ?_
          refine g_bipush (pc := 168) C dX8_count_168 bp_111 ?_
          refine g_iald (pc := 170) C 3 wm_4 rfl (by decide) tnn_111 dX8_count_170 ?_
          cases hf
          exact g_iret (pc := 171) C hr dX8_count_171
        replace hf := (if_neg q8).symm.trans hf
        by_cases q10 : x1 = 4
        · replace hf := (if_pos q10).symm.trans hf
          refine g_tabIn (pc := 85) C (off := 87) 172 dX8_count_85 (by rw [q10]; decide) (by rw [q10]; decide) (by rw [q10]; rfl) (by decide) ?_
          refine g_iload_n (pc := 172) C dX8_count_172 2 rfl rfl ?_
          cases hf
          exact g_iret (pc := 173) C hr dX8_count_173
        replace hf := (if_neg q10).symm.trans hf
        by_cases q11 : x1 = 5
        · replace hf := (if_pos q11).symm.trans hf
          refine g_tabIn (pc := 85) C (off := 79) 164 dX8_count_85 (by rw [q11]; decide) (by rw [q11]; decide) (by rw [q11]; rfl) (by decide) ?_
          refine g_aload_n (pc := 164) C dX8_count_164 0 rfl rfl ?_
          refine g_get (pc := 165) C in_X8 wm_0 cl_X8 5 (by decide) tw_627 rfl dX8_count_165 ?_
          refine g_bipush (pc := 168) C dX8_count_168 bp_111 ?_
          refine g_iald (pc := 170) C 3 wm_4 rfl (by decide) tnn_111 dX8_count_170 ?_
          cases hf
          exact g_iret (pc := 171) C hr dX8_count_171
        replace hf := (if_neg q11).symm.trans hf
        by_cases q13 : x1 = 6
        · replace hf := (if_pos q13).symm.trans hf
          refine g_tabIn (pc := 85) C (off := 89) 174 dX8_count_85 (by rw [q13]; decide) (by rw [q13]; decide) (by rw [q13]; rfl) (by decide) ?_
          refine g_iload_n (pc := 174) C dX8_count_174 3 rfl rfl ?_
          cases hf
          exact g_iret (pc := 175) C hr dX8_count_175
        replace hf := (if_neg q13).symm.trans hf
        by_cases q14 : x1 = 7
        · replace hf := (if_pos q14).symm.trans hf
          refine g_tabIn (pc := 85) C (off := 91) 176 dX8_count_85 (by rw [q14]; decide) (by rw [q14]; decide) (by rw [q14]; rfl) (by decide) ?_
          refine g_iload (pc := 176) C dX8_count_176 4 rfl ?_
          cases hf
          exact g_iret (pc := 178) C hr dX8_count_178
        replace hf := (if_neg q14).symm.trans hf
        by_cases q15 : x1 = 8
        · replace hf := (if_pos q15).symm.trans hf
          refine g_tabIn (pc := 85) C (off := 94) 179 dX8_count_85 (by rw [q15]; decide) (by rw [q15]; decide) (by rw [q15]; rfl) (by decide) ?_
          refine g_aload_n (pc := 179) C dX8_count_179 0 rfl rfl ?_
          refine g_get (pc := 180) C in_X8 wm_0 cl_X8 7 (by decide) tw_629 rfl dX8_count_180 ?_
          cases hf
          exact g_iret (pc := 183) C hr dX8_count_183
        replace hf := (if_neg q15).symm.trans hf
        by_cases q16 : x1 = 9
        · replace hf := (if_pos q16).symm.trans hf
          refine g_tabIn (pc := 85) C (off := 99) 184 dX8_count_85 (by rw [q16]; decide) (by rw [q16]; decide) (by rw [q16]; rfl) (by decide) ?_
          refine g_aload_n (pc := 184) C dX8_count_184 0 rfl rfl ?_
          refine g_get (pc := 185) C in_X8 wm_0 cl_X8 0 (by decide) tw_622 rfl dX8_count_185 ?_
          cases hf
          exact g_iret (pc := 188) C hr dX8_count_188
        replace hf := (if_neg q16).symm.trans hf
        refine g_tabOut (pc := 85) C 189 dX8_count_85 (by have zq2 := lv_neT q2 (a := 0) rfl; have zq4 := lv_neT q4 (a := 1) rfl; have zq6 := lv_neT q6 (a := 2) rfl; have zq8 := lv_neT q8 (a := 3) rfl; have zq10 := lv_neT q10 (a := 4) rfl; have zq11 := lv_neT q11 (a := 5) rfl; have zq13 := lv_neT q13 (a := 6) rfl; have zq14 := lv_neT q14 (a := 7) rfl; have zq15 := lv_neT q15 (a := 8) rfl; have zq16 := lv_neT q16 (a := 9) rfl; omega) (by decide) ?_
        refine g_iconst (pc := 189) C dX8_count_189 ic_m1 ?_
        cases hf
        exact g_iret (pc := 190) C hr dX8_count_190
      · replace hf := (if_neg q1).symm.trans hf
        refine g_iload_n (pc := 68) C dX8_count_68 3 rfl rfl ?_
        refine g_aload_n (pc := 69) C dX8_count_69 0 rfl rfl ?_
        refine g_get (pc := 70) C in_X8 wm_0 cl_X8 5 (by decide) tw_627 rfl dX8_count_70 ?_
        refine g_iload (pc := 73) C dX8_count_73 5 rfl ?_
        obtain ⟨q17, hf⟩ := gd_some hf
        refine g_iald (pc := 75) C 3 wm_4 rfl q17 rfl dX8_count_75 ?_
        refine g_iadd (pc := 76) C dX8_count_76 ?_
        refine g_istore_n (pc := 77) C [(3, .int (x3 + (σ 4 x5.toNatClampNeg))), (0, .ref (b 0)), (1, .int x1), (2, .int x2), (4, .int x4), (5, .int x5)] dX8_count_77 rfl (by decide) rfl ?_
        refine g_iinc (pc := 78) C [(5, .int (x5 + 1)), (3, .int (x3 + (σ 4 x5.toNatClampNeg))), (0, .ref (b 0)), (1, .int x1), (2, .int x2), (4, .int x4)] 5 dX8_count_78 rfl ic_1 (by decide) rfl ?_
        refine g_goto (pc := 81) C 61 dX8_count_81 (by decide) ?_
        exact g_sub [2, 3, 4, 1, 5, 0] rfl (ih x2 (x3 + (σ 4 x5.toNatClampNeg)) x4 (x5 + 1) hf)
  have b10 : ∀ (n : Nat) (x2 : Int32) (x3 : Int32) (x4 : Int32) (x5 : Int32) (hf : f_X8_count_10 n σ x1 x2 x3 x4 x5 = some r), Gg p l e (rmd 7) s m args below meth c D (Pm b) (wm cJ b) 6 0 0 (MQ below ((qI D (wm cJ b) (Pm b) σ r) s.heap.size) args s 0 0 (fR (Pm b) s.heap.size)) σ [(0, .ref (b 0)), (1, .int x1), (2, .int x2), (3, .int x3), (4, .int x4), (5, .int x5)] 10 [] := by
    intro n
    induction n with
    | zero => intro x2 x3 x4 x5 hf; exact absurd hf (by simp [f_X8_count_10])
    | succ n ih =>
      intro x2 x3 x4 x5 hf
      rw [f_X8_count_10] at hf
      refine g_iload (pc := 10) C dX8_count_10 5 rfl ?_
      refine g_aload_n (pc := 12) C dX8_count_12 0 rfl rfl ?_
      refine g_get (pc := 13) C in_X8 wm_0 cl_X8 3 (by decide) tw_625 rfl dX8_count_13 ?_
      refine g_bipush (pc := 16) C dX8_count_16 bp_23 ?_
      refine g_iald (pc := 18) C 3 wm_2 rfl (by decide) tnn_23 dX8_count_18 ?_
      refine g_icmp_ge (pc := 19) C 58 dX8_count_19 (by decide) (fun q19 => ?_) (fun q19 => ?_)
      · replace hf := (if_pos q19).symm.trans hf
        refine g_iconst (pc := 58) C dX8_count_58 ic_0 ?_
        refine g_istore (pc := 59) C [(5, .int 0), (0, .ref (b 0)), (1, .int x1), (2, .int x2), (3, .int x3), (4, .int x4)] dX8_count_59 (by decide) rfl ?_
        exact g_sub [1, 2, 3, 4, 5, 0] rfl (b61 1000 x2 x3 x4 0 hf)
      · replace hf := (if_neg q19).symm.trans hf
        refine g_iload_n (pc := 22) C dX8_count_22 2 rfl rfl ?_
        refine g_aload_n (pc := 23) C dX8_count_23 0 rfl rfl ?_
        refine g_iload (pc := 24) C dX8_count_24 5 rfl ?_
        obtain ⟨r20, h20, hf⟩ := bd_some hf
        refine g_cVi (pc := 26) C (st := [.int x2]) jW.rf (c_X8_printed l D hw h20) y_X8_printed tw_788 rfl ⟨by decide, by decide⟩ ⟨Nat.zero_le _, Nat.zero_le _⟩ (Nat.le_of_ble_eq_true rfl) wm_0 cl_X8 rfl dX8_count_26 rfl ?_
        refine g_iadd (pc := 29) C dX8_count_29 ?_
        refine g_istore_n (pc := 30) C [(2, .int (x2 + r20)), (0, .ref (b 0)), (1, .int x1), (3, .int x3), (4, .int x4), (5, .int x5)] dX8_count_30 rfl (by decide) rfl ?_
        refine g_iload (pc := 31) C dX8_count_31 4 rfl ?_
        refine g_iload_n (pc := 33) C dX8_count_33 2 rfl rfl ?_
        refine g_bipush (pc := 34) C dX8_count_34 bp_7 ?_
        refine g_icmp_ne (pc := 36) C 48 dX8_count_36 (by decide) (fun q21 => ?_) (fun q21 => ?_)
        · replace hf := (if_neg q21).symm.trans hf
          refine g_iconst (pc := 48) C dX8_count_48 ic_0 ?_
          refine g_iadd (pc := 49) C dX8_count_49 ?_
          refine g_istore (pc := 50) C [(4, .int (x4 + 0)), (2, .int (x2 + r20)), (0, .ref (b 0)), (1, .int x1), (3, .int x3), (5, .int x5)] dX8_count_50 (by decide) rfl ?_
          refine g_iinc (pc := 52) C [(5, .int (x5 + 1)), (4, .int (x4 + 0)), (2, .int (x2 + r20)), (0, .ref (b 0)), (1, .int x1), (3, .int x3)] 5 dX8_count_52 rfl ic_1 (by decide) rfl ?_
          refine g_goto (pc := 55) C 10 dX8_count_55 (by decide) ?_
          exact g_sub [3, 4, 2, 5, 1, 0] rfl (ih (x2 + r20) x3 (x4 + 0) (x5 + 1) hf)
        · replace hf := (if_pos q21).symm.trans hf
          refine g_aload_n (pc := 39) C dX8_count_39 1 rfl rfl ?_
          refine g_iload (pc := 40) C dX8_count_40 5 rfl ?_
          obtain ⟨r22, h22, hf⟩ := bd_some hf
          refine g_cVi (pc := 42) C (st := [.int x4]) jW.rf (c_X8_wholes l D hw h22) y_X8_wholes tw_804 rfl ⟨by decide, by decide⟩ ⟨Nat.zero_le _, Nat.zero_le _⟩ (Nat.le_of_ble_eq_true rfl) wm_0 cl_X8 rfl dX8_count_42 rfl ?_
          refine g_goto (pc := 45) C 49 dX8_count_45 (by decide) ?_
          refine g_iadd (pc := 49) C dX8_count_49 ?_
          refine g_istore (pc := 50) C [(4, .int (x4 + r22)), (2, .int (x2 + r20)), (0, .ref (b 0)), (1, .int x1), (3, .int x3), (5, .int x5)] dX8_count_50 (by decide) rfl ?_
          refine g_iinc (pc := 52) C [(5, .int (x5 + 1)), (4, .int (x4 + r22)), (2, .int (x2 + r20)), (0, .ref (b 0)), (1, .int x1), (3, .int x3)] 5 dX8_count_52 rfl ic_1 (by decide) rfl ?_
          refine g_goto (pc := 55) C 10 dX8_count_55 (by decide) ?_
          exact g_sub [3, 4, 2, 5, 1, 0] rfl (ih (x2 + r20) x3 (x4 + r22) (x5 + 1) hf)
  unfold f_X8_count at hf
  refine g_iconst (pc := 0) C dX8_count_0 ic_0 ?_
  refine g_istore_n (pc := 1) C [(2, .int 0), (0, .ref (b 0)), (1, .int x1)] dX8_count_1 rfl (by decide) rfl ?_
  refine g_iconst (pc := 2) C dX8_count_2 ic_0 ?_
  refine g_istore_n (pc := 3) C [(3, .int 0), (2, .int 0), (0, .ref (b 0)), (1, .int x1)] dX8_count_3 rfl (by decide) rfl ?_
  refine g_iconst (pc := 4) C dX8_count_4 ic_0 ?_
  refine g_istore (pc := 5) C [(4, .int 0), (3, .int 0), (2, .int 0), (0, .ref (b 0)), (1, .int x1)] dX8_count_5 (by decide) rfl ?_
  refine g_iconst (pc := 7) C dX8_count_7 ic_0 ?_
  refine g_istore (pc := 8) C [(5, .int 0), (4, .int 0), (3, .int 0), (2, .int 0), (0, .ref (b 0)), (1, .int x1)] dX8_count_8 (by decide) rfl ?_
  exact g_sub [4, 5, 3, 2, 1, 0] rfl (b10 1000 0 0 0 0 hf)
