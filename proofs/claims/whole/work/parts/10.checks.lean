set_option maxHeartbeats 4000000 in
set_option maxRecDepth 100000 in
theorem c_J9_max_7cf53 (l : Launch) (D : va_G) {cI cH cE cJ : ClassId} {a : Nat → Nat} (hw : ∀ σ, va_D (Pc a) (wc cI cH cE a σ)) {σ : Me} {x0 : Int32} {x1 : Int32} {r : Int32} (hf : f_J9_max_7cf53 x0 x1 = some r) : Mq l D (tyc cI cH cE cJ) (wc cI cH cE a) (Pc a) yJ9_max_7cf53 cJ9_max_7cf53 2 (Option.some Jvm.ClassFile.FieldType.int) 0 [.int x0, .int x1] σ (qI D (wc cI cH cE a) (Pc a) σ r) := by
  refine mOf (by decide +kernel) hw (Nat.le_of_ble_eq_true rfl) [(0, .int x0), (1, .int x1)] rfl ?_
  intro p e s m args below meth c C hr
  unfold f_J9_max_7cf53 at hf
  refine g_iload_n (pc := 0) C dJ9_max_7cf53_0 0 rfl rfl ?_
  refine g_iload_n (pc := 1) C dJ9_max_7cf53_1 1 rfl rfl ?_
  refine g_icmp_lt (pc := 2) C 9 dJ9_max_7cf53_2 (by decide) (fun q1 => ?_) (fun q1 => ?_)
  · replace hf := (if_pos q1).symm.trans hf
    refine g_iload_n (pc := 9) C dJ9_max_7cf53_9 1 rfl rfl ?_
    cases hf
    exact g_iret (pc := 10) C hr dJ9_max_7cf53_10
  · replace hf := (if_neg q1).symm.trans hf
    refine g_iload_n (pc := 5) C dJ9_max_7cf53_5 0 rfl rfl ?_
    refine g_goto (pc := 6) C 10 dJ9_max_7cf53_6 (by decide) ?_
    cases hf
    exact g_iret (pc := 10) C hr dJ9_max_7cf53_10

set_option maxHeartbeats 4000000 in
set_option maxRecDepth 100000 in
theorem c_J9_floorMod_7cf53 (l : Launch) (D : va_G) {cI cH cE cJ : ClassId} {a : Nat → Nat} (hw : ∀ σ, va_D (Pc a) (wc cI cH cE a σ)) {σ : Me} {x0 : Int32} {x1 : Int32} {r : Int32} (hf : f_J9_floorMod_7cf53 x0 x1 = some r) : Mq l D (tyc cI cH cE cJ) (wc cI cH cE a) (Pc a) yJ9_floorMod_7cf53 cJ9_floorMod_7cf53 3 (Option.some Jvm.ClassFile.FieldType.int) 0 [.int x0, .int x1] σ (qI D (wc cI cH cE a) (Pc a) σ r) := by
  refine mOf (by decide +kernel) hw (Nat.le_of_ble_eq_true rfl) [(0, .int x0), (1, .int x1)] rfl ?_
  intro p e s m args below meth c C hr
  unfold f_J9_floorMod_7cf53 at hf
  refine g_iload_n (pc := 0) C dJ9_floorMod_7cf53_0 0 rfl rfl ?_
  refine g_iload_n (pc := 1) C dJ9_floorMod_7cf53_1 1 rfl rfl ?_
  obtain ⟨q1, hf⟩ := gd_some hf
  refine g_irem (pc := 2) C dJ9_floorMod_7cf53_2 (of_decide_eq_true q1) ?_
  refine g_istore_n (pc := 3) C [(2, .int (x0 - x0 / x1 * x1)), (0, .int x0), (1, .int x1)] dJ9_floorMod_7cf53_3 rfl (by decide) rfl ?_
  refine g_iload_n (pc := 4) C dJ9_floorMod_7cf53_4 1 rfl rfl ?_
  refine g_iload_n (pc := 5) C dJ9_floorMod_7cf53_5 2 rfl rfl ?_
  refine g_ixor (pc := 6) C dJ9_floorMod_7cf53_6 ?_
  refine g_if_ge (pc := 7) C 18 dJ9_floorMod_7cf53_7 (by decide) (fun q2 => ?_) (fun q2 => ?_)
  · replace hf := (if_pos q2).symm.trans hf
    refine g_iload_n (pc := 18) C dJ9_floorMod_7cf53_18 0 rfl rfl ?_
    cases hf
    exact g_iret (pc := 19) C hr dJ9_floorMod_7cf53_19
  · replace hf := (if_neg q2).symm.trans hf
    refine g_iload_n (pc := 10) C dJ9_floorMod_7cf53_10 0 rfl rfl ?_
    refine g_if_eq (pc := 11) C 18 dJ9_floorMod_7cf53_11 (by decide) (fun q3 => ?_) (fun q3 => ?_)
    · replace hf := (if_pos q3).symm.trans hf
      refine g_iload_n (pc := 18) C dJ9_floorMod_7cf53_18 0 rfl rfl ?_
      cases hf
      exact g_iret (pc := 19) C hr dJ9_floorMod_7cf53_19
    · replace hf := (if_neg q3).symm.trans hf
      refine g_iload_n (pc := 14) C dJ9_floorMod_7cf53_14 0 rfl rfl ?_
      refine g_iload_n (pc := 15) C dJ9_floorMod_7cf53_15 2 rfl rfl ?_
      refine g_iadd (pc := 16) C dJ9_floorMod_7cf53_16 ?_
      cases hf
      exact g_iret (pc := 17) C hr dJ9_floorMod_7cf53_17

set_option maxHeartbeats 4000000 in
set_option maxRecDepth 100000 in
theorem c_X1_make (l : Launch) (D : va_G) {cI cH cE cJ : ClassId} {a : Nat → Nat} (hw : ∀ σ, va_D (Pc a) (wc cI cH cE a σ)) {σ : Me} {x0 : Int32} {x1 : Int32} {r : Int32} (hf : f_X1_make x0 x1 = some r) : Mq l D (tyc cI cH cE cJ) (wc cI cH cE a) (Pc a) yX1_make cX1_make 3 (Option.some Jvm.ClassFile.FieldType.int) 0 [.int x0, .int x1] σ (qI D (wc cI cH cE a) (Pc a) σ r) := by
  refine mOf (plainFor_of_name (by decide)) hw (Nat.le_of_ble_eq_true rfl) [(0, .int x0), (1, .int x1)] rfl ?_
  intro p e s m args below meth c C hr
  have b20 : ∀ (t0 : Int32) (hf : f_X1_make_20 x0 x1 t0 = some r), Gg p l e (rmd 0) s m args below meth c D (Pc a) (wc cI cH cE a) 3 0 0 (MQ below ((qI D (wc cI cH cE a) (Pc a) σ r) s.heap.size) args s 0 0 (fR (Pc a) s.heap.size)) σ [(0, .int x0), (1, .int x1)] 20 [.int t0] := by
    intro  t0 hf
    unfold f_X1_make_20 at hf
    refine g_istore_n (pc := 20) C [(2, .int t0), (0, .int x0), (1, .int x1)] dX1_make_20 rfl (by decide) rfl ?_
    refine g_iload_n (pc := 21) C dX1_make_21 1 rfl rfl ?_
    refine g_iconst (pc := 22) C dX1_make_22 ic_5 ?_
    refine g_icmp_ge (pc := 23) C 30 dX1_make_23 (by decide) (fun q1 => ?_) (fun q1 => ?_)
    · replace hf := (if_pos q1).symm.trans hf
      refine g_iconst (pc := 30) C dX1_make_30 ic_0 ?_
      refine g_iload_n (pc := 31) C dX1_make_31 2 rfl rfl ?_
      refine g_iconst (pc := 32) C dX1_make_32 ic_5 ?_
      refine g_icmp_ge (pc := 33) C 40 dX1_make_33 (by decide) (fun q2 => ?_) (fun q2 => ?_)
      · replace hf := (if_pos q2).symm.trans hf
        refine g_iconst (pc := 40) C dX1_make_40 ic_0 ?_
        refine g_icmp_ne (pc := 41) C 48 dX1_make_41 (by decide) (fun q3 => ?_) (fun q3 => ?_)
        · replace hf := (if_neg q3).symm.trans hf
          refine g_iconst (pc := 48) C dX1_make_48 ic_5 ?_
          refine g_iload_n (pc := 49) C dX1_make_49 0 rfl rfl ?_
          refine g_iadd (pc := 50) C dX1_make_50 ?_
          cases hf
          exact g_iret (pc := 51) C hr dX1_make_51
        · replace hf := (if_pos q3).symm.trans hf
          refine g_iload_n (pc := 44) C dX1_make_44 0 rfl rfl ?_
          refine g_goto (pc := 45) C 51 dX1_make_45 (by decide) ?_
          cases hf
          exact g_iret (pc := 51) C hr dX1_make_51
      · replace hf := (if_neg q2).symm.trans hf
        refine g_iconst (pc := 36) C dX1_make_36 ic_1 ?_
        refine g_goto (pc := 37) C 41 dX1_make_37 (by decide) ?_
        refine g_icmp_ne (pc := 41) C 48 dX1_make_41 (by decide) (fun q4 => ?_) (fun q4 => ?_)
        · replace hf := (if_neg q4).symm.trans hf
          refine g_iconst (pc := 48) C dX1_make_48 ic_5 ?_
          refine g_iload_n (pc := 49) C dX1_make_49 0 rfl rfl ?_
          refine g_iadd (pc := 50) C dX1_make_50 ?_
          cases hf
          exact g_iret (pc := 51) C hr dX1_make_51
        · replace hf := (if_pos q4).symm.trans hf
          refine g_iload_n (pc := 44) C dX1_make_44 0 rfl rfl ?_
          refine g_goto (pc := 45) C 51 dX1_make_45 (by decide) ?_
          cases hf
          exact g_iret (pc := 51) C hr dX1_make_51
    · replace hf := (if_neg q1).symm.trans hf
      refine g_iconst (pc := 26) C dX1_make_26 ic_1 ?_
      refine g_goto (pc := 27) C 31 dX1_make_27 (by decide) ?_
      refine g_iload_n (pc := 31) C dX1_make_31 2 rfl rfl ?_
      refine g_iconst (pc := 32) C dX1_make_32 ic_5 ?_
      refine g_icmp_ge (pc := 33) C 40 dX1_make_33 (by decide) (fun q5 => ?_) (fun q5 => ?_)
      · replace hf := (if_pos q5).symm.trans hf
        refine g_iconst (pc := 40) C dX1_make_40 ic_0 ?_
        refine g_icmp_ne (pc := 41) C 48 dX1_make_41 (by decide) (fun q6 => ?_) (fun q6 => ?_)
        · replace hf := (if_neg q6).symm.trans hf
          refine g_iconst (pc := 48) C dX1_make_48 ic_5 ?_
          refine g_iload_n (pc := 49) C dX1_make_49 0 rfl rfl ?_
          refine g_iadd (pc := 50) C dX1_make_50 ?_
          cases hf
          exact g_iret (pc := 51) C hr dX1_make_51
        · replace hf := (if_pos q6).symm.trans hf
          refine g_iload_n (pc := 44) C dX1_make_44 0 rfl rfl ?_
          refine g_goto (pc := 45) C 51 dX1_make_45 (by decide) ?_
          cases hf
          exact g_iret (pc := 51) C hr dX1_make_51
      · replace hf := (if_neg q5).symm.trans hf
        refine g_iconst (pc := 36) C dX1_make_36 ic_1 ?_
        refine g_goto (pc := 37) C 41 dX1_make_37 (by decide) ?_
        refine g_icmp_ne (pc := 41) C 48 dX1_make_41 (by decide) (fun q7 => ?_) (fun q7 => ?_)
        · replace hf := (if_neg q7).symm.trans hf
          refine g_iconst (pc := 48) C dX1_make_48 ic_5 ?_
          refine g_iload_n (pc := 49) C dX1_make_49 0 rfl rfl ?_
          refine g_iadd (pc := 50) C dX1_make_50 ?_
          cases hf
          exact g_iret (pc := 51) C hr dX1_make_51
        · replace hf := (if_pos q7).symm.trans hf
          refine g_iload_n (pc := 44) C dX1_make_44 0 rfl rfl ?_
          refine g_goto (pc := 45) C 51 dX1_make_45 (by decide) ?_
          cases hf
          exact g_iret (pc := 51) C hr dX1_make_51
  unfold f_X1_make at hf
  refine g_iload_n (pc := 0) C dX1_make_0 0 rfl rfl ?_
  refine g_iconst (pc := 1) C dX1_make_1 ic_5 ?_
  refine g_icmp_ge (pc := 2) C 13 dX1_make_2 (by decide) (fun q8 => ?_) (fun q8 => ?_)
  · replace hf := (if_pos q8).symm.trans hf
    refine g_iload_n (pc := 13) C dX1_make_13 0 rfl rfl ?_
    refine g_iload_n (pc := 14) C dX1_make_14 1 rfl rfl ?_
    refine g_isub (pc := 15) C dX1_make_15 ?_
    refine g_iconst (pc := 16) C dX1_make_16 ic_5 ?_
    refine g_iadd (pc := 17) C dX1_make_17 ?_
    refine g_iconst (pc := 18) C dX1_make_18 ic_5 ?_
    refine g_irem (pc := 19) C dX1_make_19 (by decide) ?_
    exact g_sub [0, 1] rfl (b20 (((x0 - x1) + 5) - ((x0 - x1) + 5) / 5 * 5) hf)
  · replace hf := (if_neg q8).symm.trans hf
    refine g_iload_n (pc := 5) C dX1_make_5 0 rfl rfl ?_
    refine g_iload_n (pc := 6) C dX1_make_6 1 rfl rfl ?_
    refine g_iadd (pc := 7) C dX1_make_7 ?_
    refine g_iconst (pc := 8) C dX1_make_8 ic_5 ?_
    refine g_irem (pc := 9) C dX1_make_9 (by decide) ?_
    refine g_goto (pc := 10) C 20 dX1_make_10 (by decide) ?_
    exact g_sub [0, 1] rfl (b20 ((x0 + x1) - (x0 + x1) / 5 * 5) hf)

set_option maxHeartbeats 4000000 in
set_option maxRecDepth 100000 in
theorem c_X7_isFromTo (l : Launch) (D : va_G) {cI cH cE cJ : ClassId} {a : Nat → Nat} (hw : ∀ σ, va_D (Pc a) (wc cI cH cE a σ)) {σ : Me} {x0 : Int32} {x1 : Int32} {x2 : Int32} {r : Bool} (hf : f_X7_isFromTo x0 x1 x2 = some r) : Mq l D (tyc cI cH cE cJ) (wc cI cH cE a) (Pc a) yX7_isFromTo cX7_isFromTo 3 (Option.some Jvm.ClassFile.FieldType.boolean) 0 [.int x0, .int x1, .int x2] σ (qI D (wc cI cH cE a) (Pc a) σ (bI r)) := by
  refine mOf (plainFor_of_name (by decide)) hw (Nat.le_of_ble_eq_true rfl) [(0, .int x0), (1, .int x1), (2, .int x2)] rfl ?_
  intro p e s m args below meth c C hr
  unfold f_X7_isFromTo at hf
  refine g_iload_n (pc := 0) C dX7_isFromTo_0 0 rfl rfl ?_
  refine g_iload_n (pc := 1) C dX7_isFromTo_1 1 rfl rfl ?_
  refine g_icmp_lt (pc := 2) C 14 dX7_isFromTo_2 (by decide) (fun q1 => ?_) (fun q1 => ?_)
  · replace hf := (if_pos q1).symm.trans hf
    refine g_iconst (pc := 14) C dX7_isFromTo_14 ic_0 ?_
    cases hf
    exact g_zret (pc := 15) (b := false) C hr dX7_isFromTo_15
  · replace hf := (if_neg q1).symm.trans hf
    refine g_iload_n (pc := 5) C dX7_isFromTo_5 0 rfl rfl ?_
    refine g_iload_n (pc := 6) C dX7_isFromTo_6 2 rfl rfl ?_
    refine g_icmp_gt (pc := 7) C 14 dX7_isFromTo_7 (by decide) (fun q2 => ?_) (fun q2 => ?_)
    · replace hf := (if_pos q2).symm.trans hf
      refine g_iconst (pc := 14) C dX7_isFromTo_14 ic_0 ?_
      cases hf
      exact g_zret (pc := 15) (b := false) C hr dX7_isFromTo_15
    · replace hf := (if_neg q2).symm.trans hf
      refine g_iconst (pc := 10) C dX7_isFromTo_10 ic_1 ?_
      refine g_goto (pc := 11) C 15 dX7_isFromTo_11 (by decide) ?_
      cases hf
      exact g_zret (pc := 15) (b := true) C hr dX7_isFromTo_15

set_option maxHeartbeats 4000000 in
set_option maxRecDepth 100000 in
theorem c_X1_turned (l : Launch) (D : va_G) {cI cH cE cJ : ClassId} {a : Nat → Nat} (hw : ∀ σ, va_D (Pc a) (wc cI cH cE a σ)) {σ : Me} {x0 : Int32} {x1 : Int32} {r : Int32} (hf : f_X1_turned x0 x1 = some r) : Mq l D (tyc cI cH cE cJ) (wc cI cH cE a) (Pc a) yX1_turned cX1_turned 4 (Option.some Jvm.ClassFile.FieldType.int) 1 [.int x0, .int x1] σ (qI D (wc cI cH cE a) (Pc a) σ r) := by
  refine mOf (plainFor_of_name (by decide)) hw (Nat.le_of_ble_eq_true rfl) [(0, .int x0), (1, .int x1)] rfl ?_
  intro p e s m args below meth c C hr
  have b4 : ∀ (n : Nat) (x2 : Int32) (x3 : Int32) (hf : f_X1_turned_4 n x1 x2 x3 = some r), Gg p l e (rmd 1) s m args below meth c D (Pc a) (wc cI cH cE a) 4 0 0 (MQ below ((qI D (wc cI cH cE a) (Pc a) σ r) s.heap.size) args s 0 0 (fR (Pc a) s.heap.size)) σ [(1, .int x1), (2, .int x2), (3, .int x3)] 4 [] := by
    intro n
    induction n with
    | zero => intro x2 x3 hf; exact absurd hf (by simp [f_X1_turned_4])
    | succ n ih =>
      intro x2 x3 hf
      rw [f_X1_turned_4] at hf
      refine g_iload_n (pc := 4) C dX1_turned_4 2 rfl rfl ?_
      refine g_iload_n (pc := 5) C dX1_turned_5 0 rfl rfl ?_
      refine g_icmp_ge (pc := 6) C 35 dX1_turned_6 (by decide) (fun q1 => ?_) (fun q1 => ?_)
      · replace hf := (if_pos q1).symm.trans hf
        refine g_iload_n (pc := 35) C dX1_turned_35 1 rfl rfl ?_
        cases hf
        exact g_iret (pc := 36) C hr dX1_turned_36
      · replace hf := (if_neg q1).symm.trans hf
        refine g_iload_n (pc := 9) C dX1_turned_9 1 rfl rfl ?_
        refine g_iconst (pc := 10) C dX1_turned_10 ic_0 ?_
        refine g_bipush (pc := 11) C dX1_turned_11 bp_9 ?_
        obtain ⟨r2, h2, hf⟩ := bd_some hf
        refine g_cNi (pc := 13) C (st := []) jW.rf (c_X7_isFromTo l D hw h2) y_X7_isFromTo tn_29 rfl ⟨by decide, by decide⟩ ⟨Nat.zero_le _, Nat.zero_le _⟩ (Nat.le_of_ble_eq_true rfl) dX1_turned_13 rfl ?_
        refine g_if_eq (pc := 16) C 27 dX1_turned_16 (by decide) (fun q3 => ?_) (fun q3 => ?_)
        · replace hf := (if_pos q3).symm.trans hf
          refine g_iconst (pc := 27) C dX1_turned_27 ic_0 ?_
          refine g_istore_n (pc := 28) C [(2, .int 0), (1, .int x1), (3, .int x3)] dX1_turned_28 rfl (by decide) rfl ?_
          refine g_iinc (pc := 29) C [(3, .int (x3 + 1)), (2, .int 0), (1, .int x1)] 2 dX1_turned_29 rfl ic_1 (by decide) rfl ?_
          refine g_goto (pc := 32) C 4 dX1_turned_32 (by decide) ?_
          exact g_sub [2, 1, 0] rfl (ih 0 (x3 + 1) hf)
        · replace hf := (if_neg q3).symm.trans hf
          refine g_turned (pc := 19) C tw_531 dX1_turned_19 (fun tt4 htt4 => ?_)
          refine g_iload_n (pc := 22) C dX1_turned_22 1 rfl rfl ?_
          obtain ⟨q5, hf⟩ := gd_some hf
          refine g_tald (pc := 23) C htt4 q5 dX1_turned_23 ?_
          refine g_goto (pc := 24) C 28 dX1_turned_24 (by decide) ?_
          refine g_istore_n (pc := 28) C [(2, .int (turnT x2.toNatClampNeg)), (1, .int x1), (3, .int x3)] dX1_turned_28 rfl (by decide) rfl ?_
          refine g_iinc (pc := 29) C [(3, .int (x3 + 1)), (2, .int (turnT x2.toNatClampNeg)), (1, .int x1)] 2 dX1_turned_29 rfl ic_1 (by decide) rfl ?_
          refine g_goto (pc := 32) C 4 dX1_turned_32 (by decide) ?_
          exact g_sub [2, 1, 0] rfl (ih (turnT x2.toNatClampNeg) (x3 + 1) hf)
  unfold f_X1_turned at hf
  refine g_iload_n (pc := 0) C dX1_turned_0 0 rfl rfl ?_
  refine g_istore_n (pc := 1) C [(2, .int x0), (0, .int x0), (1, .int x1)] dX1_turned_1 rfl (by decide) rfl ?_
  refine g_iconst (pc := 2) C dX1_turned_2 ic_0 ?_
  refine g_istore_n (pc := 3) C [(3, .int 0), (2, .int x0), (0, .int x0), (1, .int x1)] dX1_turned_3 rfl (by decide) rfl ?_
  exact g_sub [3, 1, 0] rfl (b4 1000 x0 0 hf)

set_option maxHeartbeats 4000000 in
set_option maxRecDepth 100000 in
theorem c_X1_byTurns (l : Launch) (D : va_G) {cI cH cE cJ : ClassId} {a : Nat → Nat} (hw : ∀ σ, va_D (Pc a) (wc cI cH cE a σ)) {σ : Me} {x0 : Int32} {x1 : Int32} {x2 : Int32} {x3 : Int32} {r : Int32} (hf : f_X1_byTurns x0 x1 x2 x3 = some r) : Mq l D (tyc cI cH cE cJ) (wc cI cH cE a) (Pc a) yX1_byTurns cX1_byTurns 5 (Option.some Jvm.ClassFile.FieldType.int) 2 [.int x0, .int x1, .int x2, .int x3] σ (qI D (wc cI cH cE a) (Pc a) σ r) := by
  refine mOf (plainFor_of_name (by decide)) hw (Nat.le_of_ble_eq_true rfl) [(0, .int x0), (1, .int x1), (2, .int x2), (3, .int x3)] rfl ?_
  intro p e s m args below meth c C hr
  unfold f_X1_byTurns at hf
  refine g_iload_n (pc := 0) C dX1_byTurns_0 0 rfl rfl ?_
  refine g_bipush (pc := 1) C dX1_byTurns_1 bp_10 ?_
  refine g_irem (pc := 3) C dX1_byTurns_3 (by decide) ?_
  refine g_istore (pc := 4) C [(4, .int (x0 - x0 / 10 * 10)), (0, .int x0), (1, .int x1), (2, .int x2), (3, .int x3)] dX1_byTurns_4 (by decide) rfl ?_
  refine g_iload (pc := 6) C dX1_byTurns_6 0 rfl ?_
  refine g_iload_n (pc := 8) C dX1_byTurns_8 2 rfl rfl ?_
  refine g_iconst (pc := 9) C dX1_byTurns_9 ic_1 ?_
  obtain ⟨r1, h1, hf⟩ := bd_some hf
  refine g_cSi (pc := 10) C (st := [.int (x0 - x0 / 10 * 10)]) jW.rf (c_X1_turned l D hw h1) y_X1_turned tw_527 rfl ⟨by decide, by decide⟩ ⟨Nat.zero_le _, Nat.zero_le _⟩ (Nat.le_of_ble_eq_true rfl) dX1_byTurns_10 rfl ?_
  obtain ⟨r2, h2, hf⟩ := bd_some hf
  refine g_cSi (pc := 13) C (st := []) jW.rf (c_X1_make l D hw h2) y_X1_make tw_533 rfl ⟨by decide, by decide⟩ ⟨Nat.zero_le _, Nat.zero_le _⟩ (Nat.le_of_ble_eq_true rfl) dX1_byTurns_13 rfl ?_
  refine g_istore (pc := 16) C [(4, .int r2), (0, .int x0), (1, .int x1), (2, .int x2), (3, .int x3)] dX1_byTurns_16 (by decide) rfl ?_
  refine g_iload (pc := 18) C dX1_byTurns_18 0 rfl ?_
  refine g_iload_n (pc := 20) C dX1_byTurns_20 3 rfl rfl ?_
  refine g_iconst (pc := 21) C dX1_byTurns_21 ic_2 ?_
  obtain ⟨r3, h3, hf⟩ := bd_some hf
  refine g_cSi (pc := 22) C (st := [.int r2]) jW.rf (c_X1_turned l D hw h3) y_X1_turned tw_527 rfl ⟨by decide, by decide⟩ ⟨Nat.zero_le _, Nat.zero_le _⟩ (Nat.le_of_ble_eq_true rfl) dX1_byTurns_22 rfl ?_
  obtain ⟨r4, h4, hf⟩ := bd_some hf
  refine g_cSi (pc := 25) C (st := []) jW.rf (c_X1_make l D hw h4) y_X1_make tw_533 rfl ⟨by decide, by decide⟩ ⟨Nat.zero_le _, Nat.zero_le _⟩ (Nat.le_of_ble_eq_true rfl) dX1_byTurns_25 rfl ?_
  refine g_istore (pc := 28) C [(4, .int r4), (0, .int x0), (1, .int x1), (2, .int x2), (3, .int x3)] dX1_byTurns_28 (by decide) rfl ?_
  refine g_iload (pc := 30) C dX1_byTurns_30 0 rfl ?_
  refine g_iload_n (pc := 32) C dX1_byTurns_32 4 rfl rfl ?_
  refine g_iconst (pc := 33) C dX1_byTurns_33 ic_3 ?_
  obtain ⟨r5, h5, hf⟩ := bd_some hf
  refine g_cSi (pc := 34) C (st := [.int r4]) jW.rf (c_X1_turned l D hw h5) y_X1_turned tw_527 rfl ⟨by decide, by decide⟩ ⟨Nat.zero_le _, Nat.zero_le _⟩ (Nat.le_of_ble_eq_true rfl) dX1_byTurns_34 rfl ?_
  obtain ⟨r6, h6, hf⟩ := bd_some hf
  refine g_cSi (pc := 37) C (st := []) jW.rf (c_X1_make l D hw h6) y_X1_make tw_533 rfl ⟨by decide, by decide⟩ ⟨Nat.zero_le _, Nat.zero_le _⟩ (Nat.le_of_ble_eq_true rfl) dX1_byTurns_37 rfl ?_
  refine g_istore (pc := 40) C [(4, .int r6), (0, .int x0), (1, .int x1), (2, .int x2), (3, .int x3)] dX1_byTurns_40 (by decide) rfl ?_
  refine g_iload (pc := 42) C dX1_byTurns_42 0 rfl ?_
  refine g_iconst (pc := 44) C dX1_byTurns_44 ic_5 ?_
  refine g_icmp_ge (pc := 45) C 57 dX1_byTurns_45 (by decide) (fun q7 => ?_) (fun q7 => ?_)
  · replace hf := (if_pos q7).symm.trans hf
    refine g_iload (pc := 57) C dX1_byTurns_57 0 rfl ?_
    cases hf
    exact g_iret (pc := 59) C hr dX1_byTurns_59
  · replace hf := (if_neg q7).symm.trans hf
    refine g_iconst (pc := 48) C dX1_byTurns_48 ic_5 ?_
    refine g_iload (pc := 49) C dX1_byTurns_49 0 rfl ?_
    refine g_isub (pc := 51) C dX1_byTurns_51 ?_
    refine g_iconst (pc := 52) C dX1_byTurns_52 ic_5 ?_
    refine g_irem (pc := 53) C dX1_byTurns_53 (by decide) ?_
    refine g_goto (pc := 54) C 59 dX1_byTurns_54 (by decide) ?_
    cases hf
    exact g_iret (pc := 59) C hr dX1_byTurns_59

set_option maxHeartbeats 4000000 in
set_option maxRecDepth 100000 in
theorem c_X1_ofFigures (l : Launch) (D : va_G) {cI cH cE cJ : ClassId} {a : Nat → Nat} (hw : ∀ σ, va_D (Pc a) (wc cI cH cE a σ)) {σ : Me} {x0 : Int32} {x1 : Int32} {x2 : Int32} {x3 : Int32} {x4 : Int32} {r : Int32} (hf : f_X1_ofFigures x0 x1 x2 x3 x4 = some r) : Mq l D (tyc cI cH cE cJ) (wc cI cH cE a) (Pc a) yX1_ofFigures cX1_ofFigures 5 (Option.some Jvm.ClassFile.FieldType.int) 3 [.int x0, .int x1, .int x2, .int x3, .int x4] σ (qI D (wc cI cH cE a) (Pc a) σ r) := by
  refine mOf (plainFor_of_name (by decide)) hw (Nat.le_of_ble_eq_true rfl) [(0, .int x0), (1, .int x1), (2, .int x2), (3, .int x3), (4, .int x4)] rfl ?_
  intro p e s m args below meth c C hr
  unfold f_X1_ofFigures at hf
  refine g_iload_n (pc := 0) C dX1_ofFigures_0 0 rfl rfl ?_
  refine g_if_ne (pc := 1) C 19 dX1_ofFigures_1 (by decide) (fun q1 => ?_) (fun q1 => ?_)
  · replace hf := (if_neg q1).symm.trans hf
    refine g_iload_n (pc := 19) C dX1_ofFigures_19 0 rfl rfl ?_
    refine g_iconst (pc := 20) C dX1_ofFigures_20 ic_1 ?_
    refine g_icmp_ne (pc := 21) C 47 dX1_ofFigures_21 (by decide) (fun q2 => ?_) (fun q2 => ?_)
    · replace hf := (if_neg q2).symm.trans hf
      refine g_iload_n (pc := 47) C dX1_ofFigures_47 1 rfl rfl ?_
      refine g_iload_n (pc := 48) C dX1_ofFigures_48 2 rfl rfl ?_
      refine g_iload_n (pc := 49) C dX1_ofFigures_49 3 rfl rfl ?_
      refine g_iload (pc := 50) C dX1_ofFigures_50 4 rfl ?_
      obtain ⟨r3, h3, hf⟩ := bd_some hf
      refine g_cSi (pc := 52) C (st := []) jW.rf (c_X1_byTurns l D hw h3) y_X1_byTurns tw_524 rfl ⟨by decide, by decide⟩ ⟨Nat.zero_le _, Nat.zero_le _⟩ (Nat.le_of_ble_eq_true rfl) dX1_ofFigures_52 rfl ?_
      cases hf
      exact g_iret (pc := 55) C hr dX1_ofFigures_55
    · replace hf := (if_pos q2).symm.trans hf
      refine g_iconst (pc := 24) C dX1_ofFigures_24 ic_5 ?_
      refine g_iload_n (pc := 25) C dX1_ofFigures_25 1 rfl rfl ?_
      refine g_imul (pc := 26) C dX1_ofFigures_26 ?_
      refine g_iconst (pc := 27) C dX1_ofFigures_27 ic_4 ?_
      refine g_iload_n (pc := 28) C dX1_ofFigures_28 2 rfl rfl ?_
      refine g_imul (pc := 29) C dX1_ofFigures_29 ?_
      refine g_iadd (pc := 30) C dX1_ofFigures_30 ?_
      refine g_iconst (pc := 31) C dX1_ofFigures_31 ic_3 ?_
      refine g_iload_n (pc := 32) C dX1_ofFigures_32 3 rfl rfl ?_
      refine g_imul (pc := 33) C dX1_ofFigures_33 ?_
      refine g_iadd (pc := 34) C dX1_ofFigures_34 ?_
      refine g_iconst (pc := 35) C dX1_ofFigures_35 ic_2 ?_
      refine g_iload (pc := 36) C dX1_ofFigures_36 4 rfl ?_
      refine g_imul (pc := 38) C dX1_ofFigures_38 ?_
      refine g_iadd (pc := 39) C dX1_ofFigures_39 ?_
      refine g_ineg (pc := 40) C dX1_ofFigures_40 ?_
      refine g_bipush (pc := 41) C dX1_ofFigures_41 bp_11 ?_
      obtain ⟨r4, h4, hf⟩ := bd_some hf
      refine g_cSi (pc := 43) C (st := []) jW.rf (c_J9_floorMod_7cf53 l D hw h4) y_J9_floorMod_7cf53 tw_521 rfl ⟨by decide, by decide⟩ ⟨Nat.zero_le _, Nat.zero_le _⟩ (Nat.le_of_ble_eq_true rfl) dX1_ofFigures_43 rfl ?_
      cases hf
      exact g_iret (pc := 46) C hr dX1_ofFigures_46
  · replace hf := (if_pos q1).symm.trans hf
    refine g_iload_n (pc := 4) C dX1_ofFigures_4 1 rfl rfl ?_
    refine g_iload_n (pc := 5) C dX1_ofFigures_5 2 rfl rfl ?_
    refine g_iadd (pc := 6) C dX1_ofFigures_6 ?_
    refine g_iload_n (pc := 7) C dX1_ofFigures_7 3 rfl rfl ?_
    refine g_iadd (pc := 8) C dX1_ofFigures_8 ?_
    refine g_iload (pc := 9) C dX1_ofFigures_9 4 rfl ?_
    refine g_iadd (pc := 11) C dX1_ofFigures_11 ?_
    refine g_ineg (pc := 12) C dX1_ofFigures_12 ?_
    refine g_bipush (pc := 13) C dX1_ofFigures_13 bp_9 ?_
    obtain ⟨r5, h5, hf⟩ := bd_some hf
    refine g_cSi (pc := 15) C (st := []) jW.rf (c_J9_floorMod_7cf53 l D hw h5) y_J9_floorMod_7cf53 tw_521 rfl ⟨by decide, by decide⟩ ⟨Nat.zero_le _, Nat.zero_le _⟩ (Nat.le_of_ble_eq_true rfl) dX1_ofFigures_15 rfl ?_
    cases hf
    exact g_iret (pc := 18) C hr dX1_ofFigures_18

set_option maxHeartbeats 4000000 in
set_option maxRecDepth 100000 in
theorem c_X1_ofNumber (l : Launch) (D : va_G) {cI cH cE cJ : ClassId} {a : Nat → Nat} (hw : ∀ σ, va_D (Pc a) (wc cI cH cE a σ)) {σ : Me} {x0 : Int32} {x1 : Int32} {x2 : Int32} {r : Int32} (hf : f_X1_ofNumber x0 x1 x2 = some r) : Mq l D (tyc cI cH cE cJ) (wc cI cH cE a) (Pc a) yX1_ofNumber cX1_ofNumber 3 (Option.some Jvm.ClassFile.FieldType.int) 4 [.int x0, .int x1, .int x2] σ (qI D (wc cI cH cE a) (Pc a) σ r) := by
  refine mOf (plainFor_of_name (by decide)) hw (Nat.le_of_ble_eq_true rfl) [(0, .int x0), (1, .int x1), (2, .int x2)] rfl ?_
  intro p e s m args below meth c C hr
  unfold f_X1_ofNumber at hf
  refine g_iload_n (pc := 0) C dX1_ofNumber_0 0 rfl rfl ?_
  refine g_iload_n (pc := 1) C dX1_ofNumber_1 1 rfl rfl ?_
  refine g_iload_n (pc := 2) C dX1_ofNumber_2 2 rfl rfl ?_
  refine g_bipush (pc := 3) C dX1_ofNumber_3 bp_100 ?_
  refine g_idiv (pc := 5) C dX1_ofNumber_5 (by decide) ?_
  refine g_iload_n (pc := 6) C dX1_ofNumber_6 2 rfl rfl ?_
  refine g_bipush (pc := 7) C dX1_ofNumber_7 bp_10 ?_
  refine g_idiv (pc := 9) C dX1_ofNumber_9 (by decide) ?_
  refine g_bipush (pc := 10) C dX1_ofNumber_10 bp_10 ?_
  refine g_irem (pc := 12) C dX1_ofNumber_12 (by decide) ?_
  refine g_iload_n (pc := 13) C dX1_ofNumber_13 2 rfl rfl ?_
  refine g_bipush (pc := 14) C dX1_ofNumber_14 bp_10 ?_
  refine g_irem (pc := 16) C dX1_ofNumber_16 (by decide) ?_
  obtain ⟨r1, h1, hf⟩ := bd_some hf
  refine g_cSi (pc := 17) C (st := []) jW.rf (c_X1_ofFigures l D hw h1) y_X1_ofFigures tw_518 rfl ⟨by decide, by decide⟩ ⟨Nat.zero_le _, Nat.zero_le _⟩ (Nat.le_of_ble_eq_true rfl) dX1_ofNumber_17 rfl ?_
  cases hf
  exact g_iret (pc := 20) C hr dX1_ofNumber_20

set_option maxHeartbeats 4000000 in
set_option maxRecDepth 100000 in
theorem c_X1_ofStar (l : Launch) (D : va_G) {cI cH cE cJ : ClassId} {a : Nat → Nat} (hw : ∀ σ, va_D (Pc a) (wc cI cH cE a σ)) {σ : Me} {x0 : Int32} {r : Int32} (hf : f_X1_ofStar x0 = some r) : Mq l D (tyc cI cH cE cJ) (wc cI cH cE a) (Pc a) yX1_ofStar cX1_ofStar 1 (Option.some Jvm.ClassFile.FieldType.int) 5 [.int x0] σ (qI D (wc cI cH cE a) (Pc a) σ r) := by
  refine mOf (plainFor_of_name (by decide)) hw (Nat.le_of_ble_eq_true rfl) [(0, .int x0)] rfl ?_
  intro p e s m args below meth c C hr
  unfold f_X1_ofStar at hf
  refine g_iconst (pc := 0) C dX1_ofStar_0 ic_1 ?_
  refine g_iconst (pc := 1) C dX1_ofStar_1 ic_0 ?_
  refine g_iload_n (pc := 2) C dX1_ofStar_2 0 rfl rfl ?_
  obtain ⟨r1, h1, hf⟩ := bd_some hf
  refine g_cSi (pc := 3) C (st := []) jW.rf (c_X1_ofNumber l D hw h1) y_X1_ofNumber tw_566 rfl ⟨by decide, by decide⟩ ⟨Nat.zero_le _, Nat.zero_le _⟩ (Nat.le_of_ble_eq_true rfl) dX1_ofStar_3 rfl ?_
  cases hf
  exact g_iret (pc := 6) C hr dX1_ofStar_6

set_option maxHeartbeats 4000000 in
set_option maxRecDepth 100000 in
theorem c_X1_missedFigures (l : Launch) (D : va_G) {cI cH cE cJ : ClassId} {a : Nat → Nat} (hw : ∀ σ, va_D (Pc a) (wc cI cH cE a σ)) {σ : Me} {x0 : Int32} {x1 : Int32} {x2 : Int32} {r : Int32} (hf : f_X1_missedFigures x0 x1 x2 = some r) : Mq l D (tyc cI cH cE cJ) (wc cI cH cE a) (Pc a) yX1_missedFigures cX1_missedFigures 9 (Option.some Jvm.ClassFile.FieldType.int) 4 [.int x0, .int x1, .int x2] σ (qI D (wc cI cH cE a) (Pc a) σ r) := by
  refine mOf (plainFor_of_name (by decide)) hw (Nat.le_of_ble_eq_true rfl) [(0, .int x0), (1, .int x1), (2, .int x2)] rfl ?_
  intro p e s m args below meth c C hr
  have b95 : ∀ (K38 : Int32 → Int32 → Int32 → Int32 → Int32 → Int32 → Int32 → Int32 → Option Int32) (hK38 : ∀ (x3 : Int32) (x4 : Int32) (x5 : Int32) (x6 : Int32) (x7 : Int32) (x8 : Int32), K38 x0 x1 x3 x4 x5 x6 x7 x8 = some r → Gg p l e (rmd 4) s m args below meth c D (Pc a) (wc cI cH cE a) 9 0 0 (MQ below ((qI D (wc cI cH cE a) (Pc a) σ r) s.heap.size) args s 0 0 (fR (Pc a) s.heap.size)) σ [(0, .int x0), (1, .int x1), (3, .int x3), (4, .int x4), (5, .int x5), (6, .int x6), (7, .int x7), (8, .int x8)] 38 []) (x3 : Int32) (x4 : Int32) (x5 : Int32) (x6 : Int32) (x7 : Int32) (x8 : Int32) (hf : f_X1_missedFigures_95 K38 x0 x1 x3 x4 x5 x6 x7 x8 = some r), Gg p l e (rmd 4) s m args below meth c D (Pc a) (wc cI cH cE a) 9 0 0 (MQ below ((qI D (wc cI cH cE a) (Pc a) σ r) s.heap.size) args s 0 0 (fR (Pc a) s.heap.size)) σ [(0, .int x0), (1, .int x1), (3, .int x3), (4, .int x4), (5, .int x5), (6, .int x6), (7, .int x7), (8, .int x8)] 95 [] := by
    intro K38 hK38 x3 x4 x5 x6 x7 x8 hf
    unfold f_X1_missedFigures_95 at hf
    refine g_iload (pc := 95) C dX1_missedFigures_95 7 rfl ?_
    refine g_iload (pc := 97) C dX1_missedFigures_97 4 rfl ?_
    refine g_icmp_eq (pc := 99) C 120 dX1_missedFigures_99 (by decide) (fun q1 => ?_) (fun q1 => ?_)
    · replace hf := (if_pos q1).symm.trans hf
      refine g_iinc (pc := 120) C [(8, .int (x8 + 1)), (0, .int x0), (1, .int x1), (3, .int x3), (4, .int x4), (5, .int x5), (6, .int x6), (7, .int x7)] 7 dX1_missedFigures_120 rfl ic_1 (by decide) rfl ?_
      refine g_goto (pc := 123) C 38 dX1_missedFigures_123 (by decide) ?_
      exact g_sub [1, 2, 3, 4, 5, 6, 7, 0] rfl (hK38 x3 x4 x5 x6 x7 (x8 + 1) hf)
    · replace hf := (if_neg q1).symm.trans hf
      refine g_iload_n (pc := 102) C dX1_missedFigures_102 0 rfl rfl ?_
      refine g_iload_n (pc := 103) C dX1_missedFigures_103 1 rfl rfl ?_
      refine g_iload_n (pc := 104) C dX1_missedFigures_104 2 rfl rfl ?_
      refine g_iload (pc := 105) C dX1_missedFigures_105 3 rfl ?_
      refine g_iload (pc := 107) C dX1_missedFigures_107 7 rfl ?_
      obtain ⟨r2, h2, hf⟩ := bd_some hf
      refine g_cSi (pc := 109) C (st := []) jW.rf (c_X1_ofFigures l D hw h2) y_X1_ofFigures tw_518 rfl ⟨by decide, by decide⟩ ⟨Nat.zero_le _, Nat.zero_le _⟩ (Nat.le_of_ble_eq_true rfl) dX1_missedFigures_109 rfl ?_
      refine g_iload (pc := 112) C dX1_missedFigures_112 5 rfl ?_
      refine g_icmp_ne (pc := 114) C 120 dX1_missedFigures_114 (by decide) (fun q3 => ?_) (fun q3 => ?_)
      · replace hf := (if_neg q3).symm.trans hf
        refine g_iinc (pc := 120) C [(8, .int (x8 + 1)), (0, .int x0), (1, .int x1), (3, .int x3), (4, .int x4), (5, .int x5), (6, .int x6), (7, .int x7)] 7 dX1_missedFigures_120 rfl ic_1 (by decide) rfl ?_
        refine g_goto (pc := 123) C 38 dX1_missedFigures_123 (by decide) ?_
        exact g_sub [1, 2, 3, 4, 5, 6, 7, 0] rfl (hK38 x3 x4 x5 x6 x7 (x8 + 1) hf)
      · replace hf := (if_pos q3).symm.trans hf
        refine g_iinc (pc := 117) C [(7, .int (x7 + 1)), (0, .int x0), (1, .int x1), (3, .int x3), (4, .int x4), (5, .int x5), (6, .int x6), (8, .int x8)] 6 dX1_missedFigures_117 rfl ic_1 (by decide) rfl ?_
        refine g_iinc (pc := 120) C [(8, .int (x8 + 1)), (7, .int (x7 + 1)), (0, .int x0), (1, .int x1), (3, .int x3), (4, .int x4), (5, .int x5), (6, .int x6)] 7 dX1_missedFigures_120 rfl ic_1 (by decide) rfl ?_
        refine g_goto (pc := 123) C 38 dX1_missedFigures_123 (by decide) ?_
        exact g_sub [2, 3, 4, 5, 6, 7, 1, 0] rfl (hK38 x3 x4 x5 x6 (x7 + 1) (x8 + 1) hf)
  have b70 : ∀ (K38 : Int32 → Int32 → Int32 → Int32 → Int32 → Int32 → Int32 → Int32 → Option Int32) (hK38 : ∀ (x3 : Int32) (x4 : Int32) (x5 : Int32) (x6 : Int32) (x7 : Int32) (x8 : Int32), K38 x0 x1 x3 x4 x5 x6 x7 x8 = some r → Gg p l e (rmd 4) s m args below meth c D (Pc a) (wc cI cH cE a) 9 0 0 (MQ below ((qI D (wc cI cH cE a) (Pc a) σ r) s.heap.size) args s 0 0 (fR (Pc a) s.heap.size)) σ [(0, .int x0), (1, .int x1), (3, .int x3), (4, .int x4), (5, .int x5), (6, .int x6), (7, .int x7), (8, .int x8)] 38 []) (x3 : Int32) (x4 : Int32) (x5 : Int32) (x6 : Int32) (x7 : Int32) (x8 : Int32) (hf : f_X1_missedFigures_70 K38 x0 x1 x3 x4 x5 x6 x7 x8 = some r), Gg p l e (rmd 4) s m args below meth c D (Pc a) (wc cI cH cE a) 9 0 0 (MQ below ((qI D (wc cI cH cE a) (Pc a) σ r) s.heap.size) args s 0 0 (fR (Pc a) s.heap.size)) σ [(0, .int x0), (1, .int x1), (3, .int x3), (4, .int x4), (5, .int x5), (6, .int x6), (7, .int x7), (8, .int x8)] 70 [] := by
    intro K38 hK38 x3 x4 x5 x6 x7 x8 hf
    unfold f_X1_missedFigures_70 at hf
    refine g_iload (pc := 70) C dX1_missedFigures_70 7 rfl ?_
    refine g_iload (pc := 72) C dX1_missedFigures_72 3 rfl ?_
    refine g_icmp_eq (pc := 74) C 95 dX1_missedFigures_74 (by decide) (fun q4 => ?_) (fun q4 => ?_)
    · replace hf := (if_pos q4).symm.trans hf
      exact g_sub [0, 1, 2, 3, 4, 5, 6, 7] rfl (b95 K38 hK38 x3 x4 x5 x6 x7 x8 hf)
    · replace hf := (if_neg q4).symm.trans hf
      refine g_iload_n (pc := 77) C dX1_missedFigures_77 0 rfl rfl ?_
      refine g_iload_n (pc := 78) C dX1_missedFigures_78 1 rfl rfl ?_
      refine g_iload_n (pc := 79) C dX1_missedFigures_79 2 rfl rfl ?_
      refine g_iload (pc := 80) C dX1_missedFigures_80 7 rfl ?_
      refine g_iload (pc := 82) C dX1_missedFigures_82 4 rfl ?_
      obtain ⟨r5, h5, hf⟩ := bd_some hf
      refine g_cSi (pc := 84) C (st := []) jW.rf (c_X1_ofFigures l D hw h5) y_X1_ofFigures tw_518 rfl ⟨by decide, by decide⟩ ⟨Nat.zero_le _, Nat.zero_le _⟩ (Nat.le_of_ble_eq_true rfl) dX1_missedFigures_84 rfl ?_
      refine g_iload (pc := 87) C dX1_missedFigures_87 5 rfl ?_
      refine g_icmp_ne (pc := 89) C 95 dX1_missedFigures_89 (by decide) (fun q6 => ?_) (fun q6 => ?_)
      · replace hf := (if_neg q6).symm.trans hf
        exact g_sub [0, 1, 2, 3, 4, 5, 6, 7] rfl (b95 K38 hK38 x3 x4 x5 x6 x7 x8 hf)
      · replace hf := (if_pos q6).symm.trans hf
        refine g_iinc (pc := 92) C [(7, .int (x7 + 1)), (0, .int x0), (1, .int x1), (3, .int x3), (4, .int x4), (5, .int x5), (6, .int x6), (8, .int x8)] 6 dX1_missedFigures_92 rfl ic_1 (by decide) rfl ?_
        exact g_sub [1, 2, 3, 4, 5, 6, 0, 7] rfl (b95 K38 hK38 x3 x4 x5 x6 (x7 + 1) x8 hf)
  have b38 : ∀ (n : Nat) (x3 : Int32) (x4 : Int32) (x5 : Int32) (x6 : Int32) (x7 : Int32) (x8 : Int32) (hf : f_X1_missedFigures_38 n x0 x1 x3 x4 x5 x6 x7 x8 = some r), Gg p l e (rmd 4) s m args below meth c D (Pc a) (wc cI cH cE a) 9 0 0 (MQ below ((qI D (wc cI cH cE a) (Pc a) σ r) s.heap.size) args s 0 0 (fR (Pc a) s.heap.size)) σ [(0, .int x0), (1, .int x1), (3, .int x3), (4, .int x4), (5, .int x5), (6, .int x6), (7, .int x7), (8, .int x8)] 38 [] := by
    intro n
    induction n with
    | zero => intro x3 x4 x5 x6 x7 x8 hf; exact absurd hf (by simp [f_X1_missedFigures_38])
    | succ n ih =>
      intro x3 x4 x5 x6 x7 x8 hf
      rw [f_X1_missedFigures_38] at hf
      refine g_iload (pc := 38) C dX1_missedFigures_38 7 rfl ?_
      refine g_bipush (pc := 40) C dX1_missedFigures_40 bp_9 ?_
      refine g_icmp_gt (pc := 42) C 126 dX1_missedFigures_42 (by decide) (fun q7 => ?_) (fun q7 => ?_)
      · replace hf := (if_pos q7).symm.trans hf
        refine g_iload (pc := 126) C dX1_missedFigures_126 6 rfl ?_
        cases hf
        exact g_iret (pc := 128) C hr dX1_missedFigures_128
      · replace hf := (if_neg q7).symm.trans hf
        refine g_iload (pc := 45) C dX1_missedFigures_45 7 rfl ?_
        refine g_iload_n (pc := 47) C dX1_missedFigures_47 2 rfl rfl ?_
        refine g_icmp_eq (pc := 48) C 70 dX1_missedFigures_48 (by decide) (fun q8 => ?_) (fun q8 => ?_)
        · replace hf := (if_pos q8).symm.trans hf
          exact g_sub [0, 1, 2, 3, 4, 5, 6, 7] rfl (b70 (f_X1_missedFigures_38 n) ih x3 x4 x5 x6 x7 x8 hf)
        · replace hf := (if_neg q8).symm.trans hf
          refine g_iload_n (pc := 51) C dX1_missedFigures_51 0 rfl rfl ?_
          refine g_iload_n (pc := 52) C dX1_missedFigures_52 1 rfl rfl ?_
          refine g_iload (pc := 53) C dX1_missedFigures_53 7 rfl ?_
          refine g_iload (pc := 55) C dX1_missedFigures_55 3 rfl ?_
          refine g_iload (pc := 57) C dX1_missedFigures_57 4 rfl ?_
          obtain ⟨r9, h9, hf⟩ := bd_some hf
          refine g_cSi (pc := 59) C (st := []) jW.rf (c_X1_ofFigures l D hw h9) y_X1_ofFigures tw_518 rfl ⟨by decide, by decide⟩ ⟨Nat.zero_le _, Nat.zero_le _⟩ (Nat.le_of_ble_eq_true rfl) dX1_missedFigures_59 rfl ?_
          refine g_iload (pc := 62) C dX1_missedFigures_62 5 rfl ?_
          refine g_icmp_ne (pc := 64) C 70 dX1_missedFigures_64 (by decide) (fun q10 => ?_) (fun q10 => ?_)
          · replace hf := (if_neg q10).symm.trans hf
            exact g_sub [0, 1, 2, 3, 4, 5, 6, 7] rfl (b70 (f_X1_missedFigures_38 n) ih x3 x4 x5 x6 x7 x8 hf)
          · replace hf := (if_pos q10).symm.trans hf
            refine g_iinc (pc := 67) C [(7, .int (x7 + 1)), (0, .int x0), (1, .int x1), (3, .int x3), (4, .int x4), (5, .int x5), (6, .int x6), (8, .int x8)] 6 dX1_missedFigures_67 rfl ic_1 (by decide) rfl ?_
            exact g_sub [1, 2, 3, 4, 5, 6, 0, 7] rfl (b70 (f_X1_missedFigures_38 n) ih x3 x4 x5 x6 (x7 + 1) x8 hf)
  unfold f_X1_missedFigures at hf
  refine g_iload_n (pc := 0) C dX1_missedFigures_0 2 rfl rfl ?_
  refine g_bipush (pc := 1) C dX1_missedFigures_1 bp_100 ?_
  refine g_idiv (pc := 3) C dX1_missedFigures_3 (by decide) ?_
  refine g_istore_n (pc := 4) C [(3, .int (x2 / 100)), (0, .int x0), (1, .int x1), (2, .int x2)] dX1_missedFigures_4 rfl (by decide) rfl ?_
  refine g_iload_n (pc := 5) C dX1_missedFigures_5 3 rfl rfl ?_
  refine g_bipush (pc := 6) C dX1_missedFigures_6 bp_10 ?_
  refine g_idiv (pc := 8) C dX1_missedFigures_8 (by decide) ?_
  refine g_bipush (pc := 9) C dX1_missedFigures_9 bp_10 ?_
  refine g_irem (pc := 11) C dX1_missedFigures_11 (by decide) ?_
  refine g_istore (pc := 12) C [(4, .int ((x2 / 10) - (x2 / 10) / 10 * 10)), (3, .int (x2 / 100)), (0, .int x0), (1, .int x1), (2, .int x2)] dX1_missedFigures_12 (by decide) rfl ?_
  refine g_iload_n (pc := 14) C dX1_missedFigures_14 4 rfl rfl ?_
  refine g_bipush (pc := 15) C dX1_missedFigures_15 bp_10 ?_
  refine g_irem (pc := 17) C dX1_missedFigures_17 (by decide) ?_
  refine g_istore (pc := 18) C [(5, .int (x2 - x2 / 10 * 10)), (4, .int ((x2 / 10) - (x2 / 10) / 10 * 10)), (3, .int (x2 / 100)), (0, .int x0), (1, .int x1), (2, .int x2)] dX1_missedFigures_18 (by decide) rfl ?_
  refine g_iload_n (pc := 20) C dX1_missedFigures_20 3 rfl rfl ?_
  refine g_iload_n (pc := 21) C dX1_missedFigures_21 4 rfl rfl ?_
  refine g_iload_n (pc := 22) C dX1_missedFigures_22 2 rfl rfl ?_
  refine g_iload (pc := 23) C dX1_missedFigures_23 1 rfl ?_
  refine g_iload (pc := 25) C dX1_missedFigures_25 0 rfl ?_
  obtain ⟨r11, h11, hf⟩ := bd_some hf
  refine g_cSi (pc := 27) C (st := []) jW.rf (c_X1_ofFigures l D hw h11) y_X1_ofFigures tw_518 rfl ⟨by decide, by decide⟩ ⟨Nat.zero_le _, Nat.zero_le _⟩ (Nat.le_of_ble_eq_true rfl) dX1_missedFigures_27 rfl ?_
  refine g_istore (pc := 30) C [(6, .int r11), (5, .int (x2 - x2 / 10 * 10)), (4, .int ((x2 / 10) - (x2 / 10) / 10 * 10)), (3, .int (x2 / 100)), (0, .int x0), (1, .int x1), (2, .int x2)] dX1_missedFigures_30 (by decide) rfl ?_
  refine g_iconst (pc := 32) C dX1_missedFigures_32 ic_0 ?_
  refine g_istore (pc := 33) C [(7, .int 0), (6, .int r11), (5, .int (x2 - x2 / 10 * 10)), (4, .int ((x2 / 10) - (x2 / 10) / 10 * 10)), (3, .int (x2 / 100)), (0, .int x0), (1, .int x1), (2, .int x2)] dX1_missedFigures_33 (by decide) rfl ?_
  refine g_iconst (pc := 35) C dX1_missedFigures_35 ic_0 ?_
  refine g_istore (pc := 36) C [(8, .int 0), (7, .int 0), (6, .int r11), (5, .int (x2 - x2 / 10 * 10)), (4, .int ((x2 / 10) - (x2 / 10) / 10 * 10)), (3, .int (x2 / 100)), (0, .int x0), (1, .int x1), (2, .int x2)] dX1_missedFigures_36 (by decide) rfl ?_
  exact g_sub [6, 7, 5, 4, 3, 2, 1, 0] rfl (b38 1000 (x2 / 100) ((x2 / 10) - (x2 / 10) / 10 * 10) (x2 - x2 / 10 * 10) r11 0 0 hf)

set_option maxHeartbeats 4000000 in
set_option maxRecDepth 100000 in
theorem c_X1_missedSwaps (l : Launch) (D : va_G) {cI cH cE cJ : ClassId} {a : Nat → Nat} (hw : ∀ σ, va_D (Pc a) (wc cI cH cE a σ)) {σ : Me} {x0 : Int32} {x1 : Int32} {x2 : Int32} {r : Int32} (hf : f_X1_missedSwaps x0 x1 x2 = some r) : Mq l D (tyc cI cH cE cJ) (wc cI cH cE a) (Pc a) yX1_missedSwaps cX1_missedSwaps 8 (Option.some Jvm.ClassFile.FieldType.int) 4 [.int x0, .int x1, .int x2] σ (qI D (wc cI cH cE a) (Pc a) σ r) := by
  refine mOf (plainFor_of_name (by decide)) hw (Nat.le_of_ble_eq_true rfl) [(0, .int x0), (1, .int x1), (2, .int x2)] rfl ?_
  intro p e s m args below meth c C hr
  have b59 : ∀ (x3 : Int32) (x4 : Int32) (x5 : Int32) (x6 : Int32) (x7 : Int32) (hf : f_X1_missedSwaps_59 x0 x1 x3 x4 x5 x6 x7 = some r), Gg p l e (rmd 4) s m args below meth c D (Pc a) (wc cI cH cE a) 8 0 0 (MQ below ((qI D (wc cI cH cE a) (Pc a) σ r) s.heap.size) args s 0 0 (fR (Pc a) s.heap.size)) σ [(0, .int x0), (1, .int x1), (3, .int x3), (4, .int x4), (5, .int x5), (6, .int x6), (7, .int x7)] 59 [] := by
    intro  x3 x4 x5 x6 x7 hf
    unfold f_X1_missedSwaps_59 at hf
    refine g_iload (pc := 59) C dX1_missedSwaps_59 3 rfl ?_
    refine g_iload (pc := 61) C dX1_missedSwaps_61 4 rfl ?_
    refine g_icmp_eq (pc := 63) C 84 dX1_missedSwaps_63 (by decide) (fun q1 => ?_) (fun q1 => ?_)
    · replace hf := (if_pos q1).symm.trans hf
      refine g_iload (pc := 84) C dX1_missedSwaps_84 6 rfl ?_
      cases hf
      exact g_iret (pc := 86) C hr dX1_missedSwaps_86
    · replace hf := (if_neg q1).symm.trans hf
      refine g_iload_n (pc := 66) C dX1_missedSwaps_66 0 rfl rfl ?_
      refine g_iload_n (pc := 67) C dX1_missedSwaps_67 1 rfl rfl ?_
      refine g_iload_n (pc := 68) C dX1_missedSwaps_68 2 rfl rfl ?_
      refine g_iload (pc := 69) C dX1_missedSwaps_69 4 rfl ?_
      refine g_iload (pc := 71) C dX1_missedSwaps_71 3 rfl ?_
      obtain ⟨r2, h2, hf⟩ := bd_some hf
      refine g_cSi (pc := 73) C (st := []) jW.rf (c_X1_ofFigures l D hw h2) y_X1_ofFigures tw_518 rfl ⟨by decide, by decide⟩ ⟨Nat.zero_le _, Nat.zero_le _⟩ (Nat.le_of_ble_eq_true rfl) dX1_missedSwaps_73 rfl ?_
      refine g_iload (pc := 76) C dX1_missedSwaps_76 5 rfl ?_
      refine g_icmp_ne (pc := 78) C 84 dX1_missedSwaps_78 (by decide) (fun q3 => ?_) (fun q3 => ?_)
      · replace hf := (if_neg q3).symm.trans hf
        refine g_iload (pc := 84) C dX1_missedSwaps_84 6 rfl ?_
        cases hf
        exact g_iret (pc := 86) C hr dX1_missedSwaps_86
      · replace hf := (if_pos q3).symm.trans hf
        refine g_iinc (pc := 81) C [(7, .int (x7 + 1)), (0, .int x0), (1, .int x1), (3, .int x3), (4, .int x4), (5, .int x5), (6, .int x6)] 6 dX1_missedSwaps_81 rfl ic_1 (by decide) rfl ?_
        refine g_iload (pc := 84) C dX1_missedSwaps_84 0 rfl ?_
        cases hf
        exact g_iret (pc := 86) C hr dX1_missedSwaps_86
  unfold f_X1_missedSwaps at hf
  refine g_iload_n (pc := 0) C dX1_missedSwaps_0 2 rfl rfl ?_
  refine g_bipush (pc := 1) C dX1_missedSwaps_1 bp_100 ?_
  refine g_idiv (pc := 3) C dX1_missedSwaps_3 (by decide) ?_
  refine g_istore_n (pc := 4) C [(3, .int (x2 / 100)), (0, .int x0), (1, .int x1), (2, .int x2)] dX1_missedSwaps_4 rfl (by decide) rfl ?_
  refine g_iload_n (pc := 5) C dX1_missedSwaps_5 3 rfl rfl ?_
  refine g_bipush (pc := 6) C dX1_missedSwaps_6 bp_10 ?_
  refine g_idiv (pc := 8) C dX1_missedSwaps_8 (by decide) ?_
  refine g_bipush (pc := 9) C dX1_missedSwaps_9 bp_10 ?_
  refine g_irem (pc := 11) C dX1_missedSwaps_11 (by decide) ?_
  refine g_istore (pc := 12) C [(4, .int ((x2 / 10) - (x2 / 10) / 10 * 10)), (3, .int (x2 / 100)), (0, .int x0), (1, .int x1), (2, .int x2)] dX1_missedSwaps_12 (by decide) rfl ?_
  refine g_iload_n (pc := 14) C dX1_missedSwaps_14 4 rfl rfl ?_
  refine g_bipush (pc := 15) C dX1_missedSwaps_15 bp_10 ?_
  refine g_irem (pc := 17) C dX1_missedSwaps_17 (by decide) ?_
  refine g_istore (pc := 18) C [(5, .int (x2 - x2 / 10 * 10)), (4, .int ((x2 / 10) - (x2 / 10) / 10 * 10)), (3, .int (x2 / 100)), (0, .int x0), (1, .int x1), (2, .int x2)] dX1_missedSwaps_18 (by decide) rfl ?_
  refine g_iload_n (pc := 20) C dX1_missedSwaps_20 3 rfl rfl ?_
  refine g_iload_n (pc := 21) C dX1_missedSwaps_21 4 rfl rfl ?_
  refine g_iload_n (pc := 22) C dX1_missedSwaps_22 2 rfl rfl ?_
  refine g_iload (pc := 23) C dX1_missedSwaps_23 1 rfl ?_
  refine g_iload (pc := 25) C dX1_missedSwaps_25 0 rfl ?_
  obtain ⟨r4, h4, hf⟩ := bd_some hf
  refine g_cSi (pc := 27) C (st := []) jW.rf (c_X1_ofFigures l D hw h4) y_X1_ofFigures tw_518 rfl ⟨by decide, by decide⟩ ⟨Nat.zero_le _, Nat.zero_le _⟩ (Nat.le_of_ble_eq_true rfl) dX1_missedSwaps_27 rfl ?_
  refine g_istore (pc := 30) C [(6, .int r4), (5, .int (x2 - x2 / 10 * 10)), (4, .int ((x2 / 10) - (x2 / 10) / 10 * 10)), (3, .int (x2 / 100)), (0, .int x0), (1, .int x1), (2, .int x2)] dX1_missedSwaps_30 (by decide) rfl ?_
  refine g_iconst (pc := 32) C dX1_missedSwaps_32 ic_0 ?_
  refine g_istore (pc := 33) C [(7, .int 0), (6, .int r4), (5, .int (x2 - x2 / 10 * 10)), (4, .int ((x2 / 10) - (x2 / 10) / 10 * 10)), (3, .int (x2 / 100)), (0, .int x0), (1, .int x1), (2, .int x2)] dX1_missedSwaps_33 (by decide) rfl ?_
  refine g_iload_n (pc := 35) C dX1_missedSwaps_35 4 rfl rfl ?_
  refine g_iload (pc := 36) C dX1_missedSwaps_36 3 rfl ?_
  refine g_icmp_eq (pc := 38) C 59 dX1_missedSwaps_38 (by decide) (fun q5 => ?_) (fun q5 => ?_)
  · replace hf := (if_pos q5).symm.trans hf
    exact g_sub [5, 6, 4, 3, 2, 1, 0] rfl (b59 (x2 / 100) ((x2 / 10) - (x2 / 10) / 10 * 10) (x2 - x2 / 10 * 10) r4 0 hf)
  · replace hf := (if_neg q5).symm.trans hf
    refine g_iload_n (pc := 41) C dX1_missedSwaps_41 5 rfl rfl ?_
    refine g_iload_n (pc := 42) C dX1_missedSwaps_42 6 rfl rfl ?_
    refine g_iload (pc := 43) C dX1_missedSwaps_43 3 rfl ?_
    refine g_iload_n (pc := 45) C dX1_missedSwaps_45 4 rfl rfl ?_
    refine g_iload (pc := 46) C dX1_missedSwaps_46 2 rfl ?_
    obtain ⟨r6, h6, hf⟩ := bd_some hf
    refine g_cSi (pc := 48) C (st := []) jW.rf (c_X1_ofFigures l D hw h6) y_X1_ofFigures tw_518 rfl ⟨by decide, by decide⟩ ⟨Nat.zero_le _, Nat.zero_le _⟩ (Nat.le_of_ble_eq_true rfl) dX1_missedSwaps_48 rfl ?_
    refine g_iload (pc := 51) C dX1_missedSwaps_51 1 rfl ?_
    refine g_icmp_ne (pc := 53) C 59 dX1_missedSwaps_53 (by decide) (fun q7 => ?_) (fun q7 => ?_)
    · replace hf := (if_neg q7).symm.trans hf
      exact g_sub [5, 6, 4, 3, 2, 1, 0] rfl (b59 (x2 / 100) ((x2 / 10) - (x2 / 10) / 10 * 10) (x2 - x2 / 10 * 10) r4 0 hf)
    · replace hf := (if_pos q7).symm.trans hf
      refine g_iinc (pc := 56) C [(7, .int (0 + 1)), (6, .int r4), (5, .int (x2 - x2 / 10 * 10)), (4, .int ((x2 / 10) - (x2 / 10) / 10 * 10)), (3, .int (x2 / 100)), (0, .int x0), (1, .int x1), (2, .int x2)] 0 dX1_missedSwaps_56 rfl ic_1 (by decide) rfl ?_
      exact g_sub [5, 6, 4, 3, 2, 1, 0] rfl (b59 (x2 / 100) ((x2 / 10) - (x2 / 10) / 10 * 10) (x2 - x2 / 10 * 10) r4 (0 + 1) hf)

set_option maxHeartbeats 4000000 in
set_option maxRecDepth 100000 in
theorem c_J9_min_7cf53 (l : Launch) (D : va_G) {cI cH cE cJ : ClassId} {a : Nat → Nat} (hw : ∀ σ, va_D (Pc a) (wc cI cH cE a σ)) {σ : Me} {x0 : Int32} {x1 : Int32} {r : Int32} (hf : f_J9_min_7cf53 x0 x1 = some r) : Mq l D (tyc cI cH cE cJ) (wc cI cH cE a) (Pc a) yJ9_min_7cf53 cJ9_min_7cf53 2 (Option.some Jvm.ClassFile.FieldType.int) 0 [.int x0, .int x1] σ (qI D (wc cI cH cE a) (Pc a) σ r) := by
  refine mOf (by decide +kernel) hw (Nat.le_of_ble_eq_true rfl) [(0, .int x0), (1, .int x1)] rfl ?_
  intro p e s m args below meth c C hr
  unfold f_J9_min_7cf53 at hf
  refine g_iload_n (pc := 0) C dJ9_min_7cf53_0 0 rfl rfl ?_
  refine g_iload_n (pc := 1) C dJ9_min_7cf53_1 1 rfl rfl ?_
  refine g_icmp_gt (pc := 2) C 9 dJ9_min_7cf53_2 (by decide) (fun q1 => ?_) (fun q1 => ?_)
  · replace hf := (if_pos q1).symm.trans hf
    refine g_iload_n (pc := 9) C dJ9_min_7cf53_9 1 rfl rfl ?_
    cases hf
    exact g_iret (pc := 10) C hr dJ9_min_7cf53_10
  · replace hf := (if_neg q1).symm.trans hf
    refine g_iload_n (pc := 5) C dJ9_min_7cf53_5 0 rfl rfl ?_
    refine g_goto (pc := 6) C 10 dJ9_min_7cf53_6 (by decide) ?_
    cases hf
    exact g_iret (pc := 10) C hr dJ9_min_7cf53_10
