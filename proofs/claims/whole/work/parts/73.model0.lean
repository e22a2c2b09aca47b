/-! ===== the reference is made ===== -/
set_option maxHeartbeats 4000000 in
set_option maxRecDepth 20000 in
theorem cs_X4 : CSpec mX4_init 2 13 961 4 [.long 0, .null, .int 0, .null, .null, .null, .null, .null, .null, .null, .int 0, .int 0, .int 0, .int 0, .int 0, .int 0, .null, .null, .null, .null, .int 0, .null] (fun ca h0 ws => ∃ ad : Nat → Nat, ad 0 = h0 ∧ ws = zws ad ca μM0 0 layM) := by
  refine CSpec.of (by decide +kernel) rfl rfl ?_
  intro p l e s m args below meth c D ca h0 A ls hin hsz hl X
  refine lv_aload_n X.1.1 X.1.2.1 dX4_init_0 rfl hl ?_
  refine c_obj X zm_3_72 hsz dX4_init_1 (Nat.le_of_ble_eq_true rfl) (Nat.le_of_ble_eq_true rfl) ?_
  refine lv_aload_n X.1.1 X.1.2.1 dX4_init_4 rfl hl ?_
  refine lv_sipush (v := 200) X.1.1 X.1.2.1 dX4_init_5 rfl ?_
  refine c_newa (N := 200) (t := 1) X (by decide) rfl rfl (by decide) (by decide) (by decide) dX4_init_8 (fun q8 H X => ?_)
  refine c_putF (q0 := 0) (ty := tyX4 1) X hin zf_X4_7 rfl rfl rfl (tyX4_ok 1 (by decide)) ⟨_, zm_3_82, rfl⟩ rfl rfl rfl (Nat.le_of_ble_eq_true rfl) dX4_init_10 (fun H locs X => ?_)
  replace X : cX mX4_init p s m args meth c D ca A [(h0, .inr (4, [.long 0, .ref q8, .int 0, .null, .null, .null, .null, .null, .null, .null, .int 0, .int 0, .int 0, .int 0, .int 0, .int 0, .null, .null, .null, .null, .int 0, .null])), (q8, .inl (ca 1, 200, .inl (fun _ => 0)))] H locs := X
  refine lv_aload_n X.1.1 X.1.2.1 dX4_init_13 rfl hl ?_
  refine lv_iconst (v := 2) X.1.1 X.1.2.1 dX4_init_14 rfl ?_
  refine c_newa (N := 2) (t := 0) X (by decide) rfl rfl (by decide) (by decide) (by decide) dX4_init_15 (fun q15 H X => ?_)
  refine c_putF (q0 := 0) (ty := tyX4 3) X hin zf_X4_13 rfl rfl rfl (tyX4_ok 3 (by decide)) ⟨_, zm_3_84, rfl⟩ rfl rfl rfl (Nat.le_of_ble_eq_true rfl) dX4_init_17 (fun H locs X => ?_)
  replace X : cX mX4_init p s m args meth c D ca A [(h0, .inr (4, [.long 0, .ref q8, .int 0, .ref q15, .null, .null, .null, .null, .null, .null, .int 0, .int 0, .int 0, .int 0, .int 0, .int 0, .null, .null, .null, .null, .int 0, .null])), (q8, .inl (ca 1, 200, .inl (fun _ => 0))), (q15, .inl (ca 0, 2, .inl (fun _ => 0)))] H locs := X
  refine lv_aload_n X.1.1 X.1.2.1 dX4_init_20 rfl hl ?_
  refine lv_bipush (v := 16) X.1.1 X.1.2.1 dX4_init_21 rfl ?_
  refine c_newa (N := 16) (t := 0) X (by decide) rfl rfl (by decide) (by decide) (by decide) dX4_init_23 (fun q23 H X => ?_)
  refine c_putF (q0 := 0) (ty := tyX4 4) X hin zf_X4_17 rfl rfl rfl (tyX4_ok 4 (by decide)) ⟨_, zm_3_85, rfl⟩ rfl rfl rfl (Nat.le_of_ble_eq_true rfl) dX4_init_25 (fun H locs X => ?_)
  replace X : cX mX4_init p s m args meth c D ca A [(h0, .inr (4, [.long 0, .ref q8, .int 0, .ref q15, .ref q23, .null, .null, .null, .null, .null, .int 0, .int 0, .int 0, .int 0, .int 0, .int 0, .null, .null, .null, .null, .int 0, .null])), (q8, .inl (ca 1, 200, .inl (fun _ => 0))), (q15, .inl (ca 0, 2, .inl (fun _ => 0))), (q23, .inl (ca 0, 16, .inl (fun _ => 0)))] H locs := X
  refine lv_aload_n X.1.1 X.1.2.1 dX4_init_28 rfl hl ?_
  refine lv_bipush (v := 16) X.1.1 X.1.2.1 dX4_init_29 rfl ?_
  refine c_newa (N := 16) (t := 0) X (by decide) rfl rfl (by decide) (by decide) (by decide) dX4_init_31 (fun q31 H X => ?_)
  refine c_putF (q0 := 0) (ty := tyX4 5) X hin zf_X4_20 rfl rfl rfl (tyX4_ok 5 (by decide)) ⟨_, zm_3_86, rfl⟩ rfl rfl rfl (Nat.le_of_ble_eq_true rfl) dX4_init_33 (fun H locs X => ?_)
  replace X : cX mX4_init p s m args meth c D ca A [(h0, .inr (4, [.long 0, .ref q8, .int 0, .ref q15, .ref q23, .ref q31, .null, .null, .null, .null, .int 0, .int 0, .int 0, .int 0, .int 0, .int 0, .null, .null, .null, .null, .int 0, .null])), (q8, .inl (ca 1, 200, .inl (fun _ => 0))), (q15, .inl (ca 0, 2, .inl (fun _ => 0))), (q23, .inl (ca 0, 16, .inl (fun _ => 0))), (q31, .inl (ca 0, 16, .inl (fun _ => 0)))] H locs := X
  refine lv_aload_n X.1.1 X.1.2.1 dX4_init_36 rfl hl ?_
  refine lv_iconst (v := 2) X.1.1 X.1.2.1 dX4_init_37 rfl ?_
  refine c_newa (N := 2) (t := 0) X (by decide) rfl rfl (by decide) (by decide) (by decide) dX4_init_38 (fun q38 H X => ?_)
  refine c_putF (q0 := 0) (ty := tyX4 6) X hin zf_X4_23 rfl rfl rfl (tyX4_ok 6 (by decide)) ⟨_, zm_3_87, rfl⟩ rfl rfl rfl (Nat.le_of_ble_eq_true rfl) dX4_init_40 (fun H locs X => ?_)
  replace X : cX mX4_init p s m args meth c D ca A [(h0, .inr (4, [.long 0, .ref q8, .int 0, .ref q15, .ref q23, .ref q31, .ref q38, .null, .null, .null, .int 0, .int 0, .int 0, .int 0, .int 0, .int 0, .null, .null, .null, .null, .int 0, .null])), (q8, .inl (ca 1, 200, .inl (fun _ => 0))), (q15, .inl (ca 0, 2, .inl (fun _ => 0))), (q23, .inl (ca 0, 16, .inl (fun _ => 0))), (q31, .inl (ca 0, 16, .inl (fun _ => 0))), (q38, .inl (ca 0, 2, .inl (fun _ => 0)))] H locs := X
  refine lv_aload_n X.1.1 X.1.2.1 dX4_init_43 rfl hl ?_
  refine lv_iconst (v := 2) X.1.1 X.1.2.1 dX4_init_44 rfl ?_
  refine c_newa (N := 2) (t := 0) X (by decide) rfl rfl (by decide) (by decide) (by decide) dX4_init_45 (fun q45 H X => ?_)
  refine c_putF (q0 := 0) (ty := tyX4 7) X hin zf_X4_26 rfl rfl rfl (tyX4_ok 7 (by decide)) ⟨_, zm_3_88, rfl⟩ rfl rfl rfl (Nat.le_of_ble_eq_true rfl) dX4_init_47 (fun H locs X => ?_)
  replace X : cX mX4_init p s m args meth c D ca A [(h0, .inr (4, [.long 0, .ref q8, .int 0, .ref q15, .ref q23, .ref q31, .ref q38, .ref q45, .null, .null, .int 0, .int 0, .int 0, .int 0, .int 0, .int 0, .null, .null, .null, .null, .int 0, .null])), (q8, .inl (ca 1, 200, .inl (fun _ => 0))), (q15, .inl (ca 0, 2, .inl (fun _ => 0))), (q23, .inl (ca 0, 16, .inl (fun _ => 0))), (q31, .inl (ca 0, 16, .inl (fun _ => 0))), (q38, .inl (ca 0, 2, .inl (fun _ => 0))), (q45, .inl (ca 0, 2, .inl (fun _ => 0)))] H locs := X
  refine lv_aload_n X.1.1 X.1.2.1 dX4_init_50 rfl hl ?_
  refine lv_bipush (v := 10) X.1.1 X.1.2.1 dX4_init_51 rfl ?_
  refine c_newa (N := 10) (t := 0) X (by decide) rfl rfl (by decide) (by decide) (by decide) dX4_init_53 (fun q53 H X => ?_)
  refine c_putF (q0 := 0) (ty := tyX4 8) X hin zf_X4_29 rfl rfl rfl (tyX4_ok 8 (by decide)) ⟨_, zm_3_89, rfl⟩ rfl rfl rfl (Nat.le_of_ble_eq_true rfl) dX4_init_55 (fun H locs X => ?_)
  replace X : cX mX4_init p s m args meth c D ca A [(h0, .inr (4, [.long 0, .ref q8, .int 0, .ref q15, .ref q23, .ref q31, .ref q38, .ref q45, .ref q53, .null, .int 0, .int 0, .int 0, .int 0, .int 0, .int 0, .null, .null, .null, .null, .int 0, .null])), (q8, .inl (ca 1, 200, .inl (fun _ => 0))), (q15, .inl (ca 0, 2, .inl (fun _ => 0))), (q23, .inl (ca 0, 16, .inl (fun _ => 0))), (q31, .inl (ca 0, 16, .inl (fun _ => 0))), (q38, .inl (ca 0, 2, .inl (fun _ => 0))), (q45, .inl (ca 0, 2, .inl (fun _ => 0))), (q53, .inl (ca 0, 10, .inl (fun _ => 0)))] H locs := X
  refine lv_aload_n X.1.1 X.1.2.1 dX4_init_58 rfl hl ?_
  refine lv_iconst (v := 2) X.1.1 X.1.2.1 dX4_init_59 rfl ?_
  refine c_newa (N := 2) (t := 0) X (by decide) rfl rfl (by decide) (by decide) (by decide) dX4_init_60 (fun q60 H X => ?_)
  refine c_putF (q0 := 0) (ty := tyX4 9) X hin zf_X4_32 rfl rfl rfl (tyX4_ok 9 (by decide)) ⟨_, zm_3_90, rfl⟩ rfl rfl rfl (Nat.le_of_ble_eq_true rfl) dX4_init_62 (fun H locs X => ?_)
  replace X : cX mX4_init p s m args meth c D ca A [(h0, .inr (4, [.long 0, .ref q8, .int 0, .ref q15, .ref q23, .ref q31, .ref q38, .ref q45, .ref q53, .ref q60, .int 0, .int 0, .int 0, .int 0, .int 0, .int 0, .null, .null, .null, .null, .int 0, .null])), (q8, .inl (ca 1, 200, .inl (fun _ => 0))), (q15, .inl (ca 0, 2, .inl (fun _ => 0))), (q23, .inl (ca 0, 16, .inl (fun _ => 0))), (q31, .inl (ca 0, 16, .inl (fun _ => 0))), (q38, .inl (ca 0, 2, .inl (fun _ => 0))), (q45, .inl (ca 0, 2, .inl (fun _ => 0))), (q53, .inl (ca 0, 10, .inl (fun _ => 0))), (q60, .inl (ca 0, 2, .inl (fun _ => 0)))] H locs := X
  refine lv_aload_n X.1.1 X.1.2.1 dX4_init_65 rfl hl ?_
  refine lv_sipush (v := 441) X.1.1 X.1.2.1 dX4_init_66 rfl ?_
  refine c_newa (N := 441) (t := 0) X (by decide) rfl rfl (by decide) (by decide) (by decide) dX4_init_69 (fun q69 H X => ?_)
  refine c_putF (q0 := 0) (ty := tyX4 16) X hin zf_X4_35 rfl rfl rfl (tyX4_ok 16 (by decide)) ⟨_, zm_3_97, rfl⟩ rfl rfl rfl (Nat.le_of_ble_eq_true rfl) dX4_init_71 (fun H locs X => ?_)
  replace X : cX mX4_init p s m args meth c D ca A [(h0, .inr (4, [.long 0, .ref q8, .int 0, .ref q15, .ref q23, .ref q31, .ref q38, .ref q45, .ref q53, .ref q60, .int 0, .int 0, .int 0, .int 0, .int 0, .int 0, .ref q69, .null, .null, .null, .int 0, .null])), (q8, .inl (ca 1, 200, .inl (fun _ => 0))), (q15, .inl (ca 0, 2, .inl (fun _ => 0))), (q23, .inl (ca 0, 16, .inl (fun _ => 0))), (q31, .inl (ca 0, 16, .inl (fun _ => 0))), (q38, .inl (ca 0, 2, .inl (fun _ => 0))), (q45, .inl (ca 0, 2, .inl (fun _ => 0))), (q53, .inl (ca 0, 10, .inl (fun _ => 0))), (q60, .inl (ca 0, 2, .inl (fun _ => 0))), (q69, .inl (ca 0, 441, .inl (fun _ => 0)))] H locs := X
  refine lv_aload_n X.1.1 X.1.2.1 dX4_init_74 rfl hl ?_
  refine lv_iconst (v := 2) X.1.1 X.1.2.1 dX4_init_75 rfl ?_
  refine c_newa (N := 2) (t := 2) X (by decide) rfl rfl (by decide) (by decide) (by decide) dX4_init_76 (fun q76 H X => ?_)
  refine c_putF (q0 := 0) (ty := tyX4 17) X hin zf_X4_38 rfl rfl rfl (tyX4_ok 17 (by decide)) ⟨_, zm_3_98, rfl⟩ rfl rfl rfl (Nat.le_of_ble_eq_true rfl) dX4_init_78 (fun H locs X => ?_)
  replace X : cX mX4_init p s m args meth c D ca A [(h0, .inr (4, [.long 0, .ref q8, .int 0, .ref q15, .ref q23, .ref q31, .ref q38, .ref q45, .ref q53, .ref q60, .int 0, .int 0, .int 0, .int 0, .int 0, .int 0, .ref q69, .ref q76, .null, .null, .int 0, .null])), (q8, .inl (ca 1, 200, .inl (fun _ => 0))), (q15, .inl (ca 0, 2, .inl (fun _ => 0))), (q23, .inl (ca 0, 16, .inl (fun _ => 0))), (q31, .inl (ca 0, 16, .inl (fun _ => 0))), (q38, .inl (ca 0, 2, .inl (fun _ => 0))), (q45, .inl (ca 0, 2, .inl (fun _ => 0))), (q53, .inl (ca 0, 10, .inl (fun _ => 0))), (q60, .inl (ca 0, 2, .inl (fun _ => 0))), (q69, .inl (ca 0, 441, .inl (fun _ => 0))), (q76, .inl (ca 2, 2, .inl (fun _ => 0)))] H locs := X
  refine lv_aload_n X.1.1 X.1.2.1 dX4_init_81 rfl hl ?_
  refine lv_bipush (v := 6) X.1.1 X.1.2.1 dX4_init_82 rfl ?_
  refine c_newa (N := 6) (t := 0) X (by decide) rfl rfl (by decide) (by decide) (by decide) dX4_init_84 (fun q84 H X => ?_)
  refine c_putF (q0 := 0) (ty := tyX4 18) X hin zf_X4_42 rfl rfl rfl (tyX4_ok 18 (by decide)) ⟨_, zm_3_99, rfl⟩ rfl rfl rfl (Nat.le_of_ble_eq_true rfl) dX4_init_86 (fun H locs X => ?_)
  replace X : cX mX4_init p s m args meth c D ca A [(h0, .inr (4, [.long 0, .ref q8, .int 0, .ref q15, .ref q23, .ref q31, .ref q38, .ref q45, .ref q53, .ref q60, .int 0, .int 0, .int 0, .int 0, .int 0, .int 0, .ref q69, .ref q76, .ref q84, .null, .int 0, .null])), (q8, .inl (ca 1, 200, .inl (fun _ => 0))), (q15, .inl (ca 0, 2, .inl (fun _ => 0))), (q23, .inl (ca 0, 16, .inl (fun _ => 0))), (q31, .inl (ca 0, 16, .inl (fun _ => 0))), (q38, .inl (ca 0, 2, .inl (fun _ => 0))), (q45, .inl (ca 0, 2, .inl (fun _ => 0))), (q53, .inl (ca 0, 10, .inl (fun _ => 0))), (q60, .inl (ca 0, 2, .inl (fun _ => 0))), (q69, .inl (ca 0, 441, .inl (fun _ => 0))), (q76, .inl (ca 2, 2, .inl (fun _ => 0))), (q84, .inl (ca 0, 6, .inl (fun _ => 0)))] H locs := X
  refine lv_aload_n X.1.1 X.1.2.1 dX4_init_89 rfl hl ?_
  refine lv_bipush (v := 6) X.1.1 X.1.2.1 dX4_init_90 rfl ?_
  refine c_newa (N := 6) (t := 0) X (by decide) rfl rfl (by decide) (by decide) (by decide) dX4_init_92 (fun q92 H X => ?_)
  refine c_putF (q0 := 0) (ty := tyX4 19) X hin zf_X4_45 rfl rfl rfl (tyX4_ok 19 (by decide)) ⟨_, zm_3_100, rfl⟩ rfl rfl rfl (Nat.le_of_ble_eq_true rfl) dX4_init_94 (fun H locs X => ?_)
  replace X : cX mX4_init p s m args meth c D ca A [(h0, .inr (4, [.long 0, .ref q8, .int 0, .ref q15, .ref q23, .ref q31, .ref q38, .ref q45, .ref q53, .ref q60, .int 0, .int 0, .int 0, .int 0, .int 0, .int 0, .ref q69, .ref q76, .ref q84, .ref q92, .int 0, .null])), (q8, .inl (ca 1, 200, .inl (fun _ => 0))), (q15, .inl (ca 0, 2, .inl (fun _ => 0))), (q23, .inl (ca 0, 16, .inl (fun _ => 0))), (q31, .inl (ca 0, 16, .inl (fun _ => 0))), (q38, .inl (ca 0, 2, .inl (fun _ => 0))), (q45, .inl (ca 0, 2, .inl (fun _ => 0))), (q53, .inl (ca 0, 10, .inl (fun _ => 0))), (q60, .inl (ca 0, 2, .inl (fun _ => 0))), (q69, .inl (ca 0, 441, .inl (fun _ => 0))), (q76, .inl (ca 2, 2, .inl (fun _ => 0))), (q84, .inl (ca 0, 6, .inl (fun _ => 0))), (q92, .inl (ca 0, 6, .inl (fun _ => 0)))] H locs := X
  refine lv_aload_n X.1.1 X.1.2.1 dX4_init_97 rfl hl ?_
  refine lv_sipush (v := 256) X.1.1 X.1.2.1 dX4_init_98 rfl ?_
  refine c_newa (N := 256) (t := 0) X (by decide) rfl rfl (by decide) (by decide) (by decide) dX4_init_101 (fun q101 H X => ?_)
  refine c_putF (q0 := 0) (ty := tyX4 21) X hin zf_X4_48 rfl rfl rfl (tyX4_ok 21 (by decide)) ⟨_, zm_3_102, rfl⟩ rfl rfl rfl (Nat.le_of_ble_eq_true rfl) dX4_init_103 (fun H locs X => ?_)
  replace X : cX mX4_init p s m args meth c D ca A [(h0, .inr (4, [.long 0, .ref q8, .int 0, .ref q15, .ref q23, .ref q31, .ref q38, .ref q45, .ref q53, .ref q60, .int 0, .int 0, .int 0, .int 0, .int 0, .int 0, .ref q69, .ref q76, .ref q84, .ref q92, .int 0, .ref q101])), (q8, .inl (ca 1, 200, .inl (fun _ => 0))), (q15, .inl (ca 0, 2, .inl (fun _ => 0))), (q23, .inl (ca 0, 16, .inl (fun _ => 0))), (q31, .inl (ca 0, 16, .inl (fun _ => 0))), (q38, .inl (ca 0, 2, .inl (fun _ => 0))), (q45, .inl (ca 0, 2, .inl (fun _ => 0))), (q53, .inl (ca 0, 10, .inl (fun _ => 0))), (q60, .inl (ca 0, 2, .inl (fun _ => 0))), (q69, .inl (ca 0, 441, .inl (fun _ => 0))), (q76, .inl (ca 2, 2, .inl (fun _ => 0))), (q84, .inl (ca 0, 6, .inl (fun _ => 0))), (q92, .inl (ca 0, 6, .inl (fun _ => 0))), (q101, .inl (ca 0, 256, .inl (fun _ => 0)))] H locs := X
  generalize had : (fun k => ([h0, q8, q15, q23, q31, q38, q45, q53, q60, q69, q76, q84, q92, q101] : List Nat).getD k 0) = ad
  have had0 : ad 0 = h0 := by rw [← had]; rfl
  replace X : cX mX4_init p s m args meth c D ca A ([] ++ (zws ad ca μM00 0 layM ++ [])) H locs := by rw [← had]; exact X
  refine lv_aload_n X.1.1 X.1.2.1 dX4_init_106 rfl hl ?_
  refine W.eq (g2 := F0 m 107 ls ((([] : List Value).map (zmv ad)).reverse ++ .ref (ad 0) :: [])) (by rw [had0]; rfl) ?_
  refine c_callZ (dy := 0) X dX4_init_107 zl_X4_51 zy_X4_plain rfl rfl rfl (by decide) (by decide) (by decide) hsz ⟨by decide, by decide⟩ sp_plain (fun r μ1 H locs hr X => ?_)
  obtain ⟨rfl, rfl⟩ := hr
  refine lv_aload_n X.1.1 X.1.2.1 dX4_init_110 rfl hl ?_
  refine W.eq (g2 := F0 m 111 ls ((([] : List Value).map (zmv ad)).reverse ++ .ref (ad 0) :: [])) (by rw [had0]; rfl) ?_
  refine c_callZ (dy := 0) X dX4_init_111 zl_X4_54 zy_X4_takeDraft rfl rfl rfl (by decide) (by decide) (by decide) hsz ⟨by decide, by decide⟩ sp_takeDraft (fun r μ1 H locs hr X => ?_)
  obtain ⟨rfl, rfl⟩ := hr
  exact W.vret X.1.1 X.1.2.1 (X.1.2.2.1.trans rfl) (fun t ht hW => ⟨⟨_, rfl, ⟨ad, had0, List.append_nil _⟩, by rw [ht]; exact X.2.1, X.2.2.1⟩, X.2.2.2.F ht⟩) X.2.2.2.2.2 dX4_init_114 X.1.2.2.2.2.2.1
