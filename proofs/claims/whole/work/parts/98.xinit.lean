set_option maxHeartbeats 60000000 in
set_option maxRecDepth 100000 in
theorem yc_X6 (l : Launch) (D : va_G) (cy : Nat → ClassId) (g : Nat → Nat) : y_Ct l D (y_tys cy) y_EX yX6_init wsX6_init rm_X6_init 6 72 683 fs0X6 (fun h u => ∃ ad : Nat → Nat, ad 0 = h ∧ (∀ i, ad (1000 + i) = g i) ∧ u = z_W (D, cy, ad, z_shX, fun _ => True) y_x0) := by
  refine y_start (by decide) rfl (by decide) rfl ?_
  intro p e s m args below meth c h0 hr hlo hE X
  have X : y_Cx _ cX6_init wsX6_init RX6 (y_tys cy) := X
  refine y_aload X dX6_init_0 rfl 0 rfl ?_
  refine y_obj X lk_X6_init_o1 lk_X6_init_o2 lk_X6_init_o3 dX6_init_1 (by decide) (Nat.le_of_ble_eq_true rfl) ?_
  refine y_aload X dX6_init_4 rfl 0 rfl ?_
  refine y_sub (C := RX3) (T := TX3) (N := 12) (host := "BlushBank") X y_EX_ok hE (yc_X3 l D cy) in_X6_init_X3 tyX3 tyX3_ok lk_X6_init_c7 lk_X6_init_nX3 lk_X6_init_iX3 rfl fs0X3_ok ggX6_init_X3_init rfl (y_nw0 hE) rfl rfl lk_X6_init_mX3 (by decide +kernel) ⟨by decide, by decide⟩ rfl rfl (Nat.le_of_ble_eq_true rfl) (Nat.le_of_ble_eq_true rfl) (Nat.le_of_ble_eq_true rfl) dX6_init_5 dX6_init_8 dX6_init_9 (fun q1 u1 hu1 => ?_)
  obtain ⟨o01, b01, o11, b11, a1, rfl⟩ := hu1
  refine y_putF (ref := RX6) (C := RX6) (T := TX6) (N := 9) (ci := 6) (ws' := (h0, .inr (6, [.ref q1, .null, .null, .null, .null, .null, .null, .null, .int 0])) :: (y_scr cy q1 o01 b01 o11 b11 a1)) X in_X6_init_X6 tyX6 tyX6_ok nmX6 0 rfl rfl 0 (by decide) lk_X6_init_f10 rfl rfl rfl rfl (Nat.le_of_ble_eq_true rfl) dX6_init_12 rfl ?_
  refine y_aload X dX6_init_15 rfl 0 rfl ?_
  refine y_sub (C := RX5) (T := TX5) (N := 8) (host := "BlushBank") X y_EX_ok hE (yc_X5 l D cy) in_X6_init_X5 tyX5 tyX5_ok lk_X6_init_c16 lk_X6_init_nX5 lk_X6_init_iX5 rfl fs0X5_ok ggX6_init_X5_init rfl (y_nw1 hE) rfl rfl lk_X6_init_mX5 (by decide +kernel) ⟨by decide, by decide⟩ rfl rfl (Nat.le_of_ble_eq_true rfl) (Nat.le_of_ble_eq_true rfl) (Nat.le_of_ble_eq_true rfl) dX6_init_16 dX6_init_19 dX6_init_20 (fun q2 u2 hu2 => ?_)
  obtain ⟨a2, rfl⟩ := hu2
  refine y_putF (ref := RX6) (C := RX6) (T := TX6) (N := 9) (ci := 6) (ws' := (h0, .inr (6, [.ref q1, .ref q2, .null, .null, .null, .null, .null, .null, .int 0])) :: (y_scr cy q1 o01 b01 o11 b11 a1 ++ y_sto cy q2 a2)) X in_X6_init_X6 tyX6 tyX6_ok nmX6 0 rfl rfl 1 (by decide) lk_X6_init_f19 rfl rfl rfl rfl (Nat.le_of_ble_eq_true rfl) dX6_init_23 rfl ?_
  refine y_aload X dX6_init_26 rfl 0 rfl ?_
  refine y_sub (C := RX1) (T := TX1) (N := 11) (host := "BlushBank") X y_EX_ok hE (yc_X1 l D cy) in_X6_init_X1 tyX1 tyX1_ok lk_X6_init_c23 lk_X6_init_nX1 lk_X6_init_iX1 rfl fs0X1_ok ggX6_init_X1_init rfl (y_nw2 hE) rfl rfl lk_X6_init_mX1 (by decide +kernel) ⟨by decide, by decide⟩ rfl rfl (Nat.le_of_ble_eq_true rfl) (Nat.le_of_ble_eq_true rfl) (Nat.le_of_ble_eq_true rfl) dX6_init_27 dX6_init_30 dX6_init_31 (fun q3 u3 hu3 => ?_)
  obtain ⟨a3, rfl⟩ := hu3
  refine y_putF (ref := RX6) (C := RX6) (T := TX6) (N := 9) (ci := 6) (ws' := (h0, .inr (6, [.ref q1, .ref q2, .ref q3, .null, .null, .null, .null, .null, .int 0])) :: (y_scr cy q1 o01 b01 o11 b11 a1 ++ y_sto cy q2 a2 ++ y_led cy q3 a3)) X in_X6_init_X6 tyX6 tyX6_ok nmX6 0 rfl rfl 2 (by decide) lk_X6_init_f26 rfl rfl rfl rfl (Nat.le_of_ble_eq_true rfl) dX6_init_34 rfl ?_
  refine y_aload X dX6_init_37 rfl 0 rfl ?_
  refine y_sub (C := RX2) (T := TX2) (N := 4) (host := "BlushBank") X y_EX_ok hE (yc_X2 l D cy) in_X6_init_X2 tyX2 tyX2_ok lk_X6_init_c30 lk_X6_init_nX2 lk_X6_init_iX2 rfl fs0X2_ok ggX6_init_X2_init rfl (y_nw3 hE) rfl rfl lk_X6_init_mX2 (by decide +kernel) ⟨by decide, by decide⟩ rfl rfl (Nat.le_of_ble_eq_true rfl) (Nat.le_of_ble_eq_true rfl) (Nat.le_of_ble_eq_true rfl) dX6_init_38 dX6_init_41 dX6_init_42 (fun q4 u4 hu4 => ?_)
  obtain ⟨a4, rfl⟩ := hu4
  refine y_putF (ref := RX6) (C := RX6) (T := TX6) (N := 9) (ci := 6) (ws' := (h0, .inr (6, [.ref q1, .ref q2, .ref q3, .ref q4, .null, .null, .null, .null, .int 0])) :: (y_scr cy q1 o01 b01 o11 b11 a1 ++ y_sto cy q2 a2 ++ y_led cy q3 a3 ++ y_nts cy q4 a4)) X in_X6_init_X6 tyX6 tyX6_ok nmX6 0 rfl rfl 3 (by decide) lk_X6_init_f33 rfl rfl rfl rfl (Nat.le_of_ble_eq_true rfl) dX6_init_45 rfl ?_
  refine y_aload X dX6_init_48 rfl 0 rfl ?_
  refine y_sub (C := RX1) (T := TX1) (N := 11) (host := "BlushBank") X y_EX_ok hE (yc_X1 l D cy) in_X6_init_X1 tyX1 tyX1_ok lk_X6_init_c23 lk_X6_init_nX1 lk_X6_init_iX1 rfl fs0X1_ok ggX6_init_X1_init rfl (y_nw2 hE) rfl rfl lk_X6_init_mX1 (by decide +kernel) ⟨by decide, by decide⟩ rfl rfl (Nat.le_of_ble_eq_true rfl) (Nat.le_of_ble_eq_true rfl) (Nat.le_of_ble_eq_true rfl) dX6_init_49 dX6_init_52 dX6_init_53 (fun q5 u5 hu5 => ?_)
  obtain ⟨a5, rfl⟩ := hu5
  refine y_putF (ref := RX6) (C := RX6) (T := TX6) (N := 9) (ci := 6) (ws' := (h0, .inr (6, [.ref q1, .ref q2, .ref q3, .ref q4, .ref q5, .null, .null, .null, .int 0])) :: (y_scr cy q1 o01 b01 o11 b11 a1 ++ y_sto cy q2 a2 ++ y_led cy q3 a3 ++ y_nts cy q4 a4 ++ y_led cy q5 a5)) X in_X6_init_X6 tyX6 tyX6_ok nmX6 0 rfl rfl 4 (by decide) lk_X6_init_f37 rfl rfl rfl rfl (Nat.le_of_ble_eq_true rfl) dX6_init_56 rfl ?_
  refine y_aload X dX6_init_59 rfl 0 rfl ?_
  refine y_iconst (v := 4) X dX6_init_60 (by decide) ?_
  refine y_newa (atype := .int) (N' := 4) (a0 := (4, .inl fun _ => 0)) X 0 rfl rfl lk_X6_init_a0 (fun _ h => by cases h) (fun _ => rfl) (by decide) (by decide) (by decide) (Nat.le_of_ble_eq_true rfl) (Nat.le_of_ble_eq_true rfl) dX6_init_61 (fun q6 => ?_)
  refine y_putF (ref := RX6) (C := RX6) (T := TX6) (N := 9) (ci := 6) (ws' := (h0, .inr (6, [.ref q1, .ref q2, .ref q3, .ref q4, .ref q5, .ref q6, .null, .null, .int 0])) :: (y_scr cy q1 o01 b01 o11 b11 a1 ++ y_sto cy q2 a2 ++ y_led cy q3 a3 ++ y_nts cy q4 a4 ++ y_led cy q5 a5 ++ y_ar cy 0 4 q6)) X in_X6_init_X6 tyX6 tyX6_ok nmX6 0 rfl rfl 5 (by decide) lk_X6_init_f40 rfl rfl rfl rfl (Nat.le_of_ble_eq_true rfl) dX6_init_63 rfl ?_
  refine y_aload X dX6_init_66 rfl 0 rfl ?_
  refine y_iconst (v := 2) X dX6_init_67 (by decide) ?_
  refine y_newq (N' := 2) (C := RX0) X 3 rfl lk_X6_init_c44 hE.2.1 (by decide) (by decide) (by decide) (Nat.le_of_ble_eq_true rfl) (Nat.le_of_ble_eq_true rfl) dX6_init_68 (fun q7 => ?_)
  refine y_putF (ref := RX6) (C := RX6) (T := TX6) (N := 9) (ci := 6) (ws' := (h0, .inr (6, [.ref q1, .ref q2, .ref q3, .ref q4, .ref q5, .ref q6, .ref q7, .null, .int 0])) :: (y_scr cy q1 o01 b01 o11 b11 a1 ++ y_sto cy q2 a2 ++ y_led cy q3 a3 ++ y_nts cy q4 a4 ++ y_led cy q5 a5 ++ y_ar cy 0 4 q6 ++ y_rq (cy 3) 2 (fun _ => none) q7)) X in_X6_init_X6 tyX6 tyX6_ok nmX6 0 rfl rfl 6 (by decide) lk_X6_init_f46 rfl rfl rfl rfl (Nat.le_of_ble_eq_true rfl) dX6_init_71 rfl ?_
  refine y_aload X dX6_init_74 rfl 0 rfl ?_
  refine y_iconst (v := 4) X dX6_init_75 (by decide) ?_
  refine y_newq (N' := 4) (C := RX4) X 4 rfl lk_X6_init_c50 hE.2.2 (by decide) (by decide) (by decide) (Nat.le_of_ble_eq_true rfl) (Nat.le_of_ble_eq_true rfl) dX6_init_76 (fun q8 => ?_)
  refine y_putF (ref := RX6) (C := RX6) (T := TX6) (N := 9) (ci := 6) (ws' := (h0, .inr (6, [.ref q1, .ref q2, .ref q3, .ref q4, .ref q5, .ref q6, .ref q7, .ref q8, .int 0])) :: (y_scr cy q1 o01 b01 o11 b11 a1 ++ y_sto cy q2 a2 ++ y_led cy q3 a3 ++ y_nts cy q4 a4 ++ y_led cy q5 a5 ++ y_ar cy 0 4 q6 ++ y_rq (cy 3) 2 (fun _ => none) q7 ++ y_rq (cy 4) 4 (fun _ => none) q8)) X in_X6_init_X6 tyX6 tyX6_ok nmX6 0 rfl rfl 7 (by decide) lk_X6_init_f52 rfl rfl rfl rfl (Nat.le_of_ble_eq_true rfl) dX6_init_79 rfl ?_
  refine y_eqw (y_ww_eq (h0, .inr (6, [.ref q1, .ref q2, .ref q3, .ref q4, .ref q5, .ref q6, .ref q7, .ref q8, .int 0])) (y_scr cy q1 o01 b01 o11 b11 a1 ++ y_sto cy q2 a2 ++ y_led cy q3 a3 ++ y_nts cy q4 a4 ++ y_led cy q5 a5 ++ y_ar cy 0 4 q6) (q7, .inl (cy 3, 2, .inr (.inr (.inr (.inr (fun _ => none)))))) (q8, .inl (cy 4, 4, .inr (.inr (.inr (.inr (fun _ => none))))))) ?_
  refine y_iconst (v := 0) X dX6_init_82 (by decide) ?_
  refine y_istore (lv' := [(1, .int 0), (0, .ref h0)]) X dX6_init_83 rfl (by decide) rfl ?_
  refine y_iload X dX6_init_84 rfl 0 rfl ?_
  refine y_iconst (v := 2) X dX6_init_85 (by decide) ?_
  refine y_geF (tgt := 108) X dX6_init_86 (by decide) (by decide) ?_
  refine y_aload X dX6_init_89 rfl 1 rfl ?_
  refine y_get (C := RX6) (T := TX6) (N := 9) (ci := 6) X in_X6_init_X6 0 rfl rfl 6 (by decide) lk_X6_init_f46 rfl dX6_init_90 ?_
  refine y_iload X dX6_init_93 rfl 0 rfl ?_
  refine y_sub (C := RX0) (T := TX0) (N := 3) (host := "BlushBank") X y_EX_ok hE (yc_X0 l D cy) in_X6_init_X0 tyX0 tyX0_ok lk_X6_init_c44 lk_X6_init_nX0 lk_X6_init_iX0 rfl fs0X0_ok ggX6_init_X0_init rfl (y_nw4 hE) rfl rfl lk_X6_init_mX0 (by decide +kernel) ⟨by decide, by decide⟩ rfl rfl (Nat.le_of_ble_eq_true rfl) (Nat.le_of_ble_eq_true rfl) (Nat.le_of_ble_eq_true rfl) dX6_init_94 dX6_init_97 dX6_init_98 (fun q9 u9 hu9 => ?_)
  obtain ⟨o09, b09, o19, b19, rfl⟩ := hu9
  refine y_ast7 (k := 0) (r := (RX0, TX0, 3)) X 3 0 rfl rfl rfl (show ¬ ((0 : Int32) < 0 ∨ 2 ≤ (0 : Int32).toNatClampNeg) by decide) (by decide) dX6_init_101 ?_
  refine y_iinc (v := 1) (lv' := [(1, .int 1), (0, .ref h0)]) X dX6_init_102 0 rfl (by decide) (by decide) rfl ?_
  refine y_goto (tgt := 84) X dX6_init_105 (by decide) ?_
  refine y_iload X dX6_init_84 rfl 0 rfl ?_
  refine y_iconst (v := 2) X dX6_init_85 (by decide) ?_
  refine y_geF (tgt := 108) X dX6_init_86 (by decide) (by decide) ?_
  refine y_aload X dX6_init_89 rfl 1 rfl ?_
  refine y_get (C := RX6) (T := TX6) (N := 9) (ci := 6) X in_X6_init_X6 0 rfl rfl 6 (by decide) lk_X6_init_f46 rfl dX6_init_90 ?_
  refine y_iload X dX6_init_93 rfl 0 rfl ?_
  refine y_sub (C := RX0) (T := TX0) (N := 3) (host := "BlushBank") X y_EX_ok hE (yc_X0 l D cy) in_X6_init_X0 tyX0 tyX0_ok lk_X6_init_c44 lk_X6_init_nX0 lk_X6_init_iX0 rfl fs0X0_ok ggX6_init_X0_init rfl (y_nw4 hE) rfl rfl lk_X6_init_mX0 (by decide +kernel) ⟨by decide, by decide⟩ rfl rfl (Nat.le_of_ble_eq_true rfl) (Nat.le_of_ble_eq_true rfl) (Nat.le_of_ble_eq_true rfl) dX6_init_94 dX6_init_97 dX6_init_98 (fun q10 u10 hu10 => ?_)
  obtain ⟨o010, b010, o110, b110, rfl⟩ := hu10
  refine y_ast7 (k := 1) (r := (RX0, TX0, 3)) X 3 0 rfl rfl rfl (show ¬ ((1 : Int32) < 0 ∨ 2 ≤ (1 : Int32).toNatClampNeg) by decide) (by decide) dX6_init_101 ?_
  refine y_iinc (v := 2) (lv' := [(1, .int 2), (0, .ref h0)]) X dX6_init_102 0 rfl (by decide) (by decide) rfl ?_
  refine y_goto (tgt := 84) X dX6_init_105 (by decide) ?_
  refine y_iload X dX6_init_84 rfl 0 rfl ?_
  refine y_iconst (v := 2) X dX6_init_85 (by decide) ?_
  refine y_geT (tgt := 108) X dX6_init_86 (by decide) (by decide) ?_
  refine y_iconst (v := 0) X dX6_init_108 (by decide) ?_
  refine y_istore (lv' := [(1, .int 0), (0, .ref h0)]) X dX6_init_109 rfl (by decide) rfl ?_
  refine y_iload X dX6_init_110 rfl 0 rfl ?_
  refine y_iconst (v := 4) X dX6_init_111 (by decide) ?_
  refine y_geF (tgt := 134) X dX6_init_112 (by decide) (by decide) ?_
  refine y_aload X dX6_init_115 rfl 1 rfl ?_
  refine y_get (C := RX6) (T := TX6) (N := 9) (ci := 6) X in_X6_init_X6 0 rfl rfl 7 (by decide) lk_X6_init_f52 rfl dX6_init_116 ?_
  refine y_iload X dX6_init_119 rfl 0 rfl ?_
  refine y_sub (C := RX4) (T := TX4) (N := 3) (host := "BlushBank") X y_EX_ok hE (yc_X4 l D cy) in_X6_init_X4 tyX4 tyX4_ok lk_X6_init_c50 lk_X6_init_nX4 lk_X6_init_iX4 rfl fs0X4_ok ggX6_init_X4_init rfl (y_nw5 hE) rfl rfl lk_X6_init_mX4 (by decide +kernel) ⟨by decide, by decide⟩ rfl rfl (Nat.le_of_ble_eq_true rfl) (Nat.le_of_ble_eq_true rfl) (Nat.le_of_ble_eq_true rfl) dX6_init_120 dX6_init_123 dX6_init_124 (fun q11 u11 hu11 => ?_)
  obtain ⟨a11, rfl⟩ := hu11
  refine y_ast8 (k := 0) (r := (RX4, TX4, 3)) X 4 4 rfl rfl rfl (show ¬ ((0 : Int32) < 0 ∨ 4 ≤ (0 : Int32).toNatClampNeg) by decide) (by decide) dX6_init_127 ?_
  refine y_iinc (v := 1) (lv' := [(1, .int 1), (0, .ref h0)]) X dX6_init_128 0 rfl (by decide) (by decide) rfl ?_
  refine y_goto (tgt := 110) X dX6_init_131 (by decide) ?_
  refine y_iload X dX6_init_110 rfl 0 rfl ?_
  refine y_iconst (v := 4) X dX6_init_111 (by decide) ?_
  refine y_geF (tgt := 134) X dX6_init_112 (by decide) (by decide) ?_
  refine y_aload X dX6_init_115 rfl 1 rfl ?_
  refine y_get (C := RX6) (T := TX6) (N := 9) (ci := 6) X in_X6_init_X6 0 rfl rfl 7 (by decide) lk_X6_init_f52 rfl dX6_init_116 ?_
  refine y_iload X dX6_init_119 rfl 0 rfl ?_
  refine y_sub (C := RX4) (T := TX4) (N := 3) (host := "BlushBank") X y_EX_ok hE (yc_X4 l D cy) in_X6_init_X4 tyX4 tyX4_ok lk_X6_init_c50 lk_X6_init_nX4 lk_X6_init_iX4 rfl fs0X4_ok ggX6_init_X4_init rfl (y_nw5 hE) rfl rfl lk_X6_init_mX4 (by decide +kernel) ⟨by decide, by decide⟩ rfl rfl (Nat.le_of_ble_eq_true rfl) (Nat.le_of_ble_eq_true rfl) (Nat.le_of_ble_eq_true rfl) dX6_init_120 dX6_init_123 dX6_init_124 (fun q12 u12 hu12 => ?_)
  obtain ⟨a12, rfl⟩ := hu12
  refine y_ast8 (k := 1) (r := (RX4, TX4, 3)) X 4 4 rfl rfl rfl (show ¬ ((1 : Int32) < 0 ∨ 4 ≤ (1 : Int32).toNatClampNeg) by decide) (by decide) dX6_init_127 ?_
  refine y_iinc (v := 2) (lv' := [(1, .int 2), (0, .ref h0)]) X dX6_init_128 0 rfl (by decide) (by decide) rfl ?_
  refine y_goto (tgt := 110) X dX6_init_131 (by decide) ?_
  refine y_iload X dX6_init_110 rfl 0 rfl ?_
  refine y_iconst (v := 4) X dX6_init_111 (by decide) ?_
  refine y_geF (tgt := 134) X dX6_init_112 (by decide) (by decide) ?_
  refine y_aload X dX6_init_115 rfl 1 rfl ?_
  refine y_get (C := RX6) (T := TX6) (N := 9) (ci := 6) X in_X6_init_X6 0 rfl rfl 7 (by decide) lk_X6_init_f52 rfl dX6_init_116 ?_
  refine y_iload X dX6_init_119 rfl 0 rfl ?_
  refine y_sub (C := RX4) (T := TX4) (N := 3) (host := "BlushBank") X y_EX_ok hE (yc_X4 l D cy) in_X6_init_X4 tyX4 tyX4_ok lk_X6_init_c50 lk_X6_init_nX4 lk_X6_init_iX4 rfl fs0X4_ok ggX6_init_X4_init rfl (y_nw5 hE) rfl rfl lk_X6_init_mX4 (by decide +kernel) ⟨by decide, by decide⟩ rfl rfl (Nat.le_of_ble_eq_true rfl) (Nat.le_of_ble_eq_true rfl) (Nat.le_of_ble_eq_true rfl) dX6_init_120 dX6_init_123 dX6_init_124 (fun q13 u13 hu13 => ?_)
  obtain ⟨a13, rfl⟩ := hu13
  refine y_ast8 (k := 2) (r := (RX4, TX4, 3)) X 4 4 rfl rfl rfl (show ¬ ((2 : Int32) < 0 ∨ 4 ≤ (2 : Int32).toNatClampNeg) by decide) (by decide) dX6_init_127 ?_
  refine y_iinc (v := 3) (lv' := [(1, .int 3), (0, .ref h0)]) X dX6_init_128 0 rfl (by decide) (by decide) rfl ?_
  refine y_goto (tgt := 110) X dX6_init_131 (by decide) ?_
  refine y_iload X dX6_init_110 rfl 0 rfl ?_
  refine y_iconst (v := 4) X dX6_init_111 (by decide) ?_
  refine y_geF (tgt := 134) X dX6_init_112 (by decide) (by decide) ?_
  refine y_aload X dX6_init_115 rfl 1 rfl ?_
  refine y_get (C := RX6) (T := TX6) (N := 9) (ci := 6) X in_X6_init_X6 0 rfl rfl 7 (by decide) lk_X6_init_f52 rfl dX6_init_116 ?_
  refine y_iload X dX6_init_119 rfl 0 rfl ?_
  refine y_sub (C := RX4) (T := TX4) (N := 3) (host := "BlushBank") X y_EX_ok hE (yc_X4 l D cy) in_X6_init_X4 tyX4 tyX4_ok lk_X6_init_c50 lk_X6_init_nX4 lk_X6_init_iX4 rfl fs0X4_ok ggX6_init_X4_init rfl (y_nw5 hE) rfl rfl lk_X6_init_mX4 (by decide +kernel) ⟨by decide, by decide⟩ rfl rfl (Nat.le_of_ble_eq_true rfl) (Nat.le_of_ble_eq_true rfl) (Nat.le_of_ble_eq_true rfl) dX6_init_120 dX6_init_123 dX6_init_124 (fun q14 u14 hu14 => ?_)
  obtain ⟨a14, rfl⟩ := hu14
  refine y_ast8 (k := 3) (r := (RX4, TX4, 3)) X 4 4 rfl rfl rfl (show ¬ ((3 : Int32) < 0 ∨ 4 ≤ (3 : Int32).toNatClampNeg) by decide) (by decide) dX6_init_127 ?_
  refine y_iinc (v := 4) (lv' := [(1, .int 4), (0, .ref h0)]) X dX6_init_128 0 rfl (by decide) (by decide) rfl ?_
  refine y_goto (tgt := 110) X dX6_init_131 (by decide) ?_
  refine y_iload X dX6_init_110 rfl 0 rfl ?_
  refine y_iconst (v := 4) X dX6_init_111 (by decide) ?_
  refine y_geT (tgt := 134) X dX6_init_112 (by decide) (by decide) ?_
  refine y_eqw (y_fl0_eq cy h0 g q1 o01 b01 o11 b11 a1 q2 a2 q3 a3 q4 a4 q5 a5 q6 q7 q8 q9 o09 b09 o19 b19 q10 o010 b010 o110 b110 q11 a11 q12 a12 q13 a13 q14 a14) ?_
  refine y_sel (ws' := z_W (D, cy, (y_ad [h0, q6, q7, q8, q2, (a2 0), (a2 1), (a2 2), (a2 3), (a2 4), (a2 5), q3, (a3 0), (a3 1), (a3 2), (a3 3), (a3 4), q5, (a5 0), (a5 1), (a5 2), (a5 3), (a5 4), q4, (a4 0), (a4 1), (a4 2), q1, (a1 0), (a1 1), o01, (b01 0), (b01 1), (b01 2), (b01 3), (b01 4), (b01 5), o11, (b11 0), (b11 1), (b11 2), (b11 3), (b11 4), q9, o09, (b09 0), (b09 1), (b09 2), (b09 3), (b09 4), o19, (b19 0), (b19 1), (b19 2), q10, o010, (b010 0), (b010 1), (b010 2), (b010 3), (b010 4), o110, (b110 0), (b110 1), (b110 2), q11, (a11 0), q12, (a12 0), q13, (a13 0), q14, (a14 0)] g), z_shX, fun _ => True) y_x0) [0, 40, 41, 42, 17, 18, 19, 20, 21, 22, 23, 24, 25, 26, 27, 28, 29, 34, 35, 36, 37, 38, 39, 30, 31, 32, 33, 1, 15, 16, 2, 3, 4, 5, 6, 7, 8, 9, 10, 11, 12, 13, 14, 43, 44, 45, 46, 47, 48, 49, 50, 51, 52, 53, 54, 55, 56, 57, 58, 59, 60, 61, 62, 63, 64, 65, 66, 67, 68, 69, 70, 71, 72] (by decide) (y_fl0_map D cy (y_ad [h0, q6, q7, q8, q2, (a2 0), (a2 1), (a2 2), (a2 3), (a2 4), (a2 5), q3, (a3 0), (a3 1), (a3 2), (a3 3), (a3 4), q5, (a5 0), (a5 1), (a5 2), (a5 3), (a5 4), q4, (a4 0), (a4 1), (a4 2), q1, (a1 0), (a1 1), o01, (b01 0), (b01 1), (b01 2), (b01 3), (b01 4), (b01 5), o11, (b11 0), (b11 1), (b11 2), (b11 3), (b11 4), q9, o09, (b09 0), (b09 1), (b09 2), (b09 3), (b09 4), o19, (b19 0), (b19 1), (b19 2), q10, o010, (b010 0), (b010 1), (b010 2), (b010 3), (b010 4), o110, (b110 0), (b110 1), (b110 2), q11, (a11 0), q12, (a12 0), q13, (a13 0), q14, (a14 0)] g) (fun _ => True)) ?_
  exact y_ret hr hlo X ⟨(y_ad [h0, q6, q7, q8, q2, (a2 0), (a2 1), (a2 2), (a2 3), (a2 4), (a2 5), q3, (a3 0), (a3 1), (a3 2), (a3 3), (a3 4), q5, (a5 0), (a5 1), (a5 2), (a5 3), (a5 4), q4, (a4 0), (a4 1), (a4 2), q1, (a1 0), (a1 1), o01, (b01 0), (b01 1), (b01 2), (b01 3), (b01 4), (b01 5), o11, (b11 0), (b11 1), (b11 2), (b11 3), (b11 4), q9, o09, (b09 0), (b09 1), (b09 2), (b09 3), (b09 4), o19, (b19 0), (b19 1), (b19 2), q10, o010, (b010 0), (b010 1), (b010 2), (b010 3), (b010 4), o110, (b110 0), (b110 1), (b110 2), q11, (a11 0), q12, (a12 0), q13, (a13 0), q14, (a14 0)] g), rfl, fun i => y_ad_st _ g (Nat.le_of_ble_eq_true rfl) i, rfl⟩ dX6_init_134
