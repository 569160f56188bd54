abbrev rm_X1_copyFrom : Room := { frames := 1, cells := 0, slots := 0, locals := 40 }
theorem in_X1_copyFrom_X1 : ∀ w ∈ wsX10, w ∈ wsX1_copyFrom := fun w h => List.mem_cons_of_mem _ (List.mem_append_right _ h)
theorem lk_X1_copyFrom_f34 : Cond.fieldLink RX1 34 (TX1 0).1 (TX1 0).2.1 (TX1 0).2.2.1 ∈ wsX1_copyFrom := by decide +kernel
theorem lk_X1_copyFrom_f9 : Cond.fieldLink RX1 9 (TX1 1).1 (TX1 1).2.1 (TX1 1).2.2.1 ∈ wsX1_copyFrom := by decide +kernel
theorem lk_X1_copyFrom_m37 : Cond.methodLink RX1 37 arraycopyName ∈ wsX1_copyFrom := by decide +kernel
theorem lk_X1_copyFrom_yN : Cond.native arraycopyName ∈ wsX1_copyFrom := by decide +kernel
theorem lk_X1_copyFrom_yS : Cond.static arraycopyName ∈ wsX1_copyFrom := by decide +kernel
theorem lk_X1_copyFrom_yI : Cond.initialized "java/lang/System" ∈ wsX1_copyFrom := by decide +kernel
theorem lk_X1_copyFrom_f15 : Cond.fieldLink RX1 15 (TX1 2).1 (TX1 2).2.1 (TX1 2).2.2.1 ∈ wsX1_copyFrom := by decide +kernel
theorem lk_X1_copyFrom_f18 : Cond.fieldLink RX1 18 (TX1 3).1 (TX1 3).2.1 (TX1 3).2.2.1 ∈ wsX1_copyFrom := by decide +kernel
theorem lk_X1_copyFrom_f21 : Cond.fieldLink RX1 21 (TX1 4).1 (TX1 4).2.1 (TX1 4).2.2.1 ∈ wsX1_copyFrom := by decide +kernel
theorem lk_X1_copyFrom_f24 : Cond.fieldLink RX1 24 (TX1 5).1 (TX1 5).2.1 (TX1 5).2.2.1 ∈ wsX1_copyFrom := by decide +kernel
theorem lk_X1_copyFrom_f43 : Cond.fieldLink RX1 43 (TX1 6).1 (TX1 6).2.1 (TX1 6).2.2.1 ∈ wsX1_copyFrom := by decide +kernel
theorem lk_X1_copyFrom_f27 : Cond.fieldLink RX1 27 (TX1 7).1 (TX1 7).2.1 (TX1 7).2.2.1 ∈ wsX1_copyFrom := by decide +kernel
theorem lk_X1_copyFrom_f31 : Cond.fieldLink RX1 31 (TX1 8).1 (TX1 8).2.1 (TX1 8).2.2.1 ∈ wsX1_copyFrom := by decide +kernel
theorem lk_X1_copyFrom_f46 : Cond.fieldLink RX1 46 (TX1 9).1 (TX1 9).2.1 (TX1 9).2.2.1 ∈ wsX1_copyFrom := by decide +kernel
theorem lk_X1_copyFrom_f49 : Cond.fieldLink RX1 49 (TX1 10).1 (TX1 10).2.1 (TX1 10).2.2.1 ∈ wsX1_copyFrom := by decide +kernel
set_option maxHeartbeats 4000000 in
set_option maxRecDepth 100000 in
theorem c_X1_copyFrom (l : Launch) (V : z_V) (hV : z_ok V) (hs : z_isX V) (b : Nat) (hb : z_Led b) (o1 : Nat) (ho1 : z_Led o1) (σ : z_St) : z_CtV l V yX1_copyFrom wsX1_copyFrom rm_X1_copyFrom [.ref (z_ad V b), .ref (z_ad V o1)] σ (f_X1_copyFrom b o1 σ) := by
  refine z_startV (lv := [(0, .ref (z_ad V b)), (1, .ref (z_ad V o1))]) hV (by decide) rfl (Nat.le_of_ble_eq_true rfl) rfl ?_
  intro M hM hX
  have hX : z_Cx M V cX1_copyFrom 2 none wsX1_copyFrom RX1 := hX
  unfold f_X1_copyFrom
  refine z_aload_n hX dX1_copyFrom_0 rfl 0 rfl ?_
  refine z_aload_n hX dX1_copyFrom_1 rfl 1 rfl ?_
  refine z_getI (k := 0) hX (z_led0 hs ho1) rfl rfl in_X1_copyFrom_X1 (by decide) lk_X1_copyFrom_f34 dX1_copyFrom_2 ?_
  refine z_put1 (k := 0) hX (z_led0 hs hb) rfl rfl in_X1_copyFrom_X1 (by decide) lk_X1_copyFrom_f34 tyX1 tyX1_ok nmX1 rfl rfl rfl dX1_copyFrom_5 (z_bs fun s1 => ?_)
  refine z_aload_n hX dX1_copyFrom_8 rfl 1 rfl ?_
  refine z_getR (k := 1) hX (z_led0 hs ho1) rfl rfl in_X1_copyFrom_X1 (by decide) lk_X1_copyFrom_f9 dX1_copyFrom_9 ?_
  refine z_iconst (v := 0) hX dX1_copyFrom_12 (by decide) ?_
  refine z_aload_n hX dX1_copyFrom_13 rfl 0 rfl ?_
  refine z_getR (k := 1) hX (z_led0 hs hb) rfl rfl in_X1_copyFrom_X1 (by decide) lk_X1_copyFrom_f9 dX1_copyFrom_14 ?_
  refine z_iconst (v := 0) hX dX1_copyFrom_17 (by decide) ?_
  refine z_iconst (v := 4) hX dX1_copyFrom_18 (by decide) ?_
  refine z_copy (k := 4) hX lk_X1_copyFrom_m37 lk_X1_copyFrom_yN lk_X1_copyFrom_yS lk_X1_copyFrom_yI (z_led1 hs ho1) (z_led1 hs hb) (by decide) rfl (by decide) (by decide) (by decide) (Nat.le_of_ble_eq_true rfl) dX1_copyFrom_19 (z_bs fun s2 => ?_)
  refine z_aload_n hX dX1_copyFrom_22 rfl 1 rfl ?_
  refine z_getR (k := 2) hX (z_led0 hs ho1) rfl rfl in_X1_copyFrom_X1 (by decide) lk_X1_copyFrom_f15 dX1_copyFrom_23 ?_
  refine z_iconst (v := 0) hX dX1_copyFrom_26 (by decide) ?_
  refine z_aload_n hX dX1_copyFrom_27 rfl 0 rfl ?_
  refine z_getR (k := 2) hX (z_led0 hs hb) rfl rfl in_X1_copyFrom_X1 (by decide) lk_X1_copyFrom_f15 dX1_copyFrom_28 ?_
  refine z_iconst (v := 0) hX dX1_copyFrom_31 (by decide) ?_
  refine z_iconst (v := 4) hX dX1_copyFrom_32 (by decide) ?_
  refine z_copy (k := 4) hX lk_X1_copyFrom_m37 lk_X1_copyFrom_yN lk_X1_copyFrom_yS lk_X1_copyFrom_yI (z_led2 hs ho1) (z_led2 hs hb) (by decide) rfl (by decide) (by decide) (by decide) (Nat.le_of_ble_eq_true rfl) dX1_copyFrom_33 (z_bs fun s3 => ?_)
  refine z_aload_n hX dX1_copyFrom_36 rfl 1 rfl ?_
  refine z_getR (k := 3) hX (z_led0 hs ho1) rfl rfl in_X1_copyFrom_X1 (by decide) lk_X1_copyFrom_f18 dX1_copyFrom_37 ?_
  refine z_iconst (v := 0) hX dX1_copyFrom_40 (by decide) ?_
  refine z_aload_n hX dX1_copyFrom_41 rfl 0 rfl ?_
  refine z_getR (k := 3) hX (z_led0 hs hb) rfl rfl in_X1_copyFrom_X1 (by decide) lk_X1_copyFrom_f18 dX1_copyFrom_42 ?_
  refine z_iconst (v := 0) hX dX1_copyFrom_45 (by decide) ?_
  refine z_iconst (v := 4) hX dX1_copyFrom_46 (by decide) ?_
  refine z_copy (k := 4) hX lk_X1_copyFrom_m37 lk_X1_copyFrom_yN lk_X1_copyFrom_yS lk_X1_copyFrom_yI (z_led3 hs ho1) (z_led3 hs hb) (by decide) rfl (by decide) (by decide) (by decide) (Nat.le_of_ble_eq_true rfl) dX1_copyFrom_47 (z_bs fun s4 => ?_)
  refine z_aload_n hX dX1_copyFrom_50 rfl 1 rfl ?_
  refine z_getR (k := 4) hX (z_led0 hs ho1) rfl rfl in_X1_copyFrom_X1 (by decide) lk_X1_copyFrom_f21 dX1_copyFrom_51 ?_
  refine z_iconst (v := 0) hX dX1_copyFrom_54 (by decide) ?_
  refine z_aload_n hX dX1_copyFrom_55 rfl 0 rfl ?_
  refine z_getR (k := 4) hX (z_led0 hs hb) rfl rfl in_X1_copyFrom_X1 (by decide) lk_X1_copyFrom_f21 dX1_copyFrom_56 ?_
  refine z_iconst (v := 0) hX dX1_copyFrom_59 (by decide) ?_
  refine z_iconst (v := 4) hX dX1_copyFrom_60 (by decide) ?_
  refine z_copy (k := 4) hX lk_X1_copyFrom_m37 lk_X1_copyFrom_yN lk_X1_copyFrom_yS lk_X1_copyFrom_yI (z_led4 hs ho1) (z_led4 hs hb) (by decide) rfl (by decide) (by decide) (by decide) (Nat.le_of_ble_eq_true rfl) dX1_copyFrom_61 (z_bs fun s5 => ?_)
  refine z_aload_n hX dX1_copyFrom_64 rfl 1 rfl ?_
  refine z_getR (k := 5) hX (z_led0 hs ho1) rfl rfl in_X1_copyFrom_X1 (by decide) lk_X1_copyFrom_f24 dX1_copyFrom_65 ?_
  refine z_iconst (v := 0) hX dX1_copyFrom_68 (by decide) ?_
  refine z_aload_n hX dX1_copyFrom_69 rfl 0 rfl ?_
  refine z_getR (k := 5) hX (z_led0 hs hb) rfl rfl in_X1_copyFrom_X1 (by decide) lk_X1_copyFrom_f24 dX1_copyFrom_70 ?_
  refine z_iconst (v := 0) hX dX1_copyFrom_73 (by decide) ?_
  refine z_bipush (v := 6) hX dX1_copyFrom_74 (by decide) ?_
  refine z_copy (k := 6) hX lk_X1_copyFrom_m37 lk_X1_copyFrom_yN lk_X1_copyFrom_yS lk_X1_copyFrom_yI (z_led5 hs ho1) (z_led5 hs hb) (by decide) rfl (by decide) (by decide) (by decide) (Nat.le_of_ble_eq_true rfl) dX1_copyFrom_76 (z_bs fun s6 => ?_)
  refine z_aload_n hX dX1_copyFrom_79 rfl 0 rfl ?_
  refine z_aload_n hX dX1_copyFrom_80 rfl 1 rfl ?_
  refine z_getI (k := 6) hX (z_led0 hs ho1) rfl rfl in_X1_copyFrom_X1 (by decide) lk_X1_copyFrom_f43 dX1_copyFrom_81 ?_
  refine z_put1 (k := 6) hX (z_led0 hs hb) rfl rfl in_X1_copyFrom_X1 (by decide) lk_X1_copyFrom_f43 tyX1 tyX1_ok nmX1 rfl rfl rfl dX1_copyFrom_84 (z_bs fun s7 => ?_)
  refine z_aload_n hX dX1_copyFrom_87 rfl 0 rfl ?_
  refine z_aload_n hX dX1_copyFrom_88 rfl 1 rfl ?_
  refine z_getI (k := 7) hX (z_led0 hs ho1) rfl rfl in_X1_copyFrom_X1 (by decide) lk_X1_copyFrom_f27 dX1_copyFrom_89 ?_
  refine z_put1 (k := 7) hX (z_led0 hs hb) rfl rfl in_X1_copyFrom_X1 (by decide) lk_X1_copyFrom_f27 tyX1 tyX1_ok nmX1 rfl rfl rfl dX1_copyFrom_92 (z_bs fun s8 => ?_)
  refine z_aload_n hX dX1_copyFrom_95 rfl 0 rfl ?_
  refine z_aload_n hX dX1_copyFrom_96 rfl 1 rfl ?_
  refine z_getI (k := 8) hX (z_led0 hs ho1) rfl rfl in_X1_copyFrom_X1 (by decide) lk_X1_copyFrom_f31 dX1_copyFrom_97 ?_
  refine z_put1 (k := 8) hX (z_led0 hs hb) rfl rfl in_X1_copyFrom_X1 (by decide) lk_X1_copyFrom_f31 tyX1 tyX1_ok nmX1 rfl rfl rfl dX1_copyFrom_100 (z_bs fun s9 => ?_)
  refine z_aload_n hX dX1_copyFrom_103 rfl 0 rfl ?_
  refine z_aload_n hX dX1_copyFrom_104 rfl 1 rfl ?_
  refine z_getI (k := 9) hX (z_led0 hs ho1) rfl rfl in_X1_copyFrom_X1 (by decide) lk_X1_copyFrom_f46 dX1_copyFrom_105 ?_
  refine z_put1 (k := 9) hX (z_led0 hs hb) rfl rfl in_X1_copyFrom_X1 (by decide) lk_X1_copyFrom_f46 tyX1 tyX1_ok nmX1 rfl rfl rfl dX1_copyFrom_108 (z_bs fun s10 => ?_)
  refine z_aload_n hX dX1_copyFrom_111 rfl 0 rfl ?_
  refine z_aload_n hX dX1_copyFrom_112 rfl 1 rfl ?_
  refine z_getI (k := 10) hX (z_led0 hs ho1) rfl rfl in_X1_copyFrom_X1 (by decide) lk_X1_copyFrom_f49 dX1_copyFrom_113 ?_
  refine z_put1 (k := 10) hX (z_led0 hs hb) rfl rfl in_X1_copyFrom_X1 (by decide) lk_X1_copyFrom_f49 tyX1 tyX1_ok nmX1 rfl rfl rfl dX1_copyFrom_116 (z_bs fun s11 => ?_)
  exact z_vret hX dX1_copyFrom_119

abbrev rm_X1_isDeposited : Room := { frames := 0, cells := 0, slots := 0, locals := 0 }
theorem in_X1_isDeposited_X1 : ∀ w ∈ wsX10, w ∈ wsX1_isDeposited := fun w h => List.mem_cons_of_mem _ (List.mem_append_right _ h)
theorem lk_X1_isDeposited_f43 : Cond.fieldLink RX1 43 (TX1 6).1 (TX1 6).2.1 (TX1 6).2.2.1 ∈ wsX1_isDeposited := by decide +kernel
set_option maxHeartbeats 4000000 in
set_option maxRecDepth 100000 in
theorem c_X1_isDeposited (l : Launch) (V : z_V) (hV : z_ok V) (hs : z_isX V) (b : Nat) (hb : z_Led b) (x1 : Int32) (σ : z_St) : z_CtI l V yX1_isDeposited wsX1_isDeposited rm_X1_isDeposited [.ref (z_ad V b), .int x1] σ (f_X1_isDeposited b x1 σ) := by
  refine z_startI (lv := [(0, .ref (z_ad V b)), (1, .int x1)]) hV (by decide) rfl (Nat.le_of_ble_eq_true rfl) rfl ?_
  intro M hM hX
  have hX : z_Cx M V cX1_isDeposited 2 (some .boolean) wsX1_isDeposited RX1 := hX
  unfold f_X1_isDeposited
  refine z_aload_n hX dX1_isDeposited_0 rfl 0 rfl ?_
  refine z_getI (k := 6) hX (z_led0 hs hb) rfl rfl in_X1_isDeposited_X1 (by decide) lk_X1_isDeposited_f43 dX1_isDeposited_1 ?_
  refine z_iload_n hX dX1_isDeposited_4 rfl 1 rfl ?_
  refine z_ishr hX dX1_isDeposited_5 ?_
  refine z_iconst (v := 1) hX dX1_isDeposited_6 (by decide) ?_
  refine z_iand hX dX1_isDeposited_7 ?_
  refine z_iconst (v := 1) hX dX1_isDeposited_8 (by decide) ?_
  refine z_icmp_ne (tgt := 16) hX dX1_isDeposited_9 (by decide) ?_ ?_
  · refine z_iconst (v := 0) hX dX1_isDeposited_16 (by decide) ?_
    exact z_zret hX dX1_isDeposited_17 rfl
  · refine z_iconst (v := 1) hX dX1_isDeposited_12 (by decide) ?_
    refine z_goto (tgt := 17) hX dX1_isDeposited_13 (by decide) ?_
    exact z_zret hX dX1_isDeposited_17 rfl

abbrev rm_X1_blushOf : Room := { frames := 0, cells := 0, slots := 0, locals := 0 }
theorem in_X1_blushOf_X1 : ∀ w ∈ wsX10, w ∈ wsX1_blushOf := fun w h => List.mem_cons_of_mem _ (List.mem_append_right _ h)
theorem in_X1_blushOf_X5 : ∀ w ∈ wsX50, w ∈ wsX1_blushOf := fun w h => List.mem_cons_of_mem _ (List.mem_append_left _ (List.mem_append_right _ h))
theorem lk_X1_blushOf_f52 : Cond.fieldLink RX1 52 (TX5 3).1 (TX5 3).2.1 (TX5 3).2.2.1 ∈ wsX1_blushOf := by decide +kernel
theorem lk_X1_blushOf_f24 : Cond.fieldLink RX1 24 (TX1 5).1 (TX1 5).2.1 (TX1 5).2.2.1 ∈ wsX1_blushOf := by decide +kernel
theorem lk_X1_blushOf_f9 : Cond.fieldLink RX1 9 (TX1 1).1 (TX1 1).2.1 (TX1 1).2.2.1 ∈ wsX1_blushOf := by decide +kernel
theorem lk_X1_blushOf_f57 : Cond.fieldLink RX1 57 (TX5 1).1 (TX5 1).2.1 (TX5 1).2.2.1 ∈ wsX1_blushOf := by decide +kernel
set_option maxHeartbeats 4000000 in
set_option maxRecDepth 100000 in
theorem c_X1_blushOf (l : Launch) (V : z_V) (hV : z_ok V) (hs : z_isX V) (b : Nat) (hb : z_Led b) (o1 : Nat) (ho1 : z_Sto o1) (x2 : Int32) (σ : z_St) : z_CtI l V yX1_blushOf wsX1_blushOf rm_X1_blushOf [.ref (z_ad V b), .ref (z_ad V o1), .int x2] σ (f_X1_blushOf b o1 x2 σ) := by
  refine z_startI (lv := [(0, .ref (z_ad V b)), (1, .ref (z_ad V o1)), (2, .int x2)]) hV (by decide) rfl (Nat.le_of_ble_eq_true rfl) rfl ?_
  intro M hM hX
  have hX : z_Cx M V cX1_blushOf 4 (some .int) wsX1_blushOf RX1 := hX
  unfold f_X1_blushOf
  refine z_aload_n hX dX1_blushOf_0 rfl 1 rfl ?_
  refine z_getR (k := 3) hX (z_sto0 hs ho1) rfl rfl in_X1_blushOf_X5 (by decide) lk_X1_blushOf_f52 dX1_blushOf_1 ?_
  refine z_iload_n hX dX1_blushOf_4 rfl 2 rfl ?_
  refine z_iald hX (z_sto3 hs ho1) dX1_blushOf_5 ?_
  refine z_aload_n hX dX1_blushOf_6 rfl 0 rfl ?_
  refine z_getR (k := 5) hX (z_led0 hs hb) rfl rfl in_X1_blushOf_X1 (by decide) lk_X1_blushOf_f24 dX1_blushOf_7 ?_
  refine z_iload_n hX dX1_blushOf_10 rfl 2 rfl ?_
  refine z_iald hX (z_led5 hs hb) dX1_blushOf_11 ?_
  refine z_iadd hX dX1_blushOf_12 ?_
  refine z_top (fun v1 => ?_)
  refine z_istore_n (lv' := [(3, .int v1), (0, .ref (z_ad V b)), (1, .ref (z_ad V o1)), (2, .int x2)]) hX dX1_blushOf_13 rfl (by decide) rfl ?_
  refine z_aload_n hX dX1_blushOf_14 rfl 1 rfl ?_
  refine z_getR (k := 1) hX (z_led0 hs hb) rfl rfl in_X1_blushOf_X1 (by decide) lk_X1_blushOf_f9 dX1_blushOf_15 ?_
  refine z_aload_n hX dX1_blushOf_18 rfl 2 rfl ?_
  refine z_getR (k := 1) hX (z_sto0 hs ho1) rfl rfl in_X1_blushOf_X5 (by decide) lk_X1_blushOf_f57 dX1_blushOf_19 ?_
  refine z_iload_n hX dX1_blushOf_22 rfl 3 rfl ?_
  refine z_iald hX (z_sto1 hs ho1) dX1_blushOf_23 ?_
  refine z_iald hX (z_led1 hs hb) dX1_blushOf_24 ?_
  refine z_case (fun h2 => ?_) (fun h2 => ?_)
  · refine z_look (off := 27) (tgt := 52) hX dX1_blushOf_25 (by decide) (by first | (rw [h2]; done) | (rw [h2]; rfl)) (by decide) ?_
    refine z_iconst (v := 2) hX dX1_blushOf_52 (by decide) ?_
    refine z_iload_n hX dX1_blushOf_53 rfl 0 rfl ?_
    refine z_imul hX dX1_blushOf_54 ?_
    exact z_iret hX dX1_blushOf_55
  · skip
    refine z_case (fun h3 => ?_) (fun h3 => ?_)
    · refine z_look (off := 31) (tgt := 56) hX dX1_blushOf_25 (by decide) (by first | (rw [h3]; done) | (rw [h3]; rfl)) (by decide) ?_
      refine z_iload_n hX dX1_blushOf_56 rfl 0 rfl ?_
      refine z_iconst (v := 2) hX dX1_blushOf_57 (by decide) ?_
      refine z_idivc hX dX1_blushOf_58 (by decide) ?_
      exact z_iret hX dX1_blushOf_59
    · skip
      refine z_look (off := 35) (tgt := 60) hX dX1_blushOf_25 (by decide) (by show Op.lookupswitch.offset [(1, 27), (3, 31)] 35 _ = _; first | (rw [lv_osw h2 (by decide), lv_osw h3 (by decide)]; done) | (rw [lv_osw h2 (by decide), lv_osw h3 (by decide)]; rfl)) (by decide) ?_
      refine z_iload_n hX dX1_blushOf_60 rfl 0 rfl ?_
      exact z_iret hX dX1_blushOf_61

abbrev rm_X1_putInHand : Room := { frames := 1, cells := 0, slots := 0, locals := 24 }
theorem in_X1_putInHand_X1 : ∀ w ∈ wsX10, w ∈ wsX1_putInHand := fun w h => List.mem_cons_of_mem _ (List.mem_append_right _ h)
theorem lk_X1_putInHand_f15 : Cond.fieldLink RX1 15 (TX1 2).1 (TX1 2).2.1 (TX1 2).2.2.1 ∈ wsX1_putInHand := by decide +kernel
theorem lk_X1_putInHand_m60 : Cond.methodLink RX1 60 Lib.Math.min.name ∈ wsX1_putInHand := by decide +kernel
theorem lk_X1_putInHand_mS : Cond.static Lib.Math.min.name ∈ wsX1_putInHand := by decide +kernel
theorem lk_X1_putInHand_mI : Cond.initialized "java/lang/Math" ∈ wsX1_putInHand := by decide +kernel
theorem lk_X1_putInHand_mC : Cond.code Lib.Math.min.name Lib.Math.min.code 2 (some .int) ∈ wsX1_putInHand := by decide +kernel
set_option maxHeartbeats 4000000 in
set_option maxRecDepth 100000 in
theorem c_X1_putInHand (l : Launch) (V : z_V) (hV : z_ok V) (hs : z_isX V) (b : Nat) (hb : z_Led b) (x1 : Int32) (x2 : Int32) (σ : z_St) : z_CtV l V yX1_putInHand wsX1_putInHand rm_X1_putInHand [.ref (z_ad V b), .int x1, .int x2] σ (f_X1_putInHand b x1 x2 σ) := by
  refine z_startV (lv := [(0, .ref (z_ad V b)), (1, .int x1), (2, .int x2)]) hV (by decide) rfl (Nat.le_of_ble_eq_true rfl) rfl ?_
  intro M hM hX
  have hX : z_Cx M V cX1_putInHand 3 none wsX1_putInHand RX1 := hX
  unfold f_X1_putInHand
  refine z_aload_n hX dX1_putInHand_0 rfl 0 rfl ?_
  refine z_getR (k := 2) hX (z_led0 hs hb) rfl rfl in_X1_putInHand_X1 (by decide) lk_X1_putInHand_f15 dX1_putInHand_1 ?_
  refine z_iload_n hX dX1_putInHand_4 rfl 1 rfl ?_
  refine z_sipush (v := 999) hX dX1_putInHand_5 (by decide) ?_
  refine z_aload_n hX dX1_putInHand_8 rfl 0 rfl ?_
  refine z_getR (k := 2) hX (z_led0 hs hb) rfl rfl in_X1_putInHand_X1 (by decide) lk_X1_putInHand_f15 dX1_putInHand_9 ?_
  refine z_iload_n hX dX1_putInHand_12 rfl 1 rfl ?_
  refine z_iald hX (z_led2 hs hb) dX1_putInHand_13 ?_
  refine z_iload_n hX dX1_putInHand_14 rfl 2 rfl ?_
  refine z_iadd hX dX1_putInHand_15 ?_
  refine z_mmin hX lk_X1_putInHand_m60 lk_X1_putInHand_mS lk_X1_putInHand_mI lk_X1_putInHand_mC (by decide) (Nat.le_of_ble_eq_true rfl) dX1_putInHand_16 ?_
  refine z_iast hX (z_led2 hs hb) dX1_putInHand_19 (z_bs fun s1 => ?_)
  exact z_vret hX dX1_putInHand_20

abbrev rm_X1_putAtBank : Room := { frames := 1, cells := 0, slots := 0, locals := 24 }
theorem in_X1_putAtBank_X1 : ∀ w ∈ wsX10, w ∈ wsX1_putAtBank := fun w h => List.mem_cons_of_mem _ (List.mem_append_right _ h)
theorem lk_X1_putAtBank_f18 : Cond.fieldLink RX1 18 (TX1 3).1 (TX1 3).2.1 (TX1 3).2.2.1 ∈ wsX1_putAtBank := by decide +kernel
theorem lk_X1_putAtBank_m60 : Cond.methodLink RX1 60 Lib.Math.min.name ∈ wsX1_putAtBank := by decide +kernel
theorem lk_X1_putAtBank_mS : Cond.static Lib.Math.min.name ∈ wsX1_putAtBank := by decide +kernel
theorem lk_X1_putAtBank_mI : Cond.initialized "java/lang/Math" ∈ wsX1_putAtBank := by decide +kernel
theorem lk_X1_putAtBank_mC : Cond.code Lib.Math.min.name Lib.Math.min.code 2 (some .int) ∈ wsX1_putAtBank := by decide +kernel
set_option maxHeartbeats 4000000 in
set_option maxRecDepth 100000 in
theorem c_X1_putAtBank (l : Launch) (V : z_V) (hV : z_ok V) (hs : z_isX V) (b : Nat) (hb : z_Led b) (x1 : Int32) (x2 : Int32) (σ : z_St) : z_CtV l V yX1_putAtBank wsX1_putAtBank rm_X1_putAtBank [.ref (z_ad V b), .int x1, .int x2] σ (f_X1_putAtBank b x1 x2 σ) := by
  refine z_startV (lv := [(0, .ref (z_ad V b)), (1, .int x1), (2, .int x2)]) hV (by decide) rfl (Nat.le_of_ble_eq_true rfl) rfl ?_
  intro M hM hX
  have hX : z_Cx M V cX1_putAtBank 3 none wsX1_putAtBank RX1 := hX
  unfold f_X1_putAtBank
  refine z_aload_n hX dX1_putAtBank_0 rfl 0 rfl ?_
  refine z_getR (k := 3) hX (z_led0 hs hb) rfl rfl in_X1_putAtBank_X1 (by decide) lk_X1_putAtBank_f18 dX1_putAtBank_1 ?_
  refine z_iload_n hX dX1_putAtBank_4 rfl 1 rfl ?_
  refine z_sipush (v := 999) hX dX1_putAtBank_5 (by decide) ?_
  refine z_aload_n hX dX1_putAtBank_8 rfl 0 rfl ?_
  refine z_getR (k := 3) hX (z_led0 hs hb) rfl rfl in_X1_putAtBank_X1 (by decide) lk_X1_putAtBank_f18 dX1_putAtBank_9 ?_
  refine z_iload_n hX dX1_putAtBank_12 rfl 1 rfl ?_
  refine z_iald hX (z_led3 hs hb) dX1_putAtBank_13 ?_
  refine z_iload_n hX dX1_putAtBank_14 rfl 2 rfl ?_
  refine z_iadd hX dX1_putAtBank_15 ?_
  refine z_mmin hX lk_X1_putAtBank_m60 lk_X1_putAtBank_mS lk_X1_putAtBank_mI lk_X1_putAtBank_mC (by decide) (Nat.le_of_ble_eq_true rfl) dX1_putAtBank_16 ?_
  refine z_iast hX (z_led3 hs hb) dX1_putAtBank_19 (z_bs fun s1 => ?_)
  exact z_vret hX dX1_putAtBank_20

abbrev rm_X6_isWithin : Room := { frames := 0, cells := 0, slots := 0, locals := 0 }
set_option maxHeartbeats 4000000 in
set_option maxRecDepth 100000 in
theorem c_X6_isWithin (l : Launch) (V : z_V) (hV : z_ok V) (hs : z_isX V) (x0 : Int32) (x1 : Int32) (σ : z_St) : z_CtI l V yX6_isWithin wsX6_isWithin rm_X6_isWithin [.int x0, .int x1] σ (f_X6_isWithin x0 x1 σ) := by
  refine z_startI (lv := [(0, .int x0), (1, .int x1)]) hV (by decide) rfl (Nat.le_of_ble_eq_true rfl) rfl ?_
  intro M hM hX
  have hX : z_Cx M V cX6_isWithin 2 (some .boolean) wsX6_isWithin RX6 := hX
  unfold f_X6_isWithin
  refine z_iload_n hX dX6_isWithin_0 rfl 0 rfl ?_
  refine z_if_lt (tgt := 13) hX dX6_isWithin_1 (by decide) ?_ ?_
  · refine z_iconst (v := 0) hX dX6_isWithin_13 (by decide) ?_
    exact z_zret hX dX6_isWithin_14 rfl
  · refine z_iload_n hX dX6_isWithin_4 rfl 0 rfl ?_
    refine z_iload_n hX dX6_isWithin_5 rfl 1 rfl ?_
    refine z_icmp_gt (tgt := 13) hX dX6_isWithin_6 (by decide) ?_ ?_
    · refine z_iconst (v := 0) hX dX6_isWithin_13 (by decide) ?_
      exact z_zret hX dX6_isWithin_14 rfl
    · refine z_iconst (v := 1) hX dX6_isWithin_9 (by decide) ?_
      refine z_goto (tgt := 14) hX dX6_isWithin_10 (by decide) ?_
      exact z_zret hX dX6_isWithin_14 rfl

abbrev rm_X1_takeOut : Room := { frames := 1, cells := 0, slots := 0, locals := 21 }
theorem in_X1_takeOut_X1 : ∀ w ∈ wsX10, w ∈ wsX1_takeOut := fun w h => List.mem_cons_of_mem _ (List.mem_append_right _ h)
theorem lk_X1_takeOut_f34 : Cond.fieldLink RX1 34 (TX1 0).1 (TX1 0).2.1 (TX1 0).2.2.1 ∈ wsX1_takeOut := by decide +kernel
theorem lk_X1_takeOut_nI66 : Cond.initialized yX6_isWithin.cls ∈ wsX1_takeOut := by decide +kernel
theorem lk_X1_takeOut_nS66 : Cond.static yX6_isWithin ∈ wsX1_takeOut := by decide +kernel
theorem lk_X1_takeOut_f18 : Cond.fieldLink RX1 18 (TX1 3).1 (TX1 3).2.1 (TX1 3).2.2.1 ∈ wsX1_takeOut := by decide +kernel
theorem lk_X1_takeOut_f31 : Cond.fieldLink RX1 31 (TX1 8).1 (TX1 8).2.1 (TX1 8).2.2.1 ∈ wsX1_takeOut := by decide +kernel
theorem lk_X1_takeOut_f15 : Cond.fieldLink RX1 15 (TX1 2).1 (TX1 2).2.1 (TX1 2).2.2.1 ∈ wsX1_takeOut := by decide +kernel
set_option maxHeartbeats 4000000 in
set_option maxRecDepth 100000 in
theorem c_X1_takeOut (l : Launch) (V : z_V) (hV : z_ok V) (hs : z_isX V) (b : Nat) (hb : z_Led b) (x1 : Int32) (x2 : Int32) (σ : z_St) : z_CtI l V yX1_takeOut wsX1_takeOut rm_X1_takeOut [.ref (z_ad V b), .int x1, .int x2] σ (f_X1_takeOut b x1 x2 σ) := by
  refine z_startI (lv := [(0, .ref (z_ad V b)), (1, .int x1), (2, .int x2)]) hV (by decide) rfl (Nat.le_of_ble_eq_true rfl) rfl ?_
  intro M hM hX
  have hX : z_Cx M V cX1_takeOut 3 (some .int) wsX1_takeOut RX1 := hX
  unfold f_X1_takeOut
  refine z_iload_n hX dX1_takeOut_0 rfl 1 rfl ?_
  refine z_if_lt (tgt := 21) hX dX1_takeOut_1 (by decide) ?_ ?_
  · refine z_iconst (v := -1) hX dX1_takeOut_21 (by decide) ?_
    exact z_iret hX dX1_takeOut_22
  · refine z_iload_n hX dX1_takeOut_4 rfl 1 rfl ?_
    refine z_aload_n hX dX1_takeOut_5 rfl 0 rfl ?_
    refine z_getI (k := 0) hX (z_led0 hs hb) rfl rfl in_X1_takeOut_X1 (by decide) lk_X1_takeOut_f34 dX1_takeOut_6 ?_
    refine z_icmp_ge (tgt := 21) hX dX1_takeOut_9 (by decide) ?_ ?_
    · refine z_iconst (v := -1) hX dX1_takeOut_21 (by decide) ?_
      exact z_iret hX dX1_takeOut_22
    · refine z_iload_n hX dX1_takeOut_12 rfl 2 rfl ?_
      refine z_bipush (v := 99) hX dX1_takeOut_13 (by decide) ?_
      refine z_callNI (n := 2) hX (c_X6_isWithin M.2.1 V hX.2.2.2.2.2 hs x2 (99 : Int32) σ) gX1_takeOut_X6_isWithin_n66 rfl (z_nest_X1_takeOut_66 hs hX) lk_X1_takeOut_nI66 lk_X1_takeOut_nS66 (by decide +kernel) ⟨by decide, by decide⟩ rfl rfl rfl rfl (Nat.le_of_ble_eq_true rfl) dX1_takeOut_15 (fun r1 _ => ?_)
      refine z_if_ne (tgt := 23) hX dX1_takeOut_18 (by decide) ?_ ?_
      · refine z_aload_n hX dX1_takeOut_23 rfl 0 rfl ?_
        refine z_getR (k := 3) hX (z_led0 hs hb) rfl rfl in_X1_takeOut_X1 (by decide) lk_X1_takeOut_f18 dX1_takeOut_24 ?_
        refine z_iload_n hX dX1_takeOut_27 rfl 1 rfl ?_
        refine z_iald hX (z_led3 hs hb) dX1_takeOut_28 ?_
        refine z_iload_n hX dX1_takeOut_29 rfl 2 rfl ?_
        refine z_icmp_lt (tgt := 41) hX dX1_takeOut_30 (by decide) ?_ ?_
        · refine z_bipush (v := -2) hX dX1_takeOut_41 (by decide) ?_
          exact z_iret hX dX1_takeOut_43
        · refine z_aload_n hX dX1_takeOut_33 rfl 0 rfl ?_
          refine z_getI (k := 8) hX (z_led0 hs hb) rfl rfl in_X1_takeOut_X1 (by decide) lk_X1_takeOut_f31 dX1_takeOut_34 ?_
          refine z_iload_n hX dX1_takeOut_37 rfl 2 rfl ?_
          refine z_icmp_ge (tgt := 44) hX dX1_takeOut_38 (by decide) ?_ ?_
          · refine z_aload_n hX dX1_takeOut_44 rfl 0 rfl ?_
            refine z_getR (k := 2) hX (z_led0 hs hb) rfl rfl in_X1_takeOut_X1 (by decide) lk_X1_takeOut_f15 dX1_takeOut_45 ?_
            refine z_iload_n hX dX1_takeOut_48 rfl 1 rfl ?_
            refine z_iald hX (z_led2 hs hb) dX1_takeOut_49 ?_
            refine z_iload_n hX dX1_takeOut_50 rfl 2 rfl ?_
            refine z_iadd hX dX1_takeOut_51 ?_
            refine z_sipush (v := 999) hX dX1_takeOut_52 (by decide) ?_
            refine z_icmp_le (tgt := 61) hX dX1_takeOut_55 (by decide) ?_ ?_
            · refine z_aload_n hX dX1_takeOut_61 rfl 0 rfl ?_
              refine z_getR (k := 3) hX (z_led0 hs hb) rfl rfl in_X1_takeOut_X1 (by decide) lk_X1_takeOut_f18 dX1_takeOut_62 ?_
              refine z_iload_n hX dX1_takeOut_65 rfl 1 rfl ?_
              refine z_dup2 hX dX1_takeOut_66 rfl rfl ?_
              refine z_iald hX (z_led3 hs hb) dX1_takeOut_67 ?_
              refine z_iload_n hX dX1_takeOut_68 rfl 2 rfl ?_
              refine z_isub hX dX1_takeOut_69 ?_
              refine z_iast hX (z_led3 hs hb) dX1_takeOut_70 (z_bs fun s2 => ?_)
              refine z_aload_n hX dX1_takeOut_71 rfl 0 rfl ?_
              refine z_dup hX dX1_takeOut_72 rfl ?_
              refine z_getI (k := 8) hX (z_led0 hs hb) rfl rfl in_X1_takeOut_X1 (by decide) lk_X1_takeOut_f31 dX1_takeOut_73 ?_
              refine z_iload_n hX dX1_takeOut_76 rfl 2 rfl ?_
              refine z_isub hX dX1_takeOut_77 ?_
              refine z_put1 (k := 8) hX (z_led0 hs hb) rfl rfl in_X1_takeOut_X1 (by decide) lk_X1_takeOut_f31 tyX1 tyX1_ok nmX1 rfl rfl rfl dX1_takeOut_78 (z_bs fun s3 => ?_)
              refine z_aload_n hX dX1_takeOut_81 rfl 0 rfl ?_
              refine z_getR (k := 2) hX (z_led0 hs hb) rfl rfl in_X1_takeOut_X1 (by decide) lk_X1_takeOut_f15 dX1_takeOut_82 ?_
              refine z_iload_n hX dX1_takeOut_85 rfl 1 rfl ?_
              refine z_dup2 hX dX1_takeOut_86 rfl rfl ?_
              refine z_iald hX (z_led2 hs hb) dX1_takeOut_87 ?_
              refine z_iload_n hX dX1_takeOut_88 rfl 2 rfl ?_
              refine z_iadd hX dX1_takeOut_89 ?_
              refine z_iast hX (z_led2 hs hb) dX1_takeOut_90 (z_bs fun s4 => ?_)
              refine z_aload_n hX dX1_takeOut_91 rfl 0 rfl ?_
              refine z_getI (k := 8) hX (z_led0 hs hb) rfl rfl in_X1_takeOut_X1 (by decide) lk_X1_takeOut_f31 dX1_takeOut_92 ?_
              exact z_iret hX dX1_takeOut_95
            · refine z_bipush (v := -3) hX dX1_takeOut_58 (by decide) ?_
              exact z_iret hX dX1_takeOut_60
          · refine z_bipush (v := -2) hX dX1_takeOut_41 (by decide) ?_
            exact z_iret hX dX1_takeOut_43
      · refine z_iconst (v := -1) hX dX1_takeOut_21 (by decide) ?_
        exact z_iret hX dX1_takeOut_22

abbrev rm_X1_spreadRumour : Room := { frames := 0, cells := 0, slots := 0, locals := 0 }
theorem in_X1_spreadRumour_X1 : ∀ w ∈ wsX10, w ∈ wsX1_spreadRumour := fun w h => List.mem_cons_of_mem _ (List.mem_append_right _ h)
theorem in_X1_spreadRumour_X5 : ∀ w ∈ wsX50, w ∈ wsX1_spreadRumour := fun w h => List.mem_cons_of_mem _ (List.mem_append_left _ (List.mem_append_right _ h))
theorem lk_X1_spreadRumour_f70 : Cond.fieldLink RX1 70 (TX5 0).1 (TX5 0).2.1 (TX5 0).2.2.1 ∈ wsX1_spreadRumour := by decide +kernel
theorem lk_X1_spreadRumour_f57 : Cond.fieldLink RX1 57 (TX5 1).1 (TX5 1).2.1 (TX5 1).2.2.1 ∈ wsX1_spreadRumour := by decide +kernel
theorem lk_X1_spreadRumour_f73 : Cond.fieldLink RX1 73 (TX5 2).1 (TX5 2).2.1 (TX5 2).2.2.1 ∈ wsX1_spreadRumour := by decide +kernel
theorem lk_X1_spreadRumour_f46 : Cond.fieldLink RX1 46 (TX1 9).1 (TX1 9).2.1 (TX1 9).2.2.1 ∈ wsX1_spreadRumour := by decide +kernel
theorem lk_X1_spreadRumour_f24 : Cond.fieldLink RX1 24 (TX1 5).1 (TX1 5).2.1 (TX1 5).2.2.1 ∈ wsX1_spreadRumour := by decide +kernel
set_option maxHeartbeats 4000000 in
set_option maxRecDepth 100000 in
theorem w_X1_spreadRumour_5 (M : z_M) (V : z_V) (hs : z_isX V) (hX : z_Cx M V cX1_spreadRumour 5 (some .int) wsX1_spreadRumour RX1) (b : Nat) (hb : z_Led b) (o1 : Nat) (ho1 : z_Sto o1) : ∀ (n : Nat) (x2 : Int32) (x3 : Int32) (x4 : Int32) (σ : z_St), z_Go M rm_X1_spreadRumour 5 V (z_QI V) σ 5 [(0, .ref (z_ad V b)), (1, .ref (z_ad V o1)), (2, .int x2), (3, .int x3), (4, .int x4)] [] (f_X1_spreadRumour_5 b o1 n x2 x3 x4 σ) := by
  intro n
  induction n with
  | zero => intro x2 x3 x4 σ; exact z_none
  | succ n ih =>
    intro x2 x3 x4 σ
    rw [f_X1_spreadRumour_5]
    refine z_iload hX dX1_spreadRumour_5 4 rfl ?_
    refine z_aload_n hX dX1_spreadRumour_7 rfl 1 rfl ?_
    refine z_getI (k := 0) hX (z_sto0 hs ho1) rfl rfl in_X1_spreadRumour_X5 (by decide) lk_X1_spreadRumour_f70 dX1_spreadRumour_8 ?_
    refine z_icmp_ge (tgt := 69) hX dX1_spreadRumour_11 (by decide) ?_ ?_
    · refine z_iload_n hX dX1_spreadRumour_69 rfl 3 rfl ?_
      exact z_iret hX dX1_spreadRumour_70
    · refine z_aload_n hX dX1_spreadRumour_14 rfl 1 rfl ?_
      refine z_getR (k := 1) hX (z_sto0 hs ho1) rfl rfl in_X1_spreadRumour_X5 (by decide) lk_X1_spreadRumour_f57 dX1_spreadRumour_15 ?_
      refine z_iload hX dX1_spreadRumour_18 4 rfl ?_
      refine z_iald hX (z_sto1 hs ho1) dX1_spreadRumour_20 ?_
      refine z_iload_n hX dX1_spreadRumour_21 rfl 2 rfl ?_
      refine z_icmp_ne (tgt := 63) hX dX1_spreadRumour_22 (by decide) ?_ ?_
      · refine z_iinc (v := (x4 + 1)) (lv' := [(4, .int (x4 + 1)), (0, .ref (z_ad V b)), (1, .ref (z_ad V o1)), (2, .int x2), (3, .int x3)]) hX dX1_spreadRumour_63 4 rfl rfl (by decide) rfl ?_
        refine z_goto (tgt := 5) hX dX1_spreadRumour_66 (by decide) ?_
        refine z_sub [1, 2, 3, 4, 0] rfl ?_
        exact ih x2 x3 (x4 + 1) σ
      · refine z_aload_n hX dX1_spreadRumour_25 rfl 1 rfl ?_
        refine z_getR (k := 2) hX (z_sto0 hs ho1) rfl rfl in_X1_spreadRumour_X5 (by decide) lk_X1_spreadRumour_f73 dX1_spreadRumour_26 ?_
        refine z_iload hX dX1_spreadRumour_29 4 rfl ?_
        refine z_iald hX (z_sto2 hs ho1) dX1_spreadRumour_31 ?_
        refine z_aload_n hX dX1_spreadRumour_32 rfl 0 rfl ?_
        refine z_getI (k := 9) hX (z_led0 hs hb) rfl rfl in_X1_spreadRumour_X1 (by decide) lk_X1_spreadRumour_f46 dX1_spreadRumour_33 ?_
        refine z_icmp_lt (tgt := 63) hX dX1_spreadRumour_36 (by decide) ?_ ?_
        · refine z_iinc (v := (x4 + 1)) (lv' := [(4, .int (x4 + 1)), (0, .ref (z_ad V b)), (1, .ref (z_ad V o1)), (2, .int x2), (3, .int x3)]) hX dX1_spreadRumour_63 4 rfl rfl (by decide) rfl ?_
          refine z_goto (tgt := 5) hX dX1_spreadRumour_66 (by decide) ?_
          refine z_sub [1, 2, 3, 4, 0] rfl ?_
          exact ih x2 x3 (x4 + 1) σ
        · refine z_aload_n hX dX1_spreadRumour_39 rfl 0 rfl ?_
          refine z_getR (k := 5) hX (z_led0 hs hb) rfl rfl in_X1_spreadRumour_X1 (by decide) lk_X1_spreadRumour_f24 dX1_spreadRumour_40 ?_
          refine z_iload hX dX1_spreadRumour_43 4 rfl ?_
          refine z_iald hX (z_led5 hs hb) dX1_spreadRumour_45 ?_
          refine z_bipush (v := 9) hX dX1_spreadRumour_46 (by decide) ?_
          refine z_icmp_eq (tgt := 63) hX dX1_spreadRumour_48 (by decide) ?_ ?_
          · refine z_iinc (v := (x4 + 1)) (lv' := [(4, .int (x4 + 1)), (0, .ref (z_ad V b)), (1, .ref (z_ad V o1)), (2, .int x2), (3, .int x3)]) hX dX1_spreadRumour_63 4 rfl rfl (by decide) rfl ?_
            refine z_goto (tgt := 5) hX dX1_spreadRumour_66 (by decide) ?_
            refine z_sub [1, 2, 3, 4, 0] rfl ?_
            exact ih x2 x3 (x4 + 1) σ
          · refine z_aload_n hX dX1_spreadRumour_51 rfl 0 rfl ?_
            refine z_getR (k := 5) hX (z_led0 hs hb) rfl rfl in_X1_spreadRumour_X1 (by decide) lk_X1_spreadRumour_f24 dX1_spreadRumour_52 ?_
            refine z_iload hX dX1_spreadRumour_55 4 rfl ?_
            refine z_bipush (v := 9) hX dX1_spreadRumour_57 (by decide) ?_
            refine z_iast hX (z_led5 hs hb) dX1_spreadRumour_59 (z_bs fun s1 => ?_)
            refine z_iinc (v := (x3 + 1)) (lv' := [(3, .int (x3 + 1)), (0, .ref (z_ad V b)), (1, .ref (z_ad V o1)), (2, .int x2), (4, .int x4)]) hX dX1_spreadRumour_60 3 rfl rfl (by decide) rfl ?_
            refine z_iinc (v := (x4 + 1)) (lv' := [(4, .int (x4 + 1)), (3, .int (x3 + 1)), (0, .ref (z_ad V b)), (1, .ref (z_ad V o1)), (2, .int x2)]) hX dX1_spreadRumour_63 4 rfl rfl (by decide) rfl ?_
            refine z_goto (tgt := 5) hX dX1_spreadRumour_66 (by decide) ?_
            refine z_sub [2, 3, 4, 1, 0] rfl ?_
            exact ih x2 (x3 + 1) (x4 + 1) s1
set_option maxHeartbeats 4000000 in
set_option maxRecDepth 100000 in
theorem c_X1_spreadRumour (l : Launch) (V : z_V) (hV : z_ok V) (hs : z_isX V) (b : Nat) (hb : z_Led b) (o1 : Nat) (ho1 : z_Sto o1) (x2 : Int32) (σ : z_St) : z_CtI l V yX1_spreadRumour wsX1_spreadRumour rm_X1_spreadRumour [.ref (z_ad V b), .ref (z_ad V o1), .int x2] σ (f_X1_spreadRumour b o1 x2 σ) := by
  refine z_startI (lv := [(0, .ref (z_ad V b)), (1, .ref (z_ad V o1)), (2, .int x2)]) hV (by decide) rfl (Nat.le_of_ble_eq_true rfl) rfl ?_
  intro M hM hX
  have hX : z_Cx M V cX1_spreadRumour 5 (some .int) wsX1_spreadRumour RX1 := hX
  unfold f_X1_spreadRumour
  refine z_iconst (v := 0) hX dX1_spreadRumour_0 (by decide) ?_
  refine z_istore_n (lv' := [(3, .int (0 : Int32)), (0, .ref (z_ad V b)), (1, .ref (z_ad V o1)), (2, .int x2)]) hX dX1_spreadRumour_1 rfl (by decide) rfl ?_
  refine z_iconst (v := 0) hX dX1_spreadRumour_2 (by decide) ?_
  refine z_istore (lv' := [(4, .int (0 : Int32)), (3, .int (0 : Int32)), (0, .ref (z_ad V b)), (1, .ref (z_ad V o1)), (2, .int x2)]) hX dX1_spreadRumour_3 (by decide) rfl ?_
  refine z_sub [2, 3, 4, 1, 0] rfl ?_
  exact w_X1_spreadRumour_5 M V hs hX b hb o1 ho1 200 x2 (0 : Int32) (0 : Int32) σ

abbrev rm_X1_befall : Room := { frames := 2, cells := 0, slots := 0, locals := 46 }
theorem in_X1_befall_X5 : ∀ w ∈ wsX50, w ∈ wsX1_befall := fun w h => List.mem_cons_of_mem _ (List.mem_append_left _ (List.mem_append_right _ h))
theorem lk_X1_befall_f57 : Cond.fieldLink RX1 57 (TX5 1).1 (TX5 1).2.1 (TX5 1).2.2.1 ∈ wsX1_befall := by decide +kernel
set_option maxHeartbeats 4000000 in
set_option maxRecDepth 100000 in
theorem c_X1_befall (l : Launch) (V : z_V) (hV : z_ok V) (hs : z_isX V) (b : Nat) (hb : z_Led b) (o1 : Nat) (ho1 : z_Sto o1) (x2 : Int32) (σ : z_St) : z_CtV l V yX1_befall wsX1_befall rm_X1_befall [.ref (z_ad V b), .ref (z_ad V o1), .int x2] σ (f_X1_befall b o1 x2 σ) := by
  refine z_startV (lv := [(0, .ref (z_ad V b)), (1, .ref (z_ad V o1)), (2, .int x2)]) hV (by decide) rfl (Nat.le_of_ble_eq_true rfl) rfl ?_
  intro M hM hX
  have hX : z_Cx M V cX1_befall 4 none wsX1_befall RX1 := hX
  unfold f_X1_befall
  refine z_aload_n hX dX1_befall_0 rfl 0 rfl ?_
  refine z_aload_n hX dX1_befall_1 rfl 1 rfl ?_
  refine z_iload_n hX dX1_befall_2 rfl 2 rfl ?_
  refine z_callVI (n := 2) hX (c_X1_blushOf M.2.1 V hX.2.2.2.2.2 hs b hb o1 ho1 x2 σ) gX1_befall_X1_blushOf rfl (by decide +kernel) ⟨by decide, by decide⟩ rfl rfl (z_led0 hs hb) rfl rfl rfl rfl (Nat.le_of_ble_eq_true rfl) dX1_befall_3 (fun r1 _ => ?_)
  refine z_istore_n (lv' := [(3, .int r1.1), (0, .ref (z_ad V b)), (1, .ref (z_ad V o1)), (2, .int x2)]) hX dX1_befall_6 rfl (by decide) rfl ?_
  refine z_aload_n hX dX1_befall_7 rfl 1 rfl ?_
  refine z_iload_n hX dX1_befall_8 rfl 3 rfl ?_
  refine z_callVI (n := 1) hX (c_X1_isDeposited M.2.1 V hX.2.2.2.2.2 hs b hb x2 r1.2) gX1_befall_X1_isDeposited rfl (by decide +kernel) ⟨by decide, by decide⟩ rfl rfl (z_led0 hs hb) rfl rfl rfl rfl (Nat.le_of_ble_eq_true rfl) dX1_befall_9 (fun r2 _ => ?_)
  refine z_if_eq (tgt := 29) hX dX1_befall_12 (by decide) ?_ ?_
  · refine z_aload_n hX dX1_befall_29 rfl 1 rfl ?_
    refine z_aload_n hX dX1_befall_30 rfl 2 rfl ?_
    refine z_getR (k := 1) hX (z_sto0 hs ho1) rfl rfl in_X1_befall_X5 (by decide) lk_X1_befall_f57 dX1_befall_31 ?_
    refine z_iload_n hX dX1_befall_34 rfl 3 rfl ?_
    refine z_iald hX (z_sto1 hs ho1) dX1_befall_35 ?_
    refine z_iload_n hX dX1_befall_36 rfl 0 rfl ?_
    refine z_callVV (n := 2) hX (c_X1_putInHand M.2.1 V hX.2.2.2.2.2 hs b hb (r2.2 (o1 + 1) x2.toNatClampNeg) r1.1 r2.2) gX1_befall_X1_putInHand rfl (by decide +kernel) ⟨by decide, by decide⟩ rfl rfl (z_led0 hs hb) rfl rfl rfl rfl (Nat.le_of_ble_eq_true rfl) dX1_befall_37 (fun r3 _ => ?_)
    exact z_vret hX dX1_befall_40
  · refine z_aload_n hX dX1_befall_15 rfl 1 rfl ?_
    refine z_aload_n hX dX1_befall_16 rfl 2 rfl ?_
    refine z_getR (k := 1) hX (z_sto0 hs ho1) rfl rfl in_X1_befall_X5 (by decide) lk_X1_befall_f57 dX1_befall_17 ?_
    refine z_iload_n hX dX1_befall_20 rfl 3 rfl ?_
    refine z_iald hX (z_sto1 hs ho1) dX1_befall_21 ?_
    refine z_iload_n hX dX1_befall_22 rfl 0 rfl ?_
    refine z_callVV (n := 2) hX (c_X1_putAtBank M.2.1 V hX.2.2.2.2.2 hs b hb (r2.2 (o1 + 1) x2.toNatClampNeg) r1.1 r2.2) gX1_befall_X1_putAtBank rfl (by decide +kernel) ⟨by decide, by decide⟩ rfl rfl (z_led0 hs hb) rfl rfl rfl rfl (Nat.le_of_ble_eq_true rfl) dX1_befall_23 (fun r4 _ => ?_)
    refine z_goto (tgt := 40) hX dX1_befall_26 (by decide) ?_
    exact z_vret hX dX1_befall_40

abbrev rm_X1_meets : Room := { frames := 1, cells := 0, slots := 0, locals := 24 }
theorem in_X1_meets_X1 : ∀ w ∈ wsX10, w ∈ wsX1_meets := fun w h => List.mem_cons_of_mem _ (List.mem_append_right _ h)
theorem lk_X1_meets_f15 : Cond.fieldLink RX1 15 (TX1 2).1 (TX1 2).2.1 (TX1 2).2.2.1 ∈ wsX1_meets := by decide +kernel
theorem lk_X1_meets_m60 : Cond.methodLink RX1 60 Lib.Math.min.name ∈ wsX1_meets := by decide +kernel
theorem lk_X1_meets_mS : Cond.static Lib.Math.min.name ∈ wsX1_meets := by decide +kernel
theorem lk_X1_meets_mI : Cond.initialized "java/lang/Math" ∈ wsX1_meets := by decide +kernel
theorem lk_X1_meets_mC : Cond.code Lib.Math.min.name Lib.Math.min.code 2 (some .int) ∈ wsX1_meets := by decide +kernel
theorem lk_X1_meets_f18 : Cond.fieldLink RX1 18 (TX1 3).1 (TX1 3).2.1 (TX1 3).2.2.1 ∈ wsX1_meets := by decide +kernel
theorem lk_X1_meets_f31 : Cond.fieldLink RX1 31 (TX1 8).1 (TX1 8).2.1 (TX1 8).2.2.1 ∈ wsX1_meets := by decide +kernel
theorem lk_X1_meets_f9 : Cond.fieldLink RX1 9 (TX1 1).1 (TX1 1).2.1 (TX1 1).2.2.1 ∈ wsX1_meets := by decide +kernel
theorem lk_X1_meets_f21 : Cond.fieldLink RX1 21 (TX1 4).1 (TX1 4).2.1 (TX1 4).2.2.1 ∈ wsX1_meets := by decide +kernel
theorem lk_X1_meets_f49 : Cond.fieldLink RX1 49 (TX1 10).1 (TX1 10).2.1 (TX1 10).2.2.1 ∈ wsX1_meets := by decide +kernel
set_option maxHeartbeats 4000000 in
set_option maxRecDepth 100000 in
theorem w_X1_meets_78 (M : z_M) (V : z_V) (hs : z_isX V) (hX : z_Cx M V cX1_meets 7 (some .boolean) wsX1_meets RX1) (b : Nat) (hb : z_Led b) (x1 : Int32) (x3 : Int32) (x4 : Int32) (x5 : Int32) (x6 : Int32) (σ : z_St) : z_Go M rm_X1_meets 7 V (z_QI V) σ 78 [(0, .ref (z_ad V b)), (1, .int x1), (3, .int x3), (4, .int x4), (5, .int x5), (6, .int x6)] [] (f_X1_meets_78 b x1 x3 x4 x5 x6 σ) := by
  unfold f_X1_meets_78
  refine z_iload hX dX1_meets_78 5 rfl ?_
  refine z_iload hX dX1_meets_80 4 rfl ?_
  refine z_icmp_ge (tgt := 109) hX dX1_meets_82 (by decide) ?_ ?_
  · refine z_aload_n hX dX1_meets_109 rfl 0 rfl ?_
    refine z_getR (k := 2) hX (z_led0 hs hb) rfl rfl in_X1_meets_X1 (by decide) lk_X1_meets_f15 dX1_meets_110 ?_
    refine z_iload_n hX dX1_meets_113 rfl 1 rfl ?_
    refine z_dup2 hX dX1_meets_114 rfl rfl ?_
    refine z_iald hX (z_led2 hs hb) dX1_meets_115 ?_
    refine z_iload_n hX dX1_meets_116 rfl 2 rfl ?_
    refine z_isub hX dX1_meets_117 ?_
    refine z_iast hX (z_led2 hs hb) dX1_meets_118 (z_bs fun s3 => ?_)
    refine z_aload_n hX dX1_meets_119 rfl 0 rfl ?_
    refine z_getR (k := 3) hX (z_led0 hs hb) rfl rfl in_X1_meets_X1 (by decide) lk_X1_meets_f18 dX1_meets_120 ?_
    refine z_iload_n hX dX1_meets_123 rfl 1 rfl ?_
    refine z_dup2 hX dX1_meets_124 rfl rfl ?_
    refine z_iald hX (z_led3 hs hb) dX1_meets_125 ?_
    refine z_iload hX dX1_meets_126 3 rfl ?_
    refine z_isub hX dX1_meets_128 ?_
    refine z_iast hX (z_led3 hs hb) dX1_meets_129 (z_bs fun s4 => ?_)
    refine z_aload_n hX dX1_meets_130 rfl 0 rfl ?_
    refine z_dup hX dX1_meets_131 rfl ?_
    refine z_getI (k := 8) hX (z_led0 hs hb) rfl rfl in_X1_meets_X1 (by decide) lk_X1_meets_f31 dX1_meets_132 ?_
    refine z_iload hX dX1_meets_135 3 rfl ?_
    refine z_iload hX dX1_meets_137 5 rfl ?_
    refine z_iadd hX dX1_meets_139 ?_
    refine z_isub hX dX1_meets_140 ?_
    refine z_put1 (k := 8) hX (z_led0 hs hb) rfl rfl in_X1_meets_X1 (by decide) lk_X1_meets_f31 tyX1 tyX1_ok nmX1 rfl rfl rfl dX1_meets_141 (z_bs fun s5 => ?_)
    refine z_iconst (v := 1) hX dX1_meets_144 (by decide) ?_
    exact z_zret hX dX1_meets_145 rfl
  · refine z_aload_n hX dX1_meets_85 rfl 0 rfl ?_
    refine z_getR (k := 4) hX (z_led0 hs hb) rfl rfl in_X1_meets_X1 (by decide) lk_X1_meets_f21 dX1_meets_86 ?_
    refine z_iload_n hX dX1_meets_89 rfl 1 rfl ?_
    refine z_dup2 hX dX1_meets_90 rfl rfl ?_
    refine z_iald hX (z_led4 hs hb) dX1_meets_91 ?_
    refine z_iconst (v := 1) hX dX1_meets_92 (by decide) ?_
    refine z_iadd hX dX1_meets_93 ?_
    refine z_iast hX (z_led4 hs hb) dX1_meets_94 (z_bs fun s6 => ?_)
    refine z_aload_n hX dX1_meets_95 rfl 0 rfl ?_
    refine z_dup hX dX1_meets_96 rfl ?_
    refine z_getI (k := 10) hX (z_led0 hs hb) rfl rfl in_X1_meets_X1 (by decide) lk_X1_meets_f49 dX1_meets_97 ?_
    refine z_iconst (v := 1) hX dX1_meets_100 (by decide) ?_
    refine z_iload_n hX dX1_meets_101 rfl 1 rfl ?_
    refine z_ishl hX dX1_meets_102 ?_
    refine z_ior hX dX1_meets_103 ?_
    refine z_put1 (k := 10) hX (z_led0 hs hb) rfl rfl in_X1_meets_X1 (by decide) lk_X1_meets_f49 tyX1 tyX1_ok nmX1 rfl rfl rfl dX1_meets_104 (z_bs fun s7 => ?_)
    refine z_iconst (v := 0) hX dX1_meets_107 (by decide) ?_
    exact z_zret hX dX1_meets_108 rfl
set_option maxHeartbeats 4000000 in
set_option maxRecDepth 100000 in
theorem c_X1_meets (l : Launch) (V : z_V) (hV : z_ok V) (hs : z_isX V) (b : Nat) (hb : z_Led b) (x1 : Int32) (x2 : Int32) (σ : z_St) : z_CtI l V yX1_meets wsX1_meets rm_X1_meets [.ref (z_ad V b), .int x1, .int x2] σ (f_X1_meets b x1 x2 σ) := by
  refine z_startI (lv := [(0, .ref (z_ad V b)), (1, .int x1), (2, .int x2)]) hV (by decide) rfl (Nat.le_of_ble_eq_true rfl) rfl ?_
  intro M hM hX
  have hX : z_Cx M V cX1_meets 7 (some .boolean) wsX1_meets RX1 := hX
  unfold f_X1_meets
  refine z_aload_n hX dX1_meets_0 rfl 0 rfl ?_
  refine z_getR (k := 2) hX (z_led0 hs hb) rfl rfl in_X1_meets_X1 (by decide) lk_X1_meets_f15 dX1_meets_1 ?_
  refine z_iload_n hX dX1_meets_4 rfl 1 rfl ?_
  refine z_iald hX (z_led2 hs hb) dX1_meets_5 ?_
  refine z_iload_n hX dX1_meets_6 rfl 2 rfl ?_
  refine z_mmin hX lk_X1_meets_m60 lk_X1_meets_mS lk_X1_meets_mI lk_X1_meets_mC (by decide) (Nat.le_of_ble_eq_true rfl) dX1_meets_7 ?_
  refine z_top (fun v1 => ?_)
  refine z_istore_n (lv' := [(3, .int v1), (0, .ref (z_ad V b)), (1, .int x1), (2, .int x2)]) hX dX1_meets_10 rfl (by decide) rfl ?_
  refine z_iload_n hX dX1_meets_11 rfl 3 rfl ?_
  refine z_iload_n hX dX1_meets_12 rfl 0 rfl ?_
  refine z_isub hX dX1_meets_13 ?_
  refine z_aload_n hX dX1_meets_14 rfl 1 rfl ?_
  refine z_getR (k := 3) hX (z_led0 hs hb) rfl rfl in_X1_meets_X1 (by decide) lk_X1_meets_f18 dX1_meets_15 ?_
  refine z_iload_n hX dX1_meets_18 rfl 2 rfl ?_
  refine z_iald hX (z_led3 hs hb) dX1_meets_19 ?_
  refine z_aload_n hX dX1_meets_20 rfl 1 rfl ?_
  refine z_getI (k := 8) hX (z_led0 hs hb) rfl rfl in_X1_meets_X1 (by decide) lk_X1_meets_f31 dX1_meets_21 ?_
  refine z_mmin hX lk_X1_meets_m60 lk_X1_meets_mS lk_X1_meets_mI lk_X1_meets_mC (by decide) (Nat.le_of_ble_eq_true rfl) dX1_meets_24 ?_
  refine z_mmin hX lk_X1_meets_m60 lk_X1_meets_mS lk_X1_meets_mI lk_X1_meets_mC (by decide) (Nat.le_of_ble_eq_true rfl) dX1_meets_27 ?_
  refine z_top (fun v2 => ?_)
  refine z_istore (lv' := [(4, .int v2), (3, .int v1), (0, .ref (z_ad V b)), (1, .int x1), (2, .int x2)]) hX dX1_meets_30 (by decide) rfl ?_
  refine z_iload_n hX dX1_meets_32 rfl 4 rfl ?_
  refine z_iload_n hX dX1_meets_33 rfl 1 rfl ?_
  refine z_isub hX dX1_meets_34 ?_
  refine z_iload hX dX1_meets_35 0 rfl ?_
  refine z_isub hX dX1_meets_37 ?_
  refine z_istore (lv' := [(5, .int ((x2 - v1) - v2)), (4, .int v2), (3, .int v1), (0, .ref (z_ad V b)), (1, .int x1), (2, .int x2)]) hX dX1_meets_38 (by decide) rfl ?_
  refine z_iconst (v := 0) hX dX1_meets_40 (by decide) ?_
  refine z_istore (lv' := [(6, .int (0 : Int32)), (5, .int ((x2 - v1) - v2)), (4, .int v2), (3, .int v1), (0, .ref (z_ad V b)), (1, .int x1), (2, .int x2)]) hX dX1_meets_41 (by decide) rfl ?_
  refine z_aload_n hX dX1_meets_43 rfl 4 rfl ?_
  refine z_getR (k := 1) hX (z_led0 hs hb) rfl rfl in_X1_meets_X1 (by decide) lk_X1_meets_f9 dX1_meets_44 ?_
  refine z_iload_n hX dX1_meets_47 rfl 5 rfl ?_
  refine z_iald hX (z_led1 hs hb) dX1_meets_48 ?_
  refine z_iconst (v := 2) hX dX1_meets_49 (by decide) ?_
  refine z_icmp_ne (tgt := 78) hX dX1_meets_50 (by decide) ?_ ?_
  · refine z_sub [4, 5, 3, 2, 1, 0] rfl ?_
    exact w_X1_meets_78 M V hs hX b hb x1 v1 v2 ((x2 - v1) - v2) (0 : Int32) σ
  · refine z_aload_n hX dX1_meets_53 rfl 4 rfl ?_
    refine z_getR (k := 3) hX (z_led0 hs hb) rfl rfl in_X1_meets_X1 (by decide) lk_X1_meets_f18 dX1_meets_54 ?_
    refine z_iload_n hX dX1_meets_57 rfl 5 rfl ?_
    refine z_iald hX (z_led3 hs hb) dX1_meets_58 ?_
    refine z_iload hX dX1_meets_59 2 rfl ?_
    refine z_icmp_ne (tgt := 78) hX dX1_meets_61 (by decide) ?_ ?_
    · refine z_sub [4, 5, 3, 2, 1, 0] rfl ?_
      exact w_X1_meets_78 M V hs hX b hb x1 v1 v2 ((x2 - v1) - v2) (0 : Int32) σ
    · refine z_iload hX dX1_meets_64 1 rfl ?_
      refine z_aload_n hX dX1_meets_66 rfl 4 rfl ?_
      refine z_getI (k := 8) hX (z_led0 hs hb) rfl rfl in_X1_meets_X1 (by decide) lk_X1_meets_f31 dX1_meets_67 ?_
      refine z_iload hX dX1_meets_70 2 rfl ?_
      refine z_isub hX dX1_meets_72 ?_
      refine z_mmin hX lk_X1_meets_m60 lk_X1_meets_mS lk_X1_meets_mI lk_X1_meets_mC (by decide) (Nat.le_of_ble_eq_true rfl) dX1_meets_73 ?_
      refine z_top (fun v8 => ?_)
      refine z_istore (lv' := [(6, .int v8), (5, .int ((x2 - v1) - v2)), (4, .int v2), (3, .int v1), (0, .ref (z_ad V b)), (1, .int x1), (2, .int x2)]) hX dX1_meets_76 (by decide) rfl ?_
      refine z_sub [4, 5, 3, 2, 1, 0] rfl ?_
      exact w_X1_meets_78 M V hs hX b hb x1 v1 v2 ((x2 - v1) - v2) v8 σ

abbrev rm_X1_closeWeek : Room := { frames := 2, cells := 0, slots := 0, locals := 46 }
theorem in_X1_closeWeek_X1 : ∀ w ∈ wsX10, w ∈ wsX1_closeWeek := fun w h => List.mem_cons_of_mem _ (List.mem_append_right _ h)
theorem lk_X1_closeWeek_f34 : Cond.fieldLink RX1 34 (TX1 0).1 (TX1 0).2.1 (TX1 0).2.2.1 ∈ wsX1_closeWeek := by decide +kernel
theorem lk_X1_closeWeek_f31 : Cond.fieldLink RX1 31 (TX1 8).1 (TX1 8).2.1 (TX1 8).2.2.1 ∈ wsX1_closeWeek := by decide +kernel
theorem lk_X1_closeWeek_m60 : Cond.methodLink RX1 60 Lib.Math.min.name ∈ wsX1_closeWeek := by decide +kernel
theorem lk_X1_closeWeek_mS : Cond.static Lib.Math.min.name ∈ wsX1_closeWeek := by decide +kernel
theorem lk_X1_closeWeek_mI : Cond.initialized "java/lang/Math" ∈ wsX1_closeWeek := by decide +kernel
theorem lk_X1_closeWeek_mC : Cond.code Lib.Math.min.name Lib.Math.min.code 2 (some .int) ∈ wsX1_closeWeek := by decide +kernel
theorem lk_X1_closeWeek_f46 : Cond.fieldLink RX1 46 (TX1 9).1 (TX1 9).2.1 (TX1 9).2.2.1 ∈ wsX1_closeWeek := by decide +kernel
theorem lk_X1_closeWeek_f15 : Cond.fieldLink RX1 15 (TX1 2).1 (TX1 2).2.1 (TX1 2).2.2.1 ∈ wsX1_closeWeek := by decide +kernel
theorem lk_X1_closeWeek_f18 : Cond.fieldLink RX1 18 (TX1 3).1 (TX1 3).2.1 (TX1 3).2.2.1 ∈ wsX1_closeWeek := by decide +kernel
theorem lk_X1_closeWeek_f27 : Cond.fieldLink RX1 27 (TX1 7).1 (TX1 7).2.1 (TX1 7).2.2.1 ∈ wsX1_closeWeek := by decide +kernel
set_option maxHeartbeats 4000000 in
set_option maxRecDepth 100000 in
theorem w_X1_closeWeek_2 (M : z_M) (V : z_V) (hs : z_isX V) (hX : z_Cx M V cX1_closeWeek 2 none wsX1_closeWeek RX1) (b : Nat) (hb : z_Led b) : ∀ (n : Nat) (x1 : Int32) (σ : z_St), z_Go M rm_X1_closeWeek 2 V (z_QV V) σ 2 [(0, .ref (z_ad V b)), (1, .int x1)] [] (f_X1_closeWeek_2 b n x1 σ) := by
  intro n
  induction n with
  | zero => intro x1 σ; exact z_none
  | succ n ih =>
    intro x1 σ
    rw [f_X1_closeWeek_2]
    refine z_iload_n hX dX1_closeWeek_2 rfl 1 rfl ?_
    refine z_aload_n hX dX1_closeWeek_3 rfl 0 rfl ?_
    refine z_getI (k := 0) hX (z_led0 hs hb) rfl rfl in_X1_closeWeek_X1 (by decide) lk_X1_closeWeek_f34 dX1_closeWeek_4 ?_
    refine z_icmp_ge (tgt := 56) hX dX1_closeWeek_7 (by decide) ?_ ?_
    · refine z_aload_n hX dX1_closeWeek_56 rfl 0 rfl ?_
      refine z_bipush (v := 99) hX dX1_closeWeek_57 (by decide) ?_
      refine z_aload_n hX dX1_closeWeek_59 rfl 0 rfl ?_
      refine z_getI (k := 8) hX (z_led0 hs hb) rfl rfl in_X1_closeWeek_X1 (by decide) lk_X1_closeWeek_f31 dX1_closeWeek_60 ?_
      refine z_iconst (v := 1) hX dX1_closeWeek_63 (by decide) ?_
      refine z_iadd hX dX1_closeWeek_64 ?_
      refine z_mmin hX lk_X1_closeWeek_m60 lk_X1_closeWeek_mS lk_X1_closeWeek_mI lk_X1_closeWeek_mC (by decide) (Nat.le_of_ble_eq_true rfl) dX1_closeWeek_65 ?_
      refine z_put1 (k := 8) hX (z_led0 hs hb) rfl rfl in_X1_closeWeek_X1 (by decide) lk_X1_closeWeek_f31 tyX1 tyX1_ok nmX1 rfl rfl rfl dX1_closeWeek_68 (z_bs fun s1 => ?_)
      refine z_aload_n hX dX1_closeWeek_71 rfl 0 rfl ?_
      refine z_dup hX dX1_closeWeek_72 rfl ?_
      refine z_getI (k := 9) hX (z_led0 hs hb) rfl rfl in_X1_closeWeek_X1 (by decide) lk_X1_closeWeek_f46 dX1_closeWeek_73 ?_
      refine z_iconst (v := 1) hX dX1_closeWeek_76 (by decide) ?_
      refine z_iadd hX dX1_closeWeek_77 ?_
      refine z_put1 (k := 9) hX (z_led0 hs hb) rfl rfl in_X1_closeWeek_X1 (by decide) lk_X1_closeWeek_f46 tyX1 tyX1_ok nmX1 rfl rfl rfl dX1_closeWeek_78 (z_bs fun s2 => ?_)
      exact z_vret hX dX1_closeWeek_81
    · refine z_aload_n hX dX1_closeWeek_10 rfl 0 rfl ?_
      refine z_getR (k := 2) hX (z_led0 hs hb) rfl rfl in_X1_closeWeek_X1 (by decide) lk_X1_closeWeek_f15 dX1_closeWeek_11 ?_
      refine z_iload_n hX dX1_closeWeek_14 rfl 1 rfl ?_
      refine z_dup2 hX dX1_closeWeek_15 rfl rfl ?_
      refine z_iald hX (z_led2 hs hb) dX1_closeWeek_16 ?_
      refine z_aload_n hX dX1_closeWeek_17 rfl 0 rfl ?_
      refine z_getR (k := 2) hX (z_led0 hs hb) rfl rfl in_X1_closeWeek_X1 (by decide) lk_X1_closeWeek_f15 dX1_closeWeek_18 ?_
      refine z_iload_n hX dX1_closeWeek_21 rfl 1 rfl ?_
      refine z_iald hX (z_led2 hs hb) dX1_closeWeek_22 ?_
      refine z_bipush (v := 9) hX dX1_closeWeek_23 (by decide) ?_
      refine z_iadd hX dX1_closeWeek_25 ?_
      refine z_bipush (v := 10) hX dX1_closeWeek_26 (by decide) ?_
      refine z_idivc hX dX1_closeWeek_28 (by decide) ?_
      refine z_isub hX dX1_closeWeek_29 ?_
      refine z_iast hX (z_led2 hs hb) dX1_closeWeek_30 (z_bs fun s3 => ?_)
      refine z_aload_n hX dX1_closeWeek_31 rfl 0 rfl ?_
      refine z_iload_n hX dX1_closeWeek_32 rfl 1 rfl ?_
      refine z_aload_n hX dX1_closeWeek_33 rfl 0 rfl ?_
      refine z_getR (k := 3) hX (z_led0 hs hb) rfl rfl in_X1_closeWeek_X1 (by decide) lk_X1_closeWeek_f18 dX1_closeWeek_34 ?_
      refine z_iload_n hX dX1_closeWeek_37 rfl 1 rfl ?_
      refine z_iald hX (z_led3 hs hb) dX1_closeWeek_38 ?_
      refine z_aload_n hX dX1_closeWeek_39 rfl 0 rfl ?_
      refine z_getI (k := 7) hX (z_led0 hs hb) rfl rfl in_X1_closeWeek_X1 (by decide) lk_X1_closeWeek_f27 dX1_closeWeek_40 ?_
      refine z_imul hX dX1_closeWeek_43 ?_
      refine z_bipush (v := 10) hX dX1_closeWeek_44 (by decide) ?_
      refine z_idivc hX dX1_closeWeek_46 (by decide) ?_
      refine z_callVV (n := 2) hX (c_X1_putAtBank M.2.1 V hX.2.2.2.2.2 hs b hb x1 (((s3 (b + 3) x1.toNatClampNeg) * (s3 b 7)) / (10 : Int32)) s3) gX1_closeWeek_X1_putAtBank rfl (by decide +kernel) ⟨by decide, by decide⟩ rfl rfl (z_led0 hs hb) rfl rfl rfl rfl (Nat.le_of_ble_eq_true rfl) dX1_closeWeek_47 (fun r4 _ => ?_)
      refine z_iinc (v := (x1 + 1)) (lv' := [(1, .int (x1 + 1)), (0, .ref (z_ad V b))]) hX dX1_closeWeek_50 1 rfl rfl (by decide) rfl ?_
      refine z_goto (tgt := 2) hX dX1_closeWeek_53 (by decide) ?_
      refine z_sub [1, 0] rfl ?_
      exact ih (x1 + 1) r4.2
set_option maxHeartbeats 4000000 in
set_option maxRecDepth 100000 in
theorem c_X1_closeWeek (l : Launch) (V : z_V) (hV : z_ok V) (hs : z_isX V) (b : Nat) (hb : z_Led b) (σ : z_St) : z_CtV l V yX1_closeWeek wsX1_closeWeek rm_X1_closeWeek [.ref (z_ad V b)] σ (f_X1_closeWeek b σ) := by
  refine z_startV (lv := [(0, .ref (z_ad V b))]) hV (by decide) rfl (Nat.le_of_ble_eq_true rfl) rfl ?_
  intro M hM hX
  have hX : z_Cx M V cX1_closeWeek 2 none wsX1_closeWeek RX1 := hX
  unfold f_X1_closeWeek
  refine z_iconst (v := 0) hX dX1_closeWeek_0 (by decide) ?_
  refine z_istore_n (lv' := [(1, .int (0 : Int32)), (0, .ref (z_ad V b))]) hX dX1_closeWeek_1 rfl (by decide) rfl ?_
  refine z_sub [1, 0] rfl ?_
  exact w_X1_closeWeek_2 M V hs hX b hb 200 (0 : Int32) σ

abbrev rm_X1_passWeek : Room := { frames := 3, cells := 0, slots := 0, locals := 69 }
theorem in_X1_passWeek_X1 : ∀ w ∈ wsX10, w ∈ wsX1_passWeek := fun w h => List.mem_cons_of_mem _ (List.mem_append_left _ (List.mem_append_right _ h))
theorem in_X1_passWeek_X5 : ∀ w ∈ wsX50, w ∈ wsX1_passWeek := fun w h => List.mem_cons_of_mem _ (List.mem_append_right _ h)
theorem lk_X1_passWeek_f49 : Cond.fieldLink RX1 49 (TX1 10).1 (TX1 10).2.1 (TX1 10).2.2.1 ∈ wsX1_passWeek := by decide +kernel
theorem lk_X1_passWeek_f70 : Cond.fieldLink RX1 70 (TX5 0).1 (TX5 0).2.1 (TX5 0).2.2.1 ∈ wsX1_passWeek := by decide +kernel
theorem lk_X1_passWeek_f84 : Cond.fieldLink RX1 84 (TX5 4).1 (TX5 4).2.1 (TX5 4).2.2.1 ∈ wsX1_passWeek := by decide +kernel
theorem lk_X1_passWeek_f87 : Cond.fieldLink RX1 87 (TX5 6).1 (TX5 6).2.1 (TX5 6).2.2.1 ∈ wsX1_passWeek := by decide +kernel
theorem lk_X1_passWeek_f46 : Cond.fieldLink RX1 46 (TX1 9).1 (TX1 9).2.1 (TX1 9).2.2.1 ∈ wsX1_passWeek := by decide +kernel
theorem lk_X1_passWeek_f90 : Cond.fieldLink RX1 90 (TX5 5).1 (TX5 5).2.1 (TX5 5).2.2.1 ∈ wsX1_passWeek := by decide +kernel
theorem lk_X1_passWeek_f93 : Cond.fieldLink RX1 93 (TX5 7).1 (TX5 7).2.1 (TX5 7).2.2.1 ∈ wsX1_passWeek := by decide +kernel
theorem lk_X1_passWeek_f73 : Cond.fieldLink RX1 73 (TX5 2).1 (TX5 2).2.1 (TX5 2).2.2.1 ∈ wsX1_passWeek := by decide +kernel
set_option maxHeartbeats 4000000 in
set_option maxRecDepth 100000 in
theorem w_X1_passWeek_44 (M : z_M) (V : z_V) (hs : z_isX V) (hX : z_Cx M V cX1_passWeek 4 (some .int) wsX1_passWeek RX1) (b : Nat) (hb : z_Led b) (o1 : Nat) (ho1 : z_Sto o1) : ∀ (n : Nat) (x2 : Int32) (x3 : Int32) (σ : z_St), z_Go M rm_X1_passWeek 4 V (z_QI V) σ 44 [(0, .ref (z_ad V b)), (1, .ref (z_ad V o1)), (2, .int x2), (3, .int x3)] [] (f_X1_passWeek_44 b o1 n x2 x3 σ) := by
  intro n
  induction n with
  | zero => intro x2 x3 σ; exact z_none
  | succ n ih =>
    intro x2 x3 σ
    rw [f_X1_passWeek_44]
    refine z_iload_n hX dX1_passWeek_44 rfl 3 rfl ?_
    refine z_aload_n hX dX1_passWeek_45 rfl 1 rfl ?_
    refine z_getI (k := 4) hX (z_sto0 hs ho1) rfl rfl in_X1_passWeek_X5 (by decide) lk_X1_passWeek_f84 dX1_passWeek_46 ?_
    refine z_icmp_ge (tgt := 93) hX dX1_passWeek_49 (by decide) ?_ ?_
    · refine z_aload_n hX dX1_passWeek_93 rfl 0 rfl ?_
      refine z_callVV (n := 0) hX (c_X1_closeWeek M.2.1 V hX.2.2.2.2.2 hs b hb σ) gX1_passWeek_X1_closeWeek rfl (by decide +kernel) ⟨by decide, by decide⟩ rfl rfl (z_led0 hs hb) rfl rfl rfl rfl (Nat.le_of_ble_eq_true rfl) dX1_passWeek_94 (fun r2 _ => ?_)
      refine z_iload_n hX dX1_passWeek_97 rfl 2 rfl ?_
      exact z_iret hX dX1_passWeek_98
    · refine z_aload_n hX dX1_passWeek_52 rfl 1 rfl ?_
      refine z_getR (k := 6) hX (z_sto0 hs ho1) rfl rfl in_X1_passWeek_X5 (by decide) lk_X1_passWeek_f87 dX1_passWeek_53 ?_
      refine z_iload_n hX dX1_passWeek_56 rfl 3 rfl ?_
      refine z_iald hX (z_sto5 hs ho1) dX1_passWeek_57 ?_
      refine z_aload_n hX dX1_passWeek_58 rfl 0 rfl ?_
      refine z_getI (k := 9) hX (z_led0 hs hb) rfl rfl in_X1_passWeek_X1 (by decide) lk_X1_passWeek_f46 dX1_passWeek_59 ?_
      refine z_icmp_ne (tgt := 87) hX dX1_passWeek_62 (by decide) ?_ ?_
      · refine z_iinc (v := (x3 + 1)) (lv' := [(3, .int (x3 + 1)), (0, .ref (z_ad V b)), (1, .ref (z_ad V o1)), (2, .int x2)]) hX dX1_passWeek_87 3 rfl rfl (by decide) rfl ?_
        refine z_goto (tgt := 44) hX dX1_passWeek_90 (by decide) ?_
        refine z_sub [1, 2, 3, 0] rfl ?_
        exact ih x2 (x3 + 1) σ
      · refine z_aload_n hX dX1_passWeek_65 rfl 0 rfl ?_
        refine z_aload_n hX dX1_passWeek_66 rfl 1 rfl ?_
        refine z_getR (k := 5) hX (z_sto0 hs ho1) rfl rfl in_X1_passWeek_X5 (by decide) lk_X1_passWeek_f90 dX1_passWeek_67 ?_
        refine z_iload_n hX dX1_passWeek_70 rfl 3 rfl ?_
        refine z_iald hX (z_sto4 hs ho1) dX1_passWeek_71 ?_
        refine z_aload_n hX dX1_passWeek_72 rfl 1 rfl ?_
        refine z_getR (k := 7) hX (z_sto0 hs ho1) rfl rfl in_X1_passWeek_X5 (by decide) lk_X1_passWeek_f93 dX1_passWeek_73 ?_
        refine z_iload_n hX dX1_passWeek_76 rfl 3 rfl ?_
        refine z_iald hX (z_sto6 hs ho1) dX1_passWeek_77 ?_
        refine z_callVI (n := 2) hX (c_X1_meets M.2.1 V hX.2.2.2.2.2 hs b hb (σ (o1 + 4) x3.toNatClampNeg) (σ (o1 + 6) x3.toNatClampNeg) σ) gX1_passWeek_X1_meets rfl (by decide +kernel) ⟨by decide, by decide⟩ rfl rfl (z_led0 hs hb) rfl rfl rfl rfl (Nat.le_of_ble_eq_true rfl) dX1_passWeek_78 (fun r3 _ => ?_)
        refine z_if_ne (tgt := 87) hX dX1_passWeek_81 (by decide) ?_ ?_
        · refine z_iinc (v := (x3 + 1)) (lv' := [(3, .int (x3 + 1)), (0, .ref (z_ad V b)), (1, .ref (z_ad V o1)), (2, .int x2)]) hX dX1_passWeek_87 3 rfl rfl (by decide) rfl ?_
          refine z_goto (tgt := 44) hX dX1_passWeek_90 (by decide) ?_
          refine z_sub [1, 2, 3, 0] rfl ?_
          exact ih x2 (x3 + 1) r3.2
        · refine z_iinc (v := (x2 + 1)) (lv' := [(2, .int (x2 + 1)), (0, .ref (z_ad V b)), (1, .ref (z_ad V o1)), (3, .int x3)]) hX dX1_passWeek_84 2 rfl rfl (by decide) rfl ?_
          refine z_iinc (v := (x3 + 1)) (lv' := [(3, .int (x3 + 1)), (2, .int (x2 + 1)), (0, .ref (z_ad V b)), (1, .ref (z_ad V o1))]) hX dX1_passWeek_87 3 rfl rfl (by decide) rfl ?_
          refine z_goto (tgt := 44) hX dX1_passWeek_90 (by decide) ?_
          refine z_sub [2, 3, 1, 0] rfl ?_
          exact ih (x2 + 1) (x3 + 1) r3.2
set_option maxHeartbeats 4000000 in
set_option maxRecDepth 100000 in
theorem w_X1_passWeek_7 (M : z_M) (V : z_V) (hs : z_isX V) (hX : z_Cx M V cX1_passWeek 4 (some .int) wsX1_passWeek RX1) (b : Nat) (hb : z_Led b) (o1 : Nat) (ho1 : z_Sto o1) : ∀ (n : Nat) (x2 : Int32) (σ : z_St), z_Go M rm_X1_passWeek 4 V (z_QI V) σ 7 [(0, .ref (z_ad V b)), (1, .ref (z_ad V o1)), (2, .int x2)] [] (f_X1_passWeek_7 b o1 n x2 σ) := by
  intro n
  induction n with
  | zero => intro x2 σ; exact z_none
  | succ n ih =>
    intro x2 σ
    rw [f_X1_passWeek_7]
    refine z_iload_n hX dX1_passWeek_7 rfl 2 rfl ?_
    refine z_aload_n hX dX1_passWeek_8 rfl 1 rfl ?_
    refine z_getI (k := 0) hX (z_sto0 hs ho1) rfl rfl in_X1_passWeek_X5 (by decide) lk_X1_passWeek_f70 dX1_passWeek_9 ?_
    refine z_icmp_ge (tgt := 40) hX dX1_passWeek_12 (by decide) ?_ ?_
    · refine z_iconst (v := 0) hX dX1_passWeek_40 (by decide) ?_
      refine z_istore_n (lv' := [(2, .int (0 : Int32)), (0, .ref (z_ad V b)), (1, .ref (z_ad V o1))]) hX dX1_passWeek_41 rfl (by decide) rfl ?_
      refine z_iconst (v := 0) hX dX1_passWeek_42 (by decide) ?_
      refine z_istore_n (lv' := [(3, .int (0 : Int32)), (2, .int (0 : Int32)), (0, .ref (z_ad V b)), (1, .ref (z_ad V o1))]) hX dX1_passWeek_43 rfl (by decide) rfl ?_
      refine z_sub [2, 3, 1, 0] rfl ?_
      exact w_X1_passWeek_44 M V hs hX b hb o1 ho1 200 (0 : Int32) (0 : Int32) σ
    · refine z_aload_n hX dX1_passWeek_15 rfl 1 rfl ?_
      refine z_getR (k := 2) hX (z_sto0 hs ho1) rfl rfl in_X1_passWeek_X5 (by decide) lk_X1_passWeek_f73 dX1_passWeek_16 ?_
      refine z_iload_n hX dX1_passWeek_19 rfl 2 rfl ?_
      refine z_iald hX (z_sto2 hs ho1) dX1_passWeek_20 ?_
      refine z_aload_n hX dX1_passWeek_21 rfl 0 rfl ?_
      refine z_getI (k := 9) hX (z_led0 hs hb) rfl rfl in_X1_passWeek_X1 (by decide) lk_X1_passWeek_f46 dX1_passWeek_22 ?_
      refine z_icmp_ne (tgt := 34) hX dX1_passWeek_25 (by decide) ?_ ?_
      · refine z_iinc (v := (x2 + 1)) (lv' := [(2, .int (x2 + 1)), (0, .ref (z_ad V b)), (1, .ref (z_ad V o1))]) hX dX1_passWeek_34 2 rfl rfl (by decide) rfl ?_
        refine z_goto (tgt := 7) hX dX1_passWeek_37 (by decide) ?_
        refine z_sub [1, 2, 0] rfl ?_
        exact ih (x2 + 1) σ
      · refine z_aload_n hX dX1_passWeek_28 rfl 0 rfl ?_
        refine z_aload_n hX dX1_passWeek_29 rfl 1 rfl ?_
        refine z_iload_n hX dX1_passWeek_30 rfl 2 rfl ?_
        refine z_callVV (n := 2) hX (c_X1_befall M.2.1 V hX.2.2.2.2.2 hs b hb o1 ho1 x2 σ) gX1_passWeek_X1_befall rfl (by decide +kernel) ⟨by decide, by decide⟩ rfl rfl (z_led0 hs hb) rfl rfl rfl rfl (Nat.le_of_ble_eq_true rfl) dX1_passWeek_31 (fun r4 _ => ?_)
        refine z_iinc (v := (x2 + 1)) (lv' := [(2, .int (x2 + 1)), (0, .ref (z_ad V b)), (1, .ref (z_ad V o1))]) hX dX1_passWeek_34 2 rfl rfl (by decide) rfl ?_
        refine z_goto (tgt := 7) hX dX1_passWeek_37 (by decide) ?_
        refine z_sub [1, 2, 0] rfl ?_
        exact ih (x2 + 1) r4.2
set_option maxHeartbeats 4000000 in
set_option maxRecDepth 100000 in
theorem c_X1_passWeek (l : Launch) (V : z_V) (hV : z_ok V) (hs : z_isX V) (b : Nat) (hb : z_Led b) (o1 : Nat) (ho1 : z_Sto o1) (σ : z_St) : z_CtI l V yX1_passWeek wsX1_passWeek rm_X1_passWeek [.ref (z_ad V b), .ref (z_ad V o1)] σ (f_X1_passWeek b o1 σ) := by
  refine z_startI (lv := [(0, .ref (z_ad V b)), (1, .ref (z_ad V o1))]) hV (by decide) rfl (Nat.le_of_ble_eq_true rfl) rfl ?_
  intro M hM hX
  have hX : z_Cx M V cX1_passWeek 4 (some .int) wsX1_passWeek RX1 := hX
  unfold f_X1_passWeek
  refine z_aload_n hX dX1_passWeek_0 rfl 0 rfl ?_
  refine z_iconst (v := 0) hX dX1_passWeek_1 (by decide) ?_
  refine z_put1 (k := 10) hX (z_led0 hs hb) rfl rfl in_X1_passWeek_X1 (by decide) lk_X1_passWeek_f49 tyX1 tyX1_ok nmX1 rfl rfl rfl dX1_passWeek_2 (z_bs fun s1 => ?_)
  refine z_iconst (v := 0) hX dX1_passWeek_5 (by decide) ?_
  refine z_istore_n (lv' := [(2, .int (0 : Int32)), (0, .ref (z_ad V b)), (1, .ref (z_ad V o1))]) hX dX1_passWeek_6 rfl (by decide) rfl ?_
  refine z_sub [1, 2, 0] rfl ?_
  exact w_X1_passWeek_7 M V hs hX b hb o1 ho1 200 (0 : Int32) s1

abbrev rm_X1_passWeeks : Room := { frames := 4, cells := 0, slots := 0, locals := 92 }
set_option maxHeartbeats 4000000 in
set_option maxRecDepth 100000 in
theorem w_X1_passWeeks_5 (M : z_M) (V : z_V) (hs : z_isX V) (hX : z_Cx M V cX1_passWeeks 5 (some .int) wsX1_passWeeks RX1) (b : Nat) (hb : z_Led b) (o1 : Nat) (ho1 : z_Sto o1) : ∀ (n : Nat) (x2 : Int32) (x3 : Int32) (x4 : Int32) (σ : z_St), z_Go M rm_X1_passWeeks 5 V (z_QI V) σ 5 [(0, .ref (z_ad V b)), (1, .ref (z_ad V o1)), (2, .int x2), (3, .int x3), (4, .int x4)] [] (f_X1_passWeeks_5 b o1 n x2 x3 x4 σ) := by
  intro n
  induction n with
  | zero => intro x2 x3 x4 σ; exact z_none
  | succ n ih =>
    intro x2 x3 x4 σ
    rw [f_X1_passWeeks_5]
    refine z_iload hX dX1_passWeeks_5 4 rfl ?_
    refine z_iload_n hX dX1_passWeeks_7 rfl 2 rfl ?_
    refine z_icmp_ge (tgt := 25) hX dX1_passWeeks_8 (by decide) ?_ ?_
    · refine z_iload_n hX dX1_passWeeks_25 rfl 3 rfl ?_
      exact z_iret hX dX1_passWeeks_26
    · refine z_iload_n hX dX1_passWeeks_11 rfl 3 rfl ?_
      refine z_aload_n hX dX1_passWeeks_12 rfl 0 rfl ?_
      refine z_aload_n hX dX1_passWeeks_13 rfl 1 rfl ?_
      refine z_callVI (n := 1) hX (c_X1_passWeek M.2.1 V hX.2.2.2.2.2 hs b hb o1 ho1 σ) gX1_passWeeks_X1_passWeek rfl (by decide +kernel) ⟨by decide, by decide⟩ rfl rfl (z_led0 hs hb) rfl rfl rfl rfl (Nat.le_of_ble_eq_true rfl) dX1_passWeeks_14 (fun r1 _ => ?_)
      refine z_iadd hX dX1_passWeeks_17 ?_
      refine z_istore_n (lv' := [(3, .int (x3 + r1.1)), (0, .ref (z_ad V b)), (1, .ref (z_ad V o1)), (2, .int x2), (4, .int x4)]) hX dX1_passWeeks_18 rfl (by decide) rfl ?_
      refine z_iinc (v := (x4 + 1)) (lv' := [(4, .int (x4 + 1)), (3, .int (x3 + r1.1)), (0, .ref (z_ad V b)), (1, .ref (z_ad V o1)), (2, .int x2)]) hX dX1_passWeeks_19 4 rfl rfl (by decide) rfl ?_
      refine z_goto (tgt := 5) hX dX1_passWeeks_22 (by decide) ?_
      refine z_sub [2, 3, 4, 1, 0] rfl ?_
      exact ih x2 (x3 + r1.1) (x4 + 1) r1.2
set_option maxHeartbeats 4000000 in
set_option maxRecDepth 100000 in
theorem c_X1_passWeeks (l : Launch) (V : z_V) (hV : z_ok V) (hs : z_isX V) (b : Nat) (hb : z_Led b) (o1 : Nat) (ho1 : z_Sto o1) (x2 : Int32) (σ : z_St) : z_CtI l V yX1_passWeeks wsX1_passWeeks rm_X1_passWeeks [.ref (z_ad V b), .ref (z_ad V o1), .int x2] σ (f_X1_passWeeks b o1 x2 σ) := by
  refine z_startI (lv := [(0, .ref (z_ad V b)), (1, .ref (z_ad V o1)), (2, .int x2)]) hV (by decide) rfl (Nat.le_of_ble_eq_true rfl) rfl ?_
  intro M hM hX
  have hX : z_Cx M V cX1_passWeeks 5 (some .int) wsX1_passWeeks RX1 := hX
  unfold f_X1_passWeeks
  refine z_iconst (v := 0) hX dX1_passWeeks_0 (by decide) ?_
  refine z_istore_n (lv' := [(3, .int (0 : Int32)), (0, .ref (z_ad V b)), (1, .ref (z_ad V o1)), (2, .int x2)]) hX dX1_passWeeks_1 rfl (by decide) rfl ?_
  refine z_iconst (v := 0) hX dX1_passWeeks_2 (by decide) ?_
  refine z_istore (lv' := [(4, .int (0 : Int32)), (3, .int (0 : Int32)), (0, .ref (z_ad V b)), (1, .ref (z_ad V o1)), (2, .int x2)]) hX dX1_passWeeks_3 (by decide) rfl ?_
  refine z_sub [2, 3, 4, 1, 0] rfl ?_
  exact w_X1_passWeeks_5 M V hs hX b hb o1 ho1 200 x2 (0 : Int32) (0 : Int32) σ

abbrev rm_X1_passToLastWeek : Room := { frames := 4, cells := 0, slots := 0, locals := 92 }
theorem in_X1_passToLastWeek_X1 : ∀ w ∈ wsX10, w ∈ wsX1_passToLastWeek := fun w h => List.mem_cons_of_mem _ (List.mem_append_left _ (List.mem_append_right _ h))
theorem lk_X1_passToLastWeek_f46 : Cond.fieldLink RX1 46 (TX1 9).1 (TX1 9).2.1 (TX1 9).2.2.1 ∈ wsX1_passToLastWeek := by decide +kernel
set_option maxHeartbeats 4000000 in
set_option maxRecDepth 100000 in
theorem w_X1_passToLastWeek_7 (M : z_M) (V : z_V) (hs : z_isX V) (hX : z_Cx M V cX1_passToLastWeek 4 (some .int) wsX1_passToLastWeek RX1) (b : Nat) (hb : z_Led b) (o1 : Nat) (ho1 : z_Sto o1) : ∀ (n : Nat) (x2 : Int32) (x3 : Int32) (σ : z_St), z_Go M rm_X1_passToLastWeek 4 V (z_QI V) σ 7 [(0, .ref (z_ad V b)), (1, .ref (z_ad V o1)), (2, .int x2), (3, .int x3)] [] (f_X1_passToLastWeek_7 b o1 n x2 x3 σ) := by
  intro n
  induction n with
  | zero => intro x2 x3 σ; exact z_none
  | succ n ih =>
    intro x2 x3 σ
    rw [f_X1_passToLastWeek_7]
    refine z_iload_n hX dX1_passToLastWeek_7 rfl 3 rfl ?_
    refine z_bipush (v := 9) hX dX1_passToLastWeek_8 (by decide) ?_
    refine z_icmp_gt (tgt := 27) hX dX1_passToLastWeek_10 (by decide) ?_ ?_
    · refine z_iload_n hX dX1_passToLastWeek_27 rfl 2 rfl ?_
      exact z_iret hX dX1_passToLastWeek_28
    · refine z_iload_n hX dX1_passToLastWeek_13 rfl 2 rfl ?_
      refine z_aload_n hX dX1_passToLastWeek_14 rfl 0 rfl ?_
      refine z_aload_n hX dX1_passToLastWeek_15 rfl 1 rfl ?_
      refine z_callVI (n := 1) hX (c_X1_passWeek M.2.1 V hX.2.2.2.2.2 hs b hb o1 ho1 σ) gX1_passToLastWeek_X1_passWeek rfl (by decide +kernel) ⟨by decide, by decide⟩ rfl rfl (z_led0 hs hb) rfl rfl rfl rfl (Nat.le_of_ble_eq_true rfl) dX1_passToLastWeek_16 (fun r1 _ => ?_)
      refine z_iadd hX dX1_passToLastWeek_19 ?_
      refine z_istore_n (lv' := [(2, .int (x2 + r1.1)), (0, .ref (z_ad V b)), (1, .ref (z_ad V o1)), (3, .int x3)]) hX dX1_passToLastWeek_20 rfl (by decide) rfl ?_
      refine z_iinc (v := (x3 + 1)) (lv' := [(3, .int (x3 + 1)), (2, .int (x2 + r1.1)), (0, .ref (z_ad V b)), (1, .ref (z_ad V o1))]) hX dX1_passToLastWeek_21 3 rfl rfl (by decide) rfl ?_
      refine z_goto (tgt := 7) hX dX1_passToLastWeek_24 (by decide) ?_
      refine z_sub [2, 3, 1, 0] rfl ?_
      exact ih (x2 + r1.1) (x3 + 1) r1.2
set_option maxHeartbeats 4000000 in
set_option maxRecDepth 100000 in
theorem c_X1_passToLastWeek (l : Launch) (V : z_V) (hV : z_ok V) (hs : z_isX V) (b : Nat) (hb : z_Led b) (o1 : Nat) (ho1 : z_Sto o1) (σ : z_St) : z_CtI l V yX1_passToLastWeek wsX1_passToLastWeek rm_X1_passToLastWeek [.ref (z_ad V b), .ref (z_ad V o1)] σ (f_X1_passToLastWeek b o1 σ) := by
  refine z_startI (lv := [(0, .ref (z_ad V b)), (1, .ref (z_ad V o1))]) hV (by decide) rfl (Nat.le_of_ble_eq_true rfl) rfl ?_
  intro M hM hX
  have hX : z_Cx M V cX1_passToLastWeek 4 (some .int) wsX1_passToLastWeek RX1 := hX
  unfold f_X1_passToLastWeek
  refine z_iconst (v := 0) hX dX1_passToLastWeek_0 (by decide) ?_
  refine z_istore_n (lv' := [(2, .int (0 : Int32)), (0, .ref (z_ad V b)), (1, .ref (z_ad V o1))]) hX dX1_passToLastWeek_1 rfl (by decide) rfl ?_
  refine z_aload_n hX dX1_passToLastWeek_2 rfl 1 rfl ?_
  refine z_getI (k := 9) hX (z_led0 hs hb) rfl rfl in_X1_passToLastWeek_X1 (by decide) lk_X1_passToLastWeek_f46 dX1_passToLastWeek_3 ?_
  refine z_istore_n (lv' := [(3, .int (σ b 9)), (2, .int (0 : Int32)), (0, .ref (z_ad V b)), (1, .ref (z_ad V o1))]) hX dX1_passToLastWeek_6 rfl (by decide) rfl ?_
  refine z_sub [2, 3, 1, 0] rfl ?_
  exact w_X1_passToLastWeek_7 M V hs hX b hb o1 ho1 200 (0 : Int32) (σ b 9) σ

abbrev rm_X1_runToCounter : Room := { frames := 2, cells := 0, slots := 0, locals := 46 }
theorem in_X1_runToCounter_X1 : ∀ w ∈ wsX10, w ∈ wsX1_runToCounter := fun w h => List.mem_cons_of_mem _ (List.mem_append_right _ h)
theorem lk_X1_runToCounter_f34 : Cond.fieldLink RX1 34 (TX1 0).1 (TX1 0).2.1 (TX1 0).2.2.1 ∈ wsX1_runToCounter := by decide +kernel
theorem lk_X1_runToCounter_f18 : Cond.fieldLink RX1 18 (TX1 3).1 (TX1 3).2.1 (TX1 3).2.2.1 ∈ wsX1_runToCounter := by decide +kernel
theorem lk_X1_runToCounter_f31 : Cond.fieldLink RX1 31 (TX1 8).1 (TX1 8).2.1 (TX1 8).2.2.1 ∈ wsX1_runToCounter := by decide +kernel
set_option maxHeartbeats 4000000 in
set_option maxRecDepth 100000 in
theorem w_X1_runToCounter_2 (M : z_M) (V : z_V) (hs : z_isX V) (hX : z_Cx M V cX1_runToCounter 2 none wsX1_runToCounter RX1) (b : Nat) (hb : z_Led b) : ∀ (n : Nat) (x1 : Int32) (σ : z_St), z_Go M rm_X1_runToCounter 2 V (z_QV V) σ 2 [(0, .ref (z_ad V b)), (1, .int x1)] [] (f_X1_runToCounter_2 b n x1 σ) := by
  intro n
  induction n with
  | zero => intro x1 σ; exact z_none
  | succ n ih =>
    intro x1 σ
    rw [f_X1_runToCounter_2]
    refine z_iload_n hX dX1_runToCounter_2 rfl 1 rfl ?_
    refine z_aload_n hX dX1_runToCounter_3 rfl 0 rfl ?_
    refine z_getI (k := 0) hX (z_led0 hs hb) rfl rfl in_X1_runToCounter_X1 (by decide) lk_X1_runToCounter_f34 dX1_runToCounter_4 ?_
    refine z_icmp_ge (tgt := 62) hX dX1_runToCounter_7 (by decide) ?_ ?_
    · exact z_vret hX dX1_runToCounter_62
    · refine z_aload_n hX dX1_runToCounter_10 rfl 0 rfl ?_
      refine z_getR (k := 3) hX (z_led0 hs hb) rfl rfl in_X1_runToCounter_X1 (by decide) lk_X1_runToCounter_f18 dX1_runToCounter_11 ?_
      refine z_iload_n hX dX1_runToCounter_14 rfl 1 rfl ?_
      refine z_iald hX (z_led3 hs hb) dX1_runToCounter_15 ?_
      refine z_aload_n hX dX1_runToCounter_16 rfl 0 rfl ?_
      refine z_getI (k := 8) hX (z_led0 hs hb) rfl rfl in_X1_runToCounter_X1 (by decide) lk_X1_runToCounter_f31 dX1_runToCounter_17 ?_
      refine z_icmp_gt (tgt := 56) hX dX1_runToCounter_20 (by decide) ?_ ?_
      · refine z_iinc (v := (x1 + 1)) (lv' := [(1, .int (x1 + 1)), (0, .ref (z_ad V b))]) hX dX1_runToCounter_56 1 rfl rfl (by decide) rfl ?_
        refine z_goto (tgt := 2) hX dX1_runToCounter_59 (by decide) ?_
        refine z_sub [1, 0] rfl ?_
        exact ih (x1 + 1) σ
      · refine z_aload_n hX dX1_runToCounter_23 rfl 0 rfl ?_
        refine z_dup hX dX1_runToCounter_24 rfl ?_
        refine z_getI (k := 8) hX (z_led0 hs hb) rfl rfl in_X1_runToCounter_X1 (by decide) lk_X1_runToCounter_f31 dX1_runToCounter_25 ?_
        refine z_aload_n hX dX1_runToCounter_28 rfl 0 rfl ?_
        refine z_getR (k := 3) hX (z_led0 hs hb) rfl rfl in_X1_runToCounter_X1 (by decide) lk_X1_runToCounter_f18 dX1_runToCounter_29 ?_
        refine z_iload_n hX dX1_runToCounter_32 rfl 1 rfl ?_
        refine z_iald hX (z_led3 hs hb) dX1_runToCounter_33 ?_
        refine z_isub hX dX1_runToCounter_34 ?_
        refine z_put1 (k := 8) hX (z_led0 hs hb) rfl rfl in_X1_runToCounter_X1 (by decide) lk_X1_runToCounter_f31 tyX1 tyX1_ok nmX1 rfl rfl rfl dX1_runToCounter_35 (z_bs fun s1 => ?_)
        refine z_aload_n hX dX1_runToCounter_38 rfl 0 rfl ?_
        refine z_iload_n hX dX1_runToCounter_39 rfl 1 rfl ?_
        refine z_aload_n hX dX1_runToCounter_40 rfl 0 rfl ?_
        refine z_getR (k := 3) hX (z_led0 hs hb) rfl rfl in_X1_runToCounter_X1 (by decide) lk_X1_runToCounter_f18 dX1_runToCounter_41 ?_
        refine z_iload_n hX dX1_runToCounter_44 rfl 1 rfl ?_
        refine z_iald hX (z_led3 hs hb) dX1_runToCounter_45 ?_
        refine z_callVV (n := 2) hX (c_X1_putInHand M.2.1 V hX.2.2.2.2.2 hs b hb x1 (s1 (b + 3) x1.toNatClampNeg) s1) gX1_runToCounter_X1_putInHand rfl (by decide +kernel) ⟨by decide, by decide⟩ rfl rfl (z_led0 hs hb) rfl rfl rfl rfl (Nat.le_of_ble_eq_true rfl) dX1_runToCounter_46 (fun r2 _ => ?_)
        refine z_aload_n hX dX1_runToCounter_49 rfl 0 rfl ?_
        refine z_getR (k := 3) hX (z_led0 hs hb) rfl rfl in_X1_runToCounter_X1 (by decide) lk_X1_runToCounter_f18 dX1_runToCounter_50 ?_
        refine z_iload_n hX dX1_runToCounter_53 rfl 1 rfl ?_
        refine z_iconst (v := 0) hX dX1_runToCounter_54 (by decide) ?_
        refine z_iast hX (z_led3 hs hb) dX1_runToCounter_55 (z_bs fun s3 => ?_)
        refine z_iinc (v := (x1 + 1)) (lv' := [(1, .int (x1 + 1)), (0, .ref (z_ad V b))]) hX dX1_runToCounter_56 1 rfl rfl (by decide) rfl ?_
        refine z_goto (tgt := 2) hX dX1_runToCounter_59 (by decide) ?_
        refine z_sub [1, 0] rfl ?_
        exact ih (x1 + 1) s3
set_option maxHeartbeats 4000000 in
set_option maxRecDepth 100000 in
theorem c_X1_runToCounter (l : Launch) (V : z_V) (hV : z_ok V) (hs : z_isX V) (b : Nat) (hb : z_Led b) (σ : z_St) : z_CtV l V yX1_runToCounter wsX1_runToCounter rm_X1_runToCounter [.ref (z_ad V b)] σ (f_X1_runToCounter b σ) := by
  refine z_startV (lv := [(0, .ref (z_ad V b))]) hV (by decide) rfl (Nat.le_of_ble_eq_true rfl) rfl ?_
  intro M hM hX
  have hX : z_Cx M V cX1_runToCounter 2 none wsX1_runToCounter RX1 := hX
  unfold f_X1_runToCounter
  refine z_iconst (v := 0) hX dX1_runToCounter_0 (by decide) ?_
  refine z_istore_n (lv' := [(1, .int (0 : Int32)), (0, .ref (z_ad V b))]) hX dX1_runToCounter_1 rfl (by decide) rfl ?_
  refine z_sub [1, 0] rfl ?_
  exact w_X1_runToCounter_2 M V hs hX b hb 200 (0 : Int32) σ

abbrev rm_X1_whoHasNothingThere : Room := { frames := 0, cells := 0, slots := 0, locals := 0 }
theorem in_X1_whoHasNothingThere_X1 : ∀ w ∈ wsX10, w ∈ wsX1_whoHasNothingThere := fun w h => List.mem_cons_of_mem _ (List.mem_append_right _ h)
theorem lk_X1_whoHasNothingThere_f34 : Cond.fieldLink RX1 34 (TX1 0).1 (TX1 0).2.1 (TX1 0).2.2.1 ∈ wsX1_whoHasNothingThere := by decide +kernel
theorem lk_X1_whoHasNothingThere_f18 : Cond.fieldLink RX1 18 (TX1 3).1 (TX1 3).2.1 (TX1 3).2.2.1 ∈ wsX1_whoHasNothingThere := by decide +kernel
set_option maxHeartbeats 4000000 in
set_option maxRecDepth 100000 in
theorem w_X1_whoHasNothingThere_4 (M : z_M) (V : z_V) (hs : z_isX V) (hX : z_Cx M V cX1_whoHasNothingThere 3 (some .int) wsX1_whoHasNothingThere RX1) (b : Nat) (hb : z_Led b) : ∀ (n : Nat) (x1 : Int32) (x2 : Int32) (σ : z_St), z_Go M rm_X1_whoHasNothingThere 3 V (z_QI V) σ 4 [(0, .ref (z_ad V b)), (1, .int x1), (2, .int x2)] [] (f_X1_whoHasNothingThere_4 b n x1 x2 σ) := by
  intro n
  induction n with
  | zero => intro x1 x2 σ; exact z_none
  | succ n ih =>
    intro x1 x2 σ
    rw [f_X1_whoHasNothingThere_4]
    refine z_iload_n hX dX1_whoHasNothingThere_4 rfl 2 rfl ?_
    refine z_aload_n hX dX1_whoHasNothingThere_5 rfl 0 rfl ?_
    refine z_getI (k := 0) hX (z_led0 hs hb) rfl rfl in_X1_whoHasNothingThere_X1 (by decide) lk_X1_whoHasNothingThere_f34 dX1_whoHasNothingThere_6 ?_
    refine z_icmp_ge (tgt := 33) hX dX1_whoHasNothingThere_9 (by decide) ?_ ?_
    · refine z_iload_n hX dX1_whoHasNothingThere_33 rfl 1 rfl ?_
      exact z_iret hX dX1_whoHasNothingThere_34
    · refine z_aload_n hX dX1_whoHasNothingThere_12 rfl 0 rfl ?_
      refine z_getR (k := 3) hX (z_led0 hs hb) rfl rfl in_X1_whoHasNothingThere_X1 (by decide) lk_X1_whoHasNothingThere_f18 dX1_whoHasNothingThere_13 ?_
      refine z_iload_n hX dX1_whoHasNothingThere_16 rfl 2 rfl ?_
      refine z_iald hX (z_led3 hs hb) dX1_whoHasNothingThere_17 ?_
      refine z_if_ne (tgt := 27) hX dX1_whoHasNothingThere_18 (by decide) ?_ ?_
      · refine z_iinc (v := (x2 + 1)) (lv' := [(2, .int (x2 + 1)), (0, .ref (z_ad V b)), (1, .int x1)]) hX dX1_whoHasNothingThere_27 2 rfl rfl (by decide) rfl ?_
        refine z_goto (tgt := 4) hX dX1_whoHasNothingThere_30 (by decide) ?_
        refine z_sub [1, 2, 0] rfl ?_
        exact ih x1 (x2 + 1) σ
      · refine z_iload_n hX dX1_whoHasNothingThere_21 rfl 1 rfl ?_
        refine z_iconst (v := 1) hX dX1_whoHasNothingThere_22 (by decide) ?_
        refine z_iload_n hX dX1_whoHasNothingThere_23 rfl 2 rfl ?_
        refine z_ishl hX dX1_whoHasNothingThere_24 ?_
        refine z_ior hX dX1_whoHasNothingThere_25 ?_
        refine z_top (fun v1 => ?_)
        refine z_istore_n (lv' := [(1, .int v1), (0, .ref (z_ad V b)), (2, .int x2)]) hX dX1_whoHasNothingThere_26 rfl (by decide) rfl ?_
        refine z_iinc (v := (x2 + 1)) (lv' := [(2, .int (x2 + 1)), (1, .int v1), (0, .ref (z_ad V b))]) hX dX1_whoHasNothingThere_27 2 rfl rfl (by decide) rfl ?_
        refine z_goto (tgt := 4) hX dX1_whoHasNothingThere_30 (by decide) ?_
        refine z_sub [2, 1, 0] rfl ?_
        exact ih v1 (x2 + 1) σ
set_option maxHeartbeats 4000000 in
set_option maxRecDepth 100000 in
theorem c_X1_whoHasNothingThere (l : Launch) (V : z_V) (hV : z_ok V) (hs : z_isX V) (b : Nat) (hb : z_Led b) (σ : z_St) : z_CtI l V yX1_whoHasNothingThere wsX1_whoHasNothingThere rm_X1_whoHasNothingThere [.ref (z_ad V b)] σ (f_X1_whoHasNothingThere b σ) := by
  refine z_startI (lv := [(0, .ref (z_ad V b))]) hV (by decide) rfl (Nat.le_of_ble_eq_true rfl) rfl ?_
  intro M hM hX
  have hX : z_Cx M V cX1_whoHasNothingThere 3 (some .int) wsX1_whoHasNothingThere RX1 := hX
  unfold f_X1_whoHasNothingThere
  refine z_iconst (v := 0) hX dX1_whoHasNothingThere_0 (by decide) ?_
  refine z_istore_n (lv' := [(1, .int (0 : Int32)), (0, .ref (z_ad V b))]) hX dX1_whoHasNothingThere_1 rfl (by decide) rfl ?_
  refine z_iconst (v := 0) hX dX1_whoHasNothingThere_2 (by decide) ?_
  refine z_istore_n (lv' := [(2, .int (0 : Int32)), (1, .int (0 : Int32)), (0, .ref (z_ad V b))]) hX dX1_whoHasNothingThere_3 rfl (by decide) rfl ?_
  refine z_sub [2, 1, 0] rfl ?_
  exact w_X1_whoHasNothingThere_4 M V hs hX b hb 200 (0 : Int32) (0 : Int32) σ

abbrev rm_X1_sumInHand : Room := { frames := 0, cells := 0, slots := 0, locals := 0 }
theorem in_X1_sumInHand_X1 : ∀ w ∈ wsX10, w ∈ wsX1_sumInHand := fun w h => List.mem_cons_of_mem _ (List.mem_append_right _ h)
theorem lk_X1_sumInHand_f34 : Cond.fieldLink RX1 34 (TX1 0).1 (TX1 0).2.1 (TX1 0).2.2.1 ∈ wsX1_sumInHand := by decide +kernel
theorem lk_X1_sumInHand_f15 : Cond.fieldLink RX1 15 (TX1 2).1 (TX1 2).2.1 (TX1 2).2.2.1 ∈ wsX1_sumInHand := by decide +kernel
set_option maxHeartbeats 4000000 in
set_option maxRecDepth 100000 in
theorem w_X1_sumInHand_4 (M : z_M) (V : z_V) (hs : z_isX V) (hX : z_Cx M V cX1_sumInHand 3 (some .int) wsX1_sumInHand RX1) (b : Nat) (hb : z_Led b) : ∀ (n : Nat) (x1 : Int32) (x2 : Int32) (σ : z_St), z_Go M rm_X1_sumInHand 3 V (z_QI V) σ 4 [(0, .ref (z_ad V b)), (1, .int x1), (2, .int x2)] [] (f_X1_sumInHand_4 b n x1 x2 σ) := by
  intro n
  induction n with
  | zero => intro x1 x2 σ; exact z_none
  | succ n ih =>
    intro x1 x2 σ
    rw [f_X1_sumInHand_4]
    refine z_iload_n hX dX1_sumInHand_4 rfl 2 rfl ?_
    refine z_aload_n hX dX1_sumInHand_5 rfl 0 rfl ?_
    refine z_getI (k := 0) hX (z_led0 hs hb) rfl rfl in_X1_sumInHand_X1 (by decide) lk_X1_sumInHand_f34 dX1_sumInHand_6 ?_
    refine z_icmp_ge (tgt := 27) hX dX1_sumInHand_9 (by decide) ?_ ?_
    · refine z_iload_n hX dX1_sumInHand_27 rfl 1 rfl ?_
      exact z_iret hX dX1_sumInHand_28
    · refine z_iload_n hX dX1_sumInHand_12 rfl 1 rfl ?_
      refine z_aload_n hX dX1_sumInHand_13 rfl 0 rfl ?_
      refine z_getR (k := 2) hX (z_led0 hs hb) rfl rfl in_X1_sumInHand_X1 (by decide) lk_X1_sumInHand_f15 dX1_sumInHand_14 ?_
      refine z_iload_n hX dX1_sumInHand_17 rfl 2 rfl ?_
      refine z_iald hX (z_led2 hs hb) dX1_sumInHand_18 ?_
      refine z_iadd hX dX1_sumInHand_19 ?_
      refine z_top (fun v1 => ?_)
      refine z_istore_n (lv' := [(1, .int v1), (0, .ref (z_ad V b)), (2, .int x2)]) hX dX1_sumInHand_20 rfl (by decide) rfl ?_
      refine z_iinc (v := (x2 + 1)) (lv' := [(2, .int (x2 + 1)), (1, .int v1), (0, .ref (z_ad V b))]) hX dX1_sumInHand_21 2 rfl rfl (by decide) rfl ?_
      refine z_goto (tgt := 4) hX dX1_sumInHand_24 (by decide) ?_
      refine z_sub [2, 1, 0] rfl ?_
      exact ih v1 (x2 + 1) σ
set_option maxHeartbeats 4000000 in
set_option maxRecDepth 100000 in
theorem c_X1_sumInHand (l : Launch) (V : z_V) (hV : z_ok V) (hs : z_isX V) (b : Nat) (hb : z_Led b) (σ : z_St) : z_CtI l V yX1_sumInHand wsX1_sumInHand rm_X1_sumInHand [.ref (z_ad V b)] σ (f_X1_sumInHand b σ) := by
  refine z_startI (lv := [(0, .ref (z_ad V b))]) hV (by decide) rfl (Nat.le_of_ble_eq_true rfl) rfl ?_
  intro M hM hX
  have hX : z_Cx M V cX1_sumInHand 3 (some .int) wsX1_sumInHand RX1 := hX
  unfold f_X1_sumInHand
  refine z_iconst (v := 0) hX dX1_sumInHand_0 (by decide) ?_
  refine z_istore_n (lv' := [(1, .int (0 : Int32)), (0, .ref (z_ad V b))]) hX dX1_sumInHand_1 rfl (by decide) rfl ?_
  refine z_iconst (v := 0) hX dX1_sumInHand_2 (by decide) ?_
  refine z_istore_n (lv' := [(2, .int (0 : Int32)), (1, .int (0 : Int32)), (0, .ref (z_ad V b))]) hX dX1_sumInHand_3 rfl (by decide) rfl ?_
  refine z_sub [2, 1, 0] rfl ?_
  exact w_X1_sumInHand_4 M V hs hX b hb 200 (0 : Int32) (0 : Int32) σ

abbrev rm_X1_sumAtBank : Room := { frames := 0, cells := 0, slots := 0, locals := 0 }
theorem in_X1_sumAtBank_X1 : ∀ w ∈ wsX10, w ∈ wsX1_sumAtBank := fun w h => List.mem_cons_of_mem _ (List.mem_append_right _ h)
theorem lk_X1_sumAtBank_f34 : Cond.fieldLink RX1 34 (TX1 0).1 (TX1 0).2.1 (TX1 0).2.2.1 ∈ wsX1_sumAtBank := by decide +kernel
theorem lk_X1_sumAtBank_f18 : Cond.fieldLink RX1 18 (TX1 3).1 (TX1 3).2.1 (TX1 3).2.2.1 ∈ wsX1_sumAtBank := by decide +kernel
set_option maxHeartbeats 4000000 in
set_option maxRecDepth 100000 in
theorem w_X1_sumAtBank_4 (M : z_M) (V : z_V) (hs : z_isX V) (hX : z_Cx M V cX1_sumAtBank 3 (some .int) wsX1_sumAtBank RX1) (b : Nat) (hb : z_Led b) : ∀ (n : Nat) (x1 : Int32) (x2 : Int32) (σ : z_St), z_Go M rm_X1_sumAtBank 3 V (z_QI V) σ 4 [(0, .ref (z_ad V b)), (1, .int x1), (2, .int x2)] [] (f_X1_sumAtBank_4 b n x1 x2 σ) := by
  intro n
  induction n with
  | zero => intro x1 x2 σ; exact z_none
  | succ n ih =>
    intro x1 x2 σ
    rw [f_X1_sumAtBank_4]
    refine z_iload_n hX dX1_sumAtBank_4 rfl 2 rfl ?_
    refine z_aload_n hX dX1_sumAtBank_5 rfl 0 rfl ?_
    refine z_getI (k := 0) hX (z_led0 hs hb) rfl rfl in_X1_sumAtBank_X1 (by decide) lk_X1_sumAtBank_f34 dX1_sumAtBank_6 ?_
    refine z_icmp_ge (tgt := 27) hX dX1_sumAtBank_9 (by decide) ?_ ?_
    · refine z_iload_n hX dX1_sumAtBank_27 rfl 1 rfl ?_
      exact z_iret hX dX1_sumAtBank_28
    · refine z_iload_n hX dX1_sumAtBank_12 rfl 1 rfl ?_
      refine z_aload_n hX dX1_sumAtBank_13 rfl 0 rfl ?_
      refine z_getR (k := 3) hX (z_led0 hs hb) rfl rfl in_X1_sumAtBank_X1 (by decide) lk_X1_sumAtBank_f18 dX1_sumAtBank_14 ?_
      refine z_iload_n hX dX1_sumAtBank_17 rfl 2 rfl ?_
      refine z_iald hX (z_led3 hs hb) dX1_sumAtBank_18 ?_
      refine z_iadd hX dX1_sumAtBank_19 ?_
      refine z_top (fun v1 => ?_)
      refine z_istore_n (lv' := [(1, .int v1), (0, .ref (z_ad V b)), (2, .int x2)]) hX dX1_sumAtBank_20 rfl (by decide) rfl ?_
      refine z_iinc (v := (x2 + 1)) (lv' := [(2, .int (x2 + 1)), (1, .int v1), (0, .ref (z_ad V b))]) hX dX1_sumAtBank_21 2 rfl rfl (by decide) rfl ?_
      refine z_goto (tgt := 4) hX dX1_sumAtBank_24 (by decide) ?_
      refine z_sub [2, 1, 0] rfl ?_
      exact ih v1 (x2 + 1) σ
set_option maxHeartbeats 4000000 in
set_option maxRecDepth 100000 in
theorem c_X1_sumAtBank (l : Launch) (V : z_V) (hV : z_ok V) (hs : z_isX V) (b : Nat) (hb : z_Led b) (σ : z_St) : z_CtI l V yX1_sumAtBank wsX1_sumAtBank rm_X1_sumAtBank [.ref (z_ad V b)] σ (f_X1_sumAtBank b σ) := by
  refine z_startI (lv := [(0, .ref (z_ad V b))]) hV (by decide) rfl (Nat.le_of_ble_eq_true rfl) rfl ?_
  intro M hM hX
  have hX : z_Cx M V cX1_sumAtBank 3 (some .int) wsX1_sumAtBank RX1 := hX
  unfold f_X1_sumAtBank
  refine z_iconst (v := 0) hX dX1_sumAtBank_0 (by decide) ?_
  refine z_istore_n (lv' := [(1, .int (0 : Int32)), (0, .ref (z_ad V b))]) hX dX1_sumAtBank_1 rfl (by decide) rfl ?_
  refine z_iconst (v := 0) hX dX1_sumAtBank_2 (by decide) ?_
  refine z_istore_n (lv' := [(2, .int (0 : Int32)), (1, .int (0 : Int32)), (0, .ref (z_ad V b))]) hX dX1_sumAtBank_3 rfl (by decide) rfl ?_
  refine z_sub [2, 1, 0] rfl ?_
  exact w_X1_sumAtBank_4 M V hs hX b hb 200 (0 : Int32) (0 : Int32) σ
