abbrev rm_X3_append : Room := { frames := 0, cells := 0, slots := 0, locals := 0 }
theorem in_X3_append_X3 : ∀ w ∈ wsX30, w ∈ wsX3_append := fun w h => List.mem_cons_of_mem _ (List.mem_append_right _ h)
theorem lk_X3_append_f33 : Cond.fieldLink RX3 33 (TX3 2).1 (TX3 2).2.1 (TX3 2).2.2.1 ∈ wsX3_append := by decide +kernel
theorem lk_X3_append_f25 : Cond.fieldLink RX3 25 (TX3 4).1 (TX3 4).2.1 (TX3 4).2.2.1 ∈ wsX3_append := by decide +kernel
set_option maxHeartbeats 4000000 in
set_option maxRecDepth 100000 in
theorem c_X3_append (l : Launch) (V : z_V) (hV : z_ok V) (hs : z_isX V) (x1 : Int32) (σ : z_St) : z_CtI l V yX3_append wsX3_append rm_X3_append [.ref (z_ad V 27), .int x1] σ (f_X3_append x1 σ) := by
  refine z_startI (lv := [(0, .ref (z_ad V 27)), (1, .int x1)]) hV (by decide) rfl (Nat.le_of_ble_eq_true rfl) rfl ?_
  intro M hM hX
  have hX : z_Cx M V cX3_append 2 (some .int) wsX3_append RX3 := hX
  unfold f_X3_append
  refine z_aload_n hX dX3_append_0 rfl 0 rfl ?_
  refine z_getI (k := 2) hX (z_scr0 hs) rfl rfl in_X3_append_X3 (by decide) lk_X3_append_f33 dX3_append_1 ?_
  refine z_sipush (v := 160) hX dX3_append_4 (by decide) ?_
  refine z_icmp_lt (tgt := 13) hX dX3_append_7 (by decide) ?_ ?_
  · refine z_aload_n hX dX3_append_13 rfl 0 rfl ?_
    refine z_getR (k := 4) hX (z_scr0 hs) rfl rfl in_X3_append_X3 (by decide) lk_X3_append_f25 dX3_append_14 ?_
    refine z_aload_n hX dX3_append_17 rfl 0 rfl ?_
    refine z_getI (k := 2) hX (z_scr0 hs) rfl rfl in_X3_append_X3 (by decide) lk_X3_append_f33 dX3_append_18 ?_
    refine z_iload_n hX dX3_append_21 rfl 1 rfl ?_
    refine z_i2b hX dX3_append_22 ?_
    refine z_bast hX (z_scr1 hs) dX3_append_23 (z_bs fun s1 => ?_)
    refine z_aload_n hX dX3_append_24 rfl 0 rfl ?_
    refine z_dup hX dX3_append_25 rfl ?_
    refine z_getI (k := 2) hX (z_scr0 hs) rfl rfl in_X3_append_X3 (by decide) lk_X3_append_f33 dX3_append_26 ?_
    refine z_iconst (v := 1) hX dX3_append_29 (by decide) ?_
    refine z_iadd hX dX3_append_30 ?_
    refine z_put1 (k := 2) hX (z_scr0 hs) rfl rfl in_X3_append_X3 (by decide) lk_X3_append_f33 tyX3 tyX3_ok nmX3 rfl rfl rfl dX3_append_31 (z_bs fun s2 => ?_)
    refine z_aload_n hX dX3_append_34 rfl 0 rfl ?_
    refine z_getI (k := 2) hX (z_scr0 hs) rfl rfl in_X3_append_X3 (by decide) lk_X3_append_f33 dX3_append_35 ?_
    exact z_iret hX dX3_append_38
  · refine z_bipush (v := -3) hX dX3_append_10 (by decide) ?_
    exact z_iret hX dX3_append_12

abbrev rm_X3_begin : Room := { frames := 0, cells := 0, slots := 0, locals := 0 }
theorem in_X3_begin_X1 : ∀ w ∈ wsX10, w ∈ wsX3_begin := fun w h => List.mem_cons_of_mem _ (List.mem_append_right _ h)
theorem in_X3_begin_X3 : ∀ w ∈ wsX30, w ∈ wsX3_begin := fun w h => List.mem_cons_of_mem _ (List.mem_append_left _ (List.mem_append_left _ (List.mem_append_right _ h)))
theorem in_X3_begin_X5 : ∀ w ∈ wsX50, w ∈ wsX3_begin := fun w h => List.mem_cons_of_mem _ (List.mem_append_left _ (List.mem_append_right _ h))
theorem lk_X3_begin_f12 : Cond.fieldLink RX3 12 (TX3 0).1 (TX3 0).2.1 (TX3 0).2.2.1 ∈ wsX3_begin := by decide +kernel
theorem lk_X3_begin_f62 : Cond.fieldLink RX3 62 (TX5 0).1 (TX5 0).2.1 (TX5 0).2.2.1 ∈ wsX3_begin := by decide +kernel
theorem lk_X3_begin_f65 : Cond.fieldLink RX3 65 (TX5 4).1 (TX5 4).2.1 (TX5 4).2.2.1 ∈ wsX3_begin := by decide +kernel
theorem lk_X3_begin_f21 : Cond.fieldLink RX3 21 (TX3 1).1 (TX3 1).2.1 (TX3 1).2.2.1 ∈ wsX3_begin := by decide +kernel
theorem lk_X3_begin_f52 : Cond.fieldLink RX3 52 (TX1 0).1 (TX1 0).2.1 (TX1 0).2.2.1 ∈ wsX3_begin := by decide +kernel
theorem lk_X3_begin_f68 : Cond.fieldLink RX3 68 (TX1 7).1 (TX1 7).2.1 (TX1 7).2.2.1 ∈ wsX3_begin := by decide +kernel
theorem lk_X3_begin_f71 : Cond.fieldLink RX3 71 (TX1 8).1 (TX1 8).2.1 (TX1 8).2.2.1 ∈ wsX3_begin := by decide +kernel
theorem lk_X3_begin_f43 : Cond.fieldLink RX3 43 (TX3 3).1 (TX3 3).2.1 (TX3 3).2.2.1 ∈ wsX3_begin := by decide +kernel
theorem lk_X3_begin_f74 : Cond.fieldLink RX3 74 (TX3 7).1 (TX3 7).2.1 (TX3 7).2.2.1 ∈ wsX3_begin := by decide +kernel
theorem lk_X3_begin_f77 : Cond.fieldLink RX3 77 (TX3 10).1 (TX3 10).2.1 (TX3 10).2.2.1 ∈ wsX3_begin := by decide +kernel
theorem lk_X3_begin_f81 : Cond.fieldLink RX3 81 (TX3 11).1 (TX3 11).2.1 (TX3 11).2.2.1 ∈ wsX3_begin := by decide +kernel
set_option maxHeartbeats 4000000 in
set_option maxRecDepth 100000 in
theorem c_X3_begin (l : Launch) (V : z_V) (hV : z_ok V) (hs : z_isX V) (σ : z_St) : z_CtV l V yX3_begin wsX3_begin rm_X3_begin [.ref (z_ad V 27)] σ (f_X3_begin σ) := by
  refine z_startV (lv := [(0, .ref (z_ad V 27))]) hV (by decide) rfl (Nat.le_of_ble_eq_true rfl) rfl ?_
  intro M hM hX
  have hX : z_Cx M V cX3_begin 1 none wsX3_begin RX3 := hX
  unfold f_X3_begin
  refine z_aload_n hX dX3_begin_0 rfl 0 rfl ?_
  refine z_getR (k := 0) hX (z_scr0 hs) rfl rfl in_X3_begin_X3 (by decide) lk_X3_begin_f12 dX3_begin_1 ?_
  refine z_iconst (v := 0) hX dX3_begin_4 (by decide) ?_
  refine z_put1 (k := 0) hX (z_sto0 hs z_issto30) rfl rfl in_X3_begin_X5 (by decide) lk_X3_begin_f62 tyX5 tyX5_ok nmX5 rfl rfl rfl dX3_begin_5 (z_bs fun s1 => ?_)
  refine z_aload_n hX dX3_begin_8 rfl 0 rfl ?_
  refine z_getR (k := 0) hX (z_scr0 hs) rfl rfl in_X3_begin_X3 (by decide) lk_X3_begin_f12 dX3_begin_9 ?_
  refine z_iconst (v := 0) hX dX3_begin_12 (by decide) ?_
  refine z_put1 (k := 4) hX (z_sto0 hs z_issto30) rfl rfl in_X3_begin_X5 (by decide) lk_X3_begin_f65 tyX5 tyX5_ok nmX5 rfl rfl rfl dX3_begin_13 (z_bs fun s2 => ?_)
  refine z_aload_n hX dX3_begin_16 rfl 0 rfl ?_
  refine z_getR (k := 1) hX (z_scr0 hs) rfl rfl in_X3_begin_X3 (by decide) lk_X3_begin_f21 dX3_begin_17 ?_
  refine z_iconst (v := 0) hX dX3_begin_20 (by decide) ?_
  refine z_put1 (k := 0) hX (z_led0 hs z_isled37) rfl rfl in_X3_begin_X1 (by decide) lk_X3_begin_f52 tyX1 tyX1_ok nmX1 rfl rfl rfl dX3_begin_21 (z_bs fun s3 => ?_)
  refine z_aload_n hX dX3_begin_24 rfl 0 rfl ?_
  refine z_getR (k := 1) hX (z_scr0 hs) rfl rfl in_X3_begin_X3 (by decide) lk_X3_begin_f21 dX3_begin_25 ?_
  refine z_iconst (v := 1) hX dX3_begin_28 (by decide) ?_
  refine z_put1 (k := 7) hX (z_led0 hs z_isled37) rfl rfl in_X3_begin_X1 (by decide) lk_X3_begin_f68 tyX1 tyX1_ok nmX1 rfl rfl rfl dX3_begin_29 (z_bs fun s4 => ?_)
  refine z_aload_n hX dX3_begin_32 rfl 0 rfl ?_
  refine z_getR (k := 1) hX (z_scr0 hs) rfl rfl in_X3_begin_X3 (by decide) lk_X3_begin_f21 dX3_begin_33 ?_
  refine z_bipush (v := 20) hX dX3_begin_36 (by decide) ?_
  refine z_put1 (k := 8) hX (z_led0 hs z_isled37) rfl rfl in_X3_begin_X1 (by decide) lk_X3_begin_f71 tyX1 tyX1_ok nmX1 rfl rfl rfl dX3_begin_38 (z_bs fun s5 => ?_)
  refine z_aload_n hX dX3_begin_41 rfl 0 rfl ?_
  refine z_iconst (v := 0) hX dX3_begin_42 (by decide) ?_
  refine z_put1 (k := 3) hX (z_scr0 hs) rfl rfl in_X3_begin_X3 (by decide) lk_X3_begin_f43 tyX3 tyX3_ok nmX3 rfl rfl rfl dX3_begin_43 (z_bs fun s6 => ?_)
  refine z_aload_n hX dX3_begin_46 rfl 0 rfl ?_
  refine z_iconst (v := 0) hX dX3_begin_47 (by decide) ?_
  refine z_put1 (k := 7) hX (z_scr0 hs) rfl rfl in_X3_begin_X3 (by decide) lk_X3_begin_f74 tyX3 tyX3_ok nmX3 rfl rfl rfl dX3_begin_48 (z_bs fun s7 => ?_)
  refine z_aload_n hX dX3_begin_51 rfl 0 rfl ?_
  refine z_iconst (v := 0) hX dX3_begin_52 (by decide) ?_
  refine z_put1 (k := 10) hX (z_scr0 hs) rfl rfl in_X3_begin_X3 (by decide) lk_X3_begin_f77 tyX3 tyX3_ok nmX3 rfl rfl rfl dX3_begin_53 (z_bs fun s8 => ?_)
  refine z_aload_n hX dX3_begin_56 rfl 0 rfl ?_
  refine z_iconst (v := 0) hX dX3_begin_57 (by decide) ?_
  refine z_put1 (k := 11) hX (z_scr0 hs) rfl rfl in_X3_begin_X3 (by decide) lk_X3_begin_f81 tyX3 tyX3_ok nmX3 rfl rfl rfl dX3_begin_58 (z_bs fun s9 => ?_)
  exact z_vret hX dX3_begin_61

abbrev rm_X3_refuse : Room := { frames := 0, cells := 0, slots := 0, locals := 0 }
theorem in_X3_refuse_X3 : ∀ w ∈ wsX30, w ∈ wsX3_refuse := fun w h => List.mem_cons_of_mem _ (List.mem_append_right _ h)
theorem lk_X3_refuse_f43 : Cond.fieldLink RX3 43 (TX3 3).1 (TX3 3).2.1 (TX3 3).2.2.1 ∈ wsX3_refuse := by decide +kernel
theorem lk_X3_refuse_f84 : Cond.fieldLink RX3 84 (TX3 9).1 (TX3 9).2.1 (TX3 9).2.2.1 ∈ wsX3_refuse := by decide +kernel
theorem lk_X3_refuse_f59 : Cond.fieldLink RX3 59 (TX3 6).1 (TX3 6).2.1 (TX3 6).2.2.1 ∈ wsX3_refuse := by decide +kernel
set_option maxHeartbeats 4000000 in
set_option maxRecDepth 100000 in
theorem c_X3_refuse (l : Launch) (V : z_V) (hV : z_ok V) (hs : z_isX V) (x1 : Int32) (σ : z_St) : z_CtV l V yX3_refuse wsX3_refuse rm_X3_refuse [.ref (z_ad V 27), .int x1] σ (f_X3_refuse x1 σ) := by
  refine z_startV (lv := [(0, .ref (z_ad V 27)), (1, .int x1)]) hV (by decide) rfl (Nat.le_of_ble_eq_true rfl) rfl ?_
  intro M hM hX
  have hX : z_Cx M V cX3_refuse 2 none wsX3_refuse RX3 := hX
  unfold f_X3_refuse
  refine z_aload_n hX dX3_refuse_0 rfl 0 rfl ?_
  refine z_iload_n hX dX3_refuse_1 rfl 1 rfl ?_
  refine z_put1 (k := 3) hX (z_scr0 hs) rfl rfl in_X3_refuse_X3 (by decide) lk_X3_refuse_f43 tyX3 tyX3_ok nmX3 rfl rfl rfl dX3_refuse_2 (z_bs fun s1 => ?_)
  refine z_aload_n hX dX3_refuse_5 rfl 0 rfl ?_
  refine z_aload_n hX dX3_refuse_6 rfl 0 rfl ?_
  refine z_getI (k := 9) hX (z_scr0 hs) rfl rfl in_X3_refuse_X3 (by decide) lk_X3_refuse_f84 dX3_refuse_7 ?_
  refine z_put1 (k := 6) hX (z_scr0 hs) rfl rfl in_X3_refuse_X3 (by decide) lk_X3_refuse_f59 tyX3 tyX3_ok nmX3 rfl rfl rfl dX3_refuse_10 (z_bs fun s2 => ?_)
  exact z_vret hX dX3_refuse_13

abbrev rm_X3_isLetter : Room := { frames := 0, cells := 0, slots := 0, locals := 0 }
theorem in_X3_isLetter_X3 : ∀ w ∈ wsX30, w ∈ wsX3_isLetter := fun w h => List.mem_cons_of_mem _ (List.mem_append_right _ h)
theorem lk_X3_isLetter_f25 : Cond.fieldLink RX3 25 (TX3 4).1 (TX3 4).2.1 (TX3 4).2.2.1 ∈ wsX3_isLetter := by decide +kernel
set_option maxHeartbeats 4000000 in
set_option maxRecDepth 100000 in
theorem c_X3_isLetter (l : Launch) (V : z_V) (hV : z_ok V) (hs : z_isX V) (x1 : Int32) (σ : z_St) : z_CtI l V yX3_isLetter wsX3_isLetter rm_X3_isLetter [.ref (z_ad V 27), .int x1] σ (f_X3_isLetter x1 σ) := by
  refine z_startI (lv := [(0, .ref (z_ad V 27)), (1, .int x1)]) hV (by decide) rfl (Nat.le_of_ble_eq_true rfl) rfl ?_
  intro M hM hX
  have hX : z_Cx M V cX3_isLetter 2 (some .boolean) wsX3_isLetter RX3 := hX
  unfold f_X3_isLetter
  refine z_aload_n hX dX3_isLetter_0 rfl 0 rfl ?_
  refine z_getR (k := 4) hX (z_scr0 hs) rfl rfl in_X3_isLetter_X3 (by decide) lk_X3_isLetter_f25 dX3_isLetter_1 ?_
  refine z_iload_n hX dX3_isLetter_4 rfl 1 rfl ?_
  refine z_bald hX (z_scr1 hs) dX3_isLetter_5 ?_
  refine z_bipush (v := 97) hX dX3_isLetter_6 (by decide) ?_
  refine z_icmp_lt (tgt := 26) hX dX3_isLetter_8 (by decide) ?_ ?_
  · refine z_iconst (v := 0) hX dX3_isLetter_26 (by decide) ?_
    exact z_zret hX dX3_isLetter_27 rfl
  · refine z_aload_n hX dX3_isLetter_11 rfl 0 rfl ?_
    refine z_getR (k := 4) hX (z_scr0 hs) rfl rfl in_X3_isLetter_X3 (by decide) lk_X3_isLetter_f25 dX3_isLetter_12 ?_
    refine z_iload_n hX dX3_isLetter_15 rfl 1 rfl ?_
    refine z_bald hX (z_scr1 hs) dX3_isLetter_16 ?_
    refine z_bipush (v := 122) hX dX3_isLetter_17 (by decide) ?_
    refine z_icmp_gt (tgt := 26) hX dX3_isLetter_19 (by decide) ?_ ?_
    · refine z_iconst (v := 0) hX dX3_isLetter_26 (by decide) ?_
      exact z_zret hX dX3_isLetter_27 rfl
    · refine z_iconst (v := 1) hX dX3_isLetter_22 (by decide) ?_
      refine z_goto (tgt := 27) hX dX3_isLetter_23 (by decide) ?_
      exact z_zret hX dX3_isLetter_27 rfl

abbrev rm_X3_isFigure : Room := { frames := 0, cells := 0, slots := 0, locals := 0 }
theorem in_X3_isFigure_X3 : ∀ w ∈ wsX30, w ∈ wsX3_isFigure := fun w h => List.mem_cons_of_mem _ (List.mem_append_right _ h)
theorem lk_X3_isFigure_f25 : Cond.fieldLink RX3 25 (TX3 4).1 (TX3 4).2.1 (TX3 4).2.2.1 ∈ wsX3_isFigure := by decide +kernel
set_option maxHeartbeats 4000000 in
set_option maxRecDepth 100000 in
theorem c_X3_isFigure (l : Launch) (V : z_V) (hV : z_ok V) (hs : z_isX V) (x1 : Int32) (σ : z_St) : z_CtI l V yX3_isFigure wsX3_isFigure rm_X3_isFigure [.ref (z_ad V 27), .int x1] σ (f_X3_isFigure x1 σ) := by
  refine z_startI (lv := [(0, .ref (z_ad V 27)), (1, .int x1)]) hV (by decide) rfl (Nat.le_of_ble_eq_true rfl) rfl ?_
  intro M hM hX
  have hX : z_Cx M V cX3_isFigure 2 (some .boolean) wsX3_isFigure RX3 := hX
  unfold f_X3_isFigure
  refine z_aload_n hX dX3_isFigure_0 rfl 0 rfl ?_
  refine z_getR (k := 4) hX (z_scr0 hs) rfl rfl in_X3_isFigure_X3 (by decide) lk_X3_isFigure_f25 dX3_isFigure_1 ?_
  refine z_iload_n hX dX3_isFigure_4 rfl 1 rfl ?_
  refine z_bald hX (z_scr1 hs) dX3_isFigure_5 ?_
  refine z_bipush (v := 48) hX dX3_isFigure_6 (by decide) ?_
  refine z_icmp_lt (tgt := 26) hX dX3_isFigure_8 (by decide) ?_ ?_
  · refine z_iconst (v := 0) hX dX3_isFigure_26 (by decide) ?_
    exact z_zret hX dX3_isFigure_27 rfl
  · refine z_aload_n hX dX3_isFigure_11 rfl 0 rfl ?_
    refine z_getR (k := 4) hX (z_scr0 hs) rfl rfl in_X3_isFigure_X3 (by decide) lk_X3_isFigure_f25 dX3_isFigure_12 ?_
    refine z_iload_n hX dX3_isFigure_15 rfl 1 rfl ?_
    refine z_bald hX (z_scr1 hs) dX3_isFigure_16 ?_
    refine z_bipush (v := 57) hX dX3_isFigure_17 (by decide) ?_
    refine z_icmp_gt (tgt := 26) hX dX3_isFigure_19 (by decide) ?_ ?_
    · refine z_iconst (v := 0) hX dX3_isFigure_26 (by decide) ?_
      exact z_zret hX dX3_isFigure_27 rfl
    · refine z_iconst (v := 1) hX dX3_isFigure_22 (by decide) ?_
      refine z_goto (tgt := 27) hX dX3_isFigure_23 (by decide) ?_
      exact z_zret hX dX3_isFigure_27 rfl

abbrev rm_X3_nextToken : Room := { frames := 1, cells := 0, slots := 0, locals := 21 }
theorem in_X3_nextToken_X3 : ∀ w ∈ wsX30, w ∈ wsX3_nextToken := fun w h => List.mem_cons_of_mem _ (List.mem_append_right _ h)
theorem lk_X3_nextToken_f74 : Cond.fieldLink RX3 74 (TX3 7).1 (TX3 7).2.1 (TX3 7).2.2.1 ∈ wsX3_nextToken := by decide +kernel
theorem lk_X3_nextToken_f33 : Cond.fieldLink RX3 33 (TX3 2).1 (TX3 2).2.1 (TX3 2).2.2.1 ∈ wsX3_nextToken := by decide +kernel
theorem lk_X3_nextToken_f84 : Cond.fieldLink RX3 84 (TX3 9).1 (TX3 9).2.1 (TX3 9).2.2.1 ∈ wsX3_nextToken := by decide +kernel
theorem lk_X3_nextToken_f25 : Cond.fieldLink RX3 25 (TX3 4).1 (TX3 4).2.1 (TX3 4).2.2.1 ∈ wsX3_nextToken := by decide +kernel
theorem lk_X3_nextToken_f46 : Cond.fieldLink RX3 46 (TX3 8).1 (TX3 8).2.1 (TX3 8).2.2.1 ∈ wsX3_nextToken := by decide +kernel
set_option maxHeartbeats 4000000 in
set_option maxRecDepth 100000 in
theorem w_X3_nextToken_167 (M : z_M) (V : z_V) (hs : z_isX V) (hX : z_Cx M V cX3_nextToken 1 none wsX3_nextToken RX3) (σ : z_St) : z_Go M rm_X3_nextToken 1 V (z_QV V) σ 167 [(0, .ref (z_ad V 27))] [] (f_X3_nextToken_167 σ) := by
  unfold f_X3_nextToken_167
  refine z_aload_n hX dX3_nextToken_167 rfl 0 rfl ?_
  refine z_getI (k := 7) hX (z_scr0 hs) rfl rfl in_X3_nextToken_X3 (by decide) lk_X3_nextToken_f74 dX3_nextToken_168 ?_
  refine z_aload_n hX dX3_nextToken_171 rfl 0 rfl ?_
  refine z_getI (k := 9) hX (z_scr0 hs) rfl rfl in_X3_nextToken_X3 (by decide) lk_X3_nextToken_f84 dX3_nextToken_172 ?_
  refine z_isub hX dX3_nextToken_175 ?_
  refine z_iconst (v := 2) hX dX3_nextToken_176 (by decide) ?_
  refine z_icmp_le (tgt := 225) hX dX3_nextToken_177 (by decide) ?_ ?_
  · exact z_vret hX dX3_nextToken_225
  · refine z_aload_n hX dX3_nextToken_180 rfl 0 rfl ?_
    refine z_iconst (v := 1) hX dX3_nextToken_181 (by decide) ?_
    refine z_callVV (n := 1) hX (c_X3_refuse M.2.1 V hX.2.2.2.2.2 hs (1 : Int32) σ) gX3_nextToken_X3_refuse rfl (by decide +kernel) ⟨by decide, by decide⟩ rfl rfl (z_scr0 hs) rfl rfl rfl rfl (Nat.le_of_ble_eq_true rfl) dX3_nextToken_182 (fun r8 _ => ?_)
    refine z_goto (tgt := 225) hX dX3_nextToken_185 (by decide) ?_
    exact z_vret hX dX3_nextToken_225
set_option maxHeartbeats 4000000 in
set_option maxRecDepth 100000 in
theorem w_X3_nextToken_132 (M : z_M) (V : z_V) (hs : z_isX V) (hX : z_Cx M V cX3_nextToken 1 none wsX3_nextToken RX3) : ∀ (n : Nat) (σ : z_St), z_Go M rm_X3_nextToken 1 V (z_QV V) σ 132 [(0, .ref (z_ad V 27))] [] (f_X3_nextToken_132 n σ) := by
  intro n
  induction n with
  | zero => intro σ; exact z_none
  | succ n ih =>
    intro σ
    rw [f_X3_nextToken_132]
    refine z_aload_n hX dX3_nextToken_132 rfl 0 rfl ?_
    refine z_getI (k := 7) hX (z_scr0 hs) rfl rfl in_X3_nextToken_X3 (by decide) lk_X3_nextToken_f74 dX3_nextToken_133 ?_
    refine z_aload_n hX dX3_nextToken_136 rfl 0 rfl ?_
    refine z_getI (k := 2) hX (z_scr0 hs) rfl rfl in_X3_nextToken_X3 (by decide) lk_X3_nextToken_f33 dX3_nextToken_137 ?_
    refine z_icmp_ge (tgt := 167) hX dX3_nextToken_140 (by decide) ?_ ?_
    · exact w_X3_nextToken_167 M V hs hX σ
    · refine z_aload_n hX dX3_nextToken_143 rfl 0 rfl ?_
      refine z_aload_n hX dX3_nextToken_144 rfl 0 rfl ?_
      refine z_getI (k := 7) hX (z_scr0 hs) rfl rfl in_X3_nextToken_X3 (by decide) lk_X3_nextToken_f74 dX3_nextToken_145 ?_
      refine z_callVI (n := 1) hX (c_X3_isFigure M.2.1 V hX.2.2.2.2.2 hs (σ 27 7) σ) gX3_nextToken_X3_isFigure rfl (by decide +kernel) ⟨by decide, by decide⟩ rfl rfl (z_scr0 hs) rfl rfl rfl rfl (Nat.le_of_ble_eq_true rfl) dX3_nextToken_148 (fun r9 _ => ?_)
      refine z_if_eq (tgt := 167) hX dX3_nextToken_151 (by decide) ?_ ?_
      · exact w_X3_nextToken_167 M V hs hX r9.2
      · refine z_aload_n hX dX3_nextToken_154 rfl 0 rfl ?_
        refine z_dup hX dX3_nextToken_155 rfl ?_
        refine z_getI (k := 7) hX (z_scr0 hs) rfl rfl in_X3_nextToken_X3 (by decide) lk_X3_nextToken_f74 dX3_nextToken_156 ?_
        refine z_iconst (v := 1) hX dX3_nextToken_159 (by decide) ?_
        refine z_iadd hX dX3_nextToken_160 ?_
        refine z_put1 (k := 7) hX (z_scr0 hs) rfl rfl in_X3_nextToken_X3 (by decide) lk_X3_nextToken_f74 tyX3 tyX3_ok nmX3 rfl rfl rfl dX3_nextToken_161 (z_bs fun s10 => ?_)
        refine z_goto (tgt := 132) hX dX3_nextToken_164 (by decide) ?_
        exact ih s10
set_option maxHeartbeats 4000000 in
set_option maxRecDepth 100000 in
theorem w_X3_nextToken_81 (M : z_M) (V : z_V) (hs : z_isX V) (hX : z_Cx M V cX3_nextToken 1 none wsX3_nextToken RX3) : ∀ (n : Nat) (σ : z_St), z_Go M rm_X3_nextToken 1 V (z_QV V) σ 81 [(0, .ref (z_ad V 27))] [] (f_X3_nextToken_81 n σ) := by
  intro n
  induction n with
  | zero => intro σ; exact z_none
  | succ n ih =>
    intro σ
    rw [f_X3_nextToken_81]
    refine z_aload_n hX dX3_nextToken_81 rfl 0 rfl ?_
    refine z_getI (k := 7) hX (z_scr0 hs) rfl rfl in_X3_nextToken_X3 (by decide) lk_X3_nextToken_f74 dX3_nextToken_82 ?_
    refine z_aload_n hX dX3_nextToken_85 rfl 0 rfl ?_
    refine z_getI (k := 2) hX (z_scr0 hs) rfl rfl in_X3_nextToken_X3 (by decide) lk_X3_nextToken_f33 dX3_nextToken_86 ?_
    refine z_icmp_ge (tgt := 225) hX dX3_nextToken_89 (by decide) ?_ ?_
    · exact z_vret hX dX3_nextToken_225
    · refine z_aload_n hX dX3_nextToken_92 rfl 0 rfl ?_
      refine z_aload_n hX dX3_nextToken_93 rfl 0 rfl ?_
      refine z_getI (k := 7) hX (z_scr0 hs) rfl rfl in_X3_nextToken_X3 (by decide) lk_X3_nextToken_f74 dX3_nextToken_94 ?_
      refine z_callVI (n := 1) hX (c_X3_isLetter M.2.1 V hX.2.2.2.2.2 hs (σ 27 7) σ) gX3_nextToken_X3_isLetter rfl (by decide +kernel) ⟨by decide, by decide⟩ rfl rfl (z_scr0 hs) rfl rfl rfl rfl (Nat.le_of_ble_eq_true rfl) dX3_nextToken_97 (fun r12 _ => ?_)
      refine z_if_eq (tgt := 225) hX dX3_nextToken_100 (by decide) ?_ ?_
      · exact z_vret hX dX3_nextToken_225
      · refine z_aload_n hX dX3_nextToken_103 rfl 0 rfl ?_
        refine z_dup hX dX3_nextToken_104 rfl ?_
        refine z_getI (k := 7) hX (z_scr0 hs) rfl rfl in_X3_nextToken_X3 (by decide) lk_X3_nextToken_f74 dX3_nextToken_105 ?_
        refine z_iconst (v := 1) hX dX3_nextToken_108 (by decide) ?_
        refine z_iadd hX dX3_nextToken_109 ?_
        refine z_put1 (k := 7) hX (z_scr0 hs) rfl rfl in_X3_nextToken_X3 (by decide) lk_X3_nextToken_f74 tyX3 tyX3_ok nmX3 rfl rfl rfl dX3_nextToken_110 (z_bs fun s13 => ?_)
        refine z_goto (tgt := 81) hX dX3_nextToken_113 (by decide) ?_
        exact ih s13
set_option maxHeartbeats 4000000 in
set_option maxRecDepth 100000 in
theorem w_X3_nextToken_38 (M : z_M) (V : z_V) (hs : z_isX V) (hX : z_Cx M V cX3_nextToken 1 none wsX3_nextToken RX3) (σ : z_St) : z_Go M rm_X3_nextToken 1 V (z_QV V) σ 38 [(0, .ref (z_ad V 27))] [] (f_X3_nextToken_38 σ) := by
  unfold f_X3_nextToken_38
  refine z_aload_n hX dX3_nextToken_38 rfl 0 rfl ?_
  refine z_aload_n hX dX3_nextToken_39 rfl 0 rfl ?_
  refine z_getI (k := 7) hX (z_scr0 hs) rfl rfl in_X3_nextToken_X3 (by decide) lk_X3_nextToken_f74 dX3_nextToken_40 ?_
  refine z_put1 (k := 9) hX (z_scr0 hs) rfl rfl in_X3_nextToken_X3 (by decide) lk_X3_nextToken_f84 tyX3 tyX3_ok nmX3 rfl rfl rfl dX3_nextToken_43 (z_bs fun s1 => ?_)
  refine z_aload_n hX dX3_nextToken_46 rfl 0 rfl ?_
  refine z_getI (k := 7) hX (z_scr0 hs) rfl rfl in_X3_nextToken_X3 (by decide) lk_X3_nextToken_f74 dX3_nextToken_47 ?_
  refine z_aload_n hX dX3_nextToken_50 rfl 0 rfl ?_
  refine z_getI (k := 2) hX (z_scr0 hs) rfl rfl in_X3_nextToken_X3 (by decide) lk_X3_nextToken_f33 dX3_nextToken_51 ?_
  refine z_icmp_lt (tgt := 65) hX dX3_nextToken_54 (by decide) ?_ ?_
  · refine z_aload_n hX dX3_nextToken_65 rfl 0 rfl ?_
    refine z_aload_n hX dX3_nextToken_66 rfl 0 rfl ?_
    refine z_getI (k := 7) hX (z_scr0 hs) rfl rfl in_X3_nextToken_X3 (by decide) lk_X3_nextToken_f74 dX3_nextToken_67 ?_
    refine z_callVI (n := 1) hX (c_X3_isLetter M.2.1 V hX.2.2.2.2.2 hs (s1 27 7) s1) gX3_nextToken_X3_isLetter rfl (by decide +kernel) ⟨by decide, by decide⟩ rfl rfl (z_scr0 hs) rfl rfl rfl rfl (Nat.le_of_ble_eq_true rfl) dX3_nextToken_70 (fun r2 _ => ?_)
    refine z_if_eq (tgt := 116) hX dX3_nextToken_73 (by decide) ?_ ?_
    · refine z_aload_n hX dX3_nextToken_116 rfl 0 rfl ?_
      refine z_aload_n hX dX3_nextToken_117 rfl 0 rfl ?_
      refine z_getI (k := 7) hX (z_scr0 hs) rfl rfl in_X3_nextToken_X3 (by decide) lk_X3_nextToken_f74 dX3_nextToken_118 ?_
      refine z_callVI (n := 1) hX (c_X3_isFigure M.2.1 V hX.2.2.2.2.2 hs (r2.2 27 7) r2.2) gX3_nextToken_X3_isFigure rfl (by decide +kernel) ⟨by decide, by decide⟩ rfl rfl (z_scr0 hs) rfl rfl rfl rfl (Nat.le_of_ble_eq_true rfl) dX3_nextToken_121 (fun r3 _ => ?_)
      refine z_if_eq (tgt := 188) hX dX3_nextToken_124 (by decide) ?_ ?_
      · refine z_aload_n hX dX3_nextToken_188 rfl 0 rfl ?_
        refine z_getR (k := 4) hX (z_scr0 hs) rfl rfl in_X3_nextToken_X3 (by decide) lk_X3_nextToken_f25 dX3_nextToken_189 ?_
        refine z_aload_n hX dX3_nextToken_192 rfl 0 rfl ?_
        refine z_getI (k := 7) hX (z_scr0 hs) rfl rfl in_X3_nextToken_X3 (by decide) lk_X3_nextToken_f74 dX3_nextToken_193 ?_
        refine z_bald hX (z_scr1 hs) dX3_nextToken_196 ?_
        refine z_bipush (v := 59) hX dX3_nextToken_197 (by decide) ?_
        refine z_icmp_ne (tgt := 220) hX dX3_nextToken_199 (by decide) ?_ ?_
        · refine z_aload_n hX dX3_nextToken_220 rfl 0 rfl ?_
          refine z_iconst (v := 1) hX dX3_nextToken_221 (by decide) ?_
          refine z_callVV (n := 1) hX (c_X3_refuse M.2.1 V hX.2.2.2.2.2 hs (1 : Int32) r3.2) gX3_nextToken_X3_refuse rfl (by decide +kernel) ⟨by decide, by decide⟩ rfl rfl (z_scr0 hs) rfl rfl rfl rfl (Nat.le_of_ble_eq_true rfl) dX3_nextToken_222 (fun r4 _ => ?_)
          exact z_vret hX dX3_nextToken_225
        · refine z_aload_n hX dX3_nextToken_202 rfl 0 rfl ?_
          refine z_iconst (v := 2) hX dX3_nextToken_203 (by decide) ?_
          refine z_put1 (k := 8) hX (z_scr0 hs) rfl rfl in_X3_nextToken_X3 (by decide) lk_X3_nextToken_f46 tyX3 tyX3_ok nmX3 rfl rfl rfl dX3_nextToken_204 (z_bs fun s5 => ?_)
          refine z_aload_n hX dX3_nextToken_207 rfl 0 rfl ?_
          refine z_dup hX dX3_nextToken_208 rfl ?_
          refine z_getI (k := 7) hX (z_scr0 hs) rfl rfl in_X3_nextToken_X3 (by decide) lk_X3_nextToken_f74 dX3_nextToken_209 ?_
          refine z_iconst (v := 1) hX dX3_nextToken_212 (by decide) ?_
          refine z_iadd hX dX3_nextToken_213 ?_
          refine z_put1 (k := 7) hX (z_scr0 hs) rfl rfl in_X3_nextToken_X3 (by decide) lk_X3_nextToken_f74 tyX3 tyX3_ok nmX3 rfl rfl rfl dX3_nextToken_214 (z_bs fun s6 => ?_)
          refine z_goto (tgt := 225) hX dX3_nextToken_217 (by decide) ?_
          exact z_vret hX dX3_nextToken_225
      · refine z_aload_n hX dX3_nextToken_127 rfl 0 rfl ?_
        refine z_iconst (v := 1) hX dX3_nextToken_128 (by decide) ?_
        refine z_put1 (k := 8) hX (z_scr0 hs) rfl rfl in_X3_nextToken_X3 (by decide) lk_X3_nextToken_f46 tyX3 tyX3_ok nmX3 rfl rfl rfl dX3_nextToken_129 (z_bs fun s7 => ?_)
        exact w_X3_nextToken_132 M V hs hX 200 s7
    · refine z_aload_n hX dX3_nextToken_76 rfl 0 rfl ?_
      refine z_iconst (v := 0) hX dX3_nextToken_77 (by decide) ?_
      refine z_put1 (k := 8) hX (z_scr0 hs) rfl rfl in_X3_nextToken_X3 (by decide) lk_X3_nextToken_f46 tyX3 tyX3_ok nmX3 rfl rfl rfl dX3_nextToken_78 (z_bs fun s11 => ?_)
      exact w_X3_nextToken_81 M V hs hX 200 s11
  · refine z_aload_n hX dX3_nextToken_57 rfl 0 rfl ?_
    refine z_iconst (v := 3) hX dX3_nextToken_58 (by decide) ?_
    refine z_put1 (k := 8) hX (z_scr0 hs) rfl rfl in_X3_nextToken_X3 (by decide) lk_X3_nextToken_f46 tyX3 tyX3_ok nmX3 rfl rfl rfl dX3_nextToken_59 (z_bs fun s14 => ?_)
    refine z_goto (tgt := 225) hX dX3_nextToken_62 (by decide) ?_
    exact z_vret hX dX3_nextToken_225
set_option maxHeartbeats 4000000 in
set_option maxRecDepth 100000 in
theorem w_X3_nextToken_0 (M : z_M) (V : z_V) (hs : z_isX V) (hX : z_Cx M V cX3_nextToken 1 none wsX3_nextToken RX3) : ∀ (n : Nat) (σ : z_St), z_Go M rm_X3_nextToken 1 V (z_QV V) σ 0 [(0, .ref (z_ad V 27))] [] (f_X3_nextToken_0 n σ) := by
  intro n
  induction n with
  | zero => intro σ; exact z_none
  | succ n ih =>
    intro σ
    rw [f_X3_nextToken_0]
    refine z_aload_n hX dX3_nextToken_0 rfl 0 rfl ?_
    refine z_getI (k := 7) hX (z_scr0 hs) rfl rfl in_X3_nextToken_X3 (by decide) lk_X3_nextToken_f74 dX3_nextToken_1 ?_
    refine z_aload_n hX dX3_nextToken_4 rfl 0 rfl ?_
    refine z_getI (k := 2) hX (z_scr0 hs) rfl rfl in_X3_nextToken_X3 (by decide) lk_X3_nextToken_f33 dX3_nextToken_5 ?_
    refine z_icmp_ge (tgt := 38) hX dX3_nextToken_8 (by decide) ?_ ?_
    · exact w_X3_nextToken_38 M V hs hX σ
    · refine z_aload_n hX dX3_nextToken_11 rfl 0 rfl ?_
      refine z_getR (k := 4) hX (z_scr0 hs) rfl rfl in_X3_nextToken_X3 (by decide) lk_X3_nextToken_f25 dX3_nextToken_12 ?_
      refine z_aload_n hX dX3_nextToken_15 rfl 0 rfl ?_
      refine z_getI (k := 7) hX (z_scr0 hs) rfl rfl in_X3_nextToken_X3 (by decide) lk_X3_nextToken_f74 dX3_nextToken_16 ?_
      refine z_bald hX (z_scr1 hs) dX3_nextToken_19 ?_
      refine z_bipush (v := 32) hX dX3_nextToken_20 (by decide) ?_
      refine z_icmp_ne (tgt := 38) hX dX3_nextToken_22 (by decide) ?_ ?_
      · exact w_X3_nextToken_38 M V hs hX σ
      · refine z_aload_n hX dX3_nextToken_25 rfl 0 rfl ?_
        refine z_dup hX dX3_nextToken_26 rfl ?_
        refine z_getI (k := 7) hX (z_scr0 hs) rfl rfl in_X3_nextToken_X3 (by decide) lk_X3_nextToken_f74 dX3_nextToken_27 ?_
        refine z_iconst (v := 1) hX dX3_nextToken_30 (by decide) ?_
        refine z_iadd hX dX3_nextToken_31 ?_
        refine z_put1 (k := 7) hX (z_scr0 hs) rfl rfl in_X3_nextToken_X3 (by decide) lk_X3_nextToken_f74 tyX3 tyX3_ok nmX3 rfl rfl rfl dX3_nextToken_32 (z_bs fun s15 => ?_)
        refine z_goto (tgt := 0) hX dX3_nextToken_35 (by decide) ?_
        exact ih s15
set_option maxHeartbeats 4000000 in
set_option maxRecDepth 100000 in
theorem c_X3_nextToken (l : Launch) (V : z_V) (hV : z_ok V) (hs : z_isX V) (σ : z_St) : z_CtV l V yX3_nextToken wsX3_nextToken rm_X3_nextToken [.ref (z_ad V 27)] σ (f_X3_nextToken σ) := by
  refine z_startV (lv := [(0, .ref (z_ad V 27))]) hV (by decide) rfl (Nat.le_of_ble_eq_true rfl) rfl ?_
  intro M hM hX
  have hX : z_Cx M V cX3_nextToken 1 none wsX3_nextToken RX3 := hX
  unfold f_X3_nextToken
  exact w_X3_nextToken_0 M V hs hX 200 σ

abbrev rm_X3_expect : Room := { frames := 2, cells := 0, slots := 0, locals := 41 }
theorem in_X3_expect_X3 : ∀ w ∈ wsX30, w ∈ wsX3_expect := fun w h => List.mem_cons_of_mem _ (List.mem_append_right _ h)
theorem lk_X3_expect_f43 : Cond.fieldLink RX3 43 (TX3 3).1 (TX3 3).2.1 (TX3 3).2.2.1 ∈ wsX3_expect := by decide +kernel
theorem lk_X3_expect_f46 : Cond.fieldLink RX3 46 (TX3 8).1 (TX3 8).2.1 (TX3 8).2.2.1 ∈ wsX3_expect := by decide +kernel
set_option maxHeartbeats 4000000 in
set_option maxRecDepth 100000 in
theorem c_X3_expect (l : Launch) (V : z_V) (hV : z_ok V) (hs : z_isX V) (x1 : Int32) (σ : z_St) : z_CtV l V yX3_expect wsX3_expect rm_X3_expect [.ref (z_ad V 27), .int x1] σ (f_X3_expect x1 σ) := by
  refine z_startV (lv := [(0, .ref (z_ad V 27)), (1, .int x1)]) hV (by decide) rfl (Nat.le_of_ble_eq_true rfl) rfl ?_
  intro M hM hX
  have hX : z_Cx M V cX3_expect 2 none wsX3_expect RX3 := hX
  unfold f_X3_expect
  refine z_aload_n hX dX3_expect_0 rfl 0 rfl ?_
  refine z_callVV (n := 0) hX (c_X3_nextToken M.2.1 V hX.2.2.2.2.2 hs σ) gX3_expect_X3_nextToken rfl (by decide +kernel) ⟨by decide, by decide⟩ rfl rfl (z_scr0 hs) rfl rfl rfl rfl (Nat.le_of_ble_eq_true rfl) dX3_expect_1 (fun r1 _ => ?_)
  refine z_aload_n hX dX3_expect_4 rfl 0 rfl ?_
  refine z_getI (k := 3) hX (z_scr0 hs) rfl rfl in_X3_expect_X3 (by decide) lk_X3_expect_f43 dX3_expect_5 ?_
  refine z_if_ne (tgt := 24) hX dX3_expect_8 (by decide) ?_ ?_
  · exact z_vret hX dX3_expect_24
  · refine z_aload_n hX dX3_expect_11 rfl 0 rfl ?_
    refine z_getI (k := 8) hX (z_scr0 hs) rfl rfl in_X3_expect_X3 (by decide) lk_X3_expect_f46 dX3_expect_12 ?_
    refine z_iload_n hX dX3_expect_15 rfl 1 rfl ?_
    refine z_icmp_eq (tgt := 24) hX dX3_expect_16 (by decide) ?_ ?_
    · exact z_vret hX dX3_expect_24
    · refine z_aload_n hX dX3_expect_19 rfl 0 rfl ?_
      refine z_iconst (v := 2) hX dX3_expect_20 (by decide) ?_
      refine z_callVV (n := 1) hX (c_X3_refuse M.2.1 V hX.2.2.2.2.2 hs (2 : Int32) r1.2) gX3_expect_X3_refuse rfl (by decide +kernel) ⟨by decide, by decide⟩ rfl rfl (z_scr0 hs) rfl rfl rfl rfl (Nat.le_of_ble_eq_true rfl) dX3_expect_21 (fun r2 _ => ?_)
      exact z_vret hX dX3_expect_24

abbrev rm_X3_readNumber : Room := { frames := 3, cells := 0, slots := 0, locals := 62 }
theorem in_X3_readNumber_X3 : ∀ w ∈ wsX30, w ∈ wsX3_readNumber := fun w h => List.mem_cons_of_mem _ (List.mem_append_right _ h)
theorem lk_X3_readNumber_f43 : Cond.fieldLink RX3 43 (TX3 3).1 (TX3 3).2.1 (TX3 3).2.2.1 ∈ wsX3_readNumber := by decide +kernel
theorem lk_X3_readNumber_f84 : Cond.fieldLink RX3 84 (TX3 9).1 (TX3 9).2.1 (TX3 9).2.2.1 ∈ wsX3_readNumber := by decide +kernel
theorem lk_X3_readNumber_f74 : Cond.fieldLink RX3 74 (TX3 7).1 (TX3 7).2.1 (TX3 7).2.2.1 ∈ wsX3_readNumber := by decide +kernel
theorem lk_X3_readNumber_f25 : Cond.fieldLink RX3 25 (TX3 4).1 (TX3 4).2.1 (TX3 4).2.2.1 ∈ wsX3_readNumber := by decide +kernel
set_option maxHeartbeats 4000000 in
set_option maxRecDepth 100000 in
theorem w_X3_readNumber_21 (M : z_M) (V : z_V) (hs : z_isX V) (hX : z_Cx M V cX3_readNumber 4 (some .int) wsX3_readNumber RX3) : ∀ (n : Nat) (x1 : Int32) (x2 : Int32) (x3 : Int32) (σ : z_St), z_Go M rm_X3_readNumber 4 V (z_QI V) σ 21 [(0, .ref (z_ad V 27)), (1, .int x1), (2, .int x2), (3, .int x3)] [] (f_X3_readNumber_21 n x1 x2 x3 σ) := by
  intro n
  induction n with
  | zero => intro x1 x2 x3 σ; exact z_none
  | succ n ih =>
    intro x1 x2 x3 σ
    rw [f_X3_readNumber_21]
    refine z_iload_n hX dX3_readNumber_21 rfl 3 rfl ?_
    refine z_aload_n hX dX3_readNumber_22 rfl 0 rfl ?_
    refine z_getI (k := 7) hX (z_scr0 hs) rfl rfl in_X3_readNumber_X3 (by decide) lk_X3_readNumber_f74 dX3_readNumber_23 ?_
    refine z_icmp_ge (tgt := 50) hX dX3_readNumber_26 (by decide) ?_ ?_
    · refine z_iload_n hX dX3_readNumber_50 rfl 2 rfl ?_
      refine z_iload_n hX dX3_readNumber_51 rfl 1 rfl ?_
      refine z_icmp_le (tgt := 60) hX dX3_readNumber_52 (by decide) ?_ ?_
      · refine z_iload_n hX dX3_readNumber_60 rfl 2 rfl ?_
        exact z_iret hX dX3_readNumber_61
      · refine z_aload_n hX dX3_readNumber_55 rfl 0 rfl ?_
        refine z_iconst (v := 3) hX dX3_readNumber_56 (by decide) ?_
        refine z_callVV (n := 1) hX (c_X3_refuse M.2.1 V hX.2.2.2.2.2 hs (3 : Int32) σ) gX3_readNumber_X3_refuse rfl (by decide +kernel) ⟨by decide, by decide⟩ rfl rfl (z_scr0 hs) rfl rfl rfl rfl (Nat.le_of_ble_eq_true rfl) dX3_readNumber_57 (fun r2 _ => ?_)
        refine z_iload_n hX dX3_readNumber_60 rfl 2 rfl ?_
        exact z_iret hX dX3_readNumber_61
    · refine z_iload_n hX dX3_readNumber_29 rfl 2 rfl ?_
      refine z_bipush (v := 10) hX dX3_readNumber_30 (by decide) ?_
      refine z_imul hX dX3_readNumber_32 ?_
      refine z_aload_n hX dX3_readNumber_33 rfl 0 rfl ?_
      refine z_getR (k := 4) hX (z_scr0 hs) rfl rfl in_X3_readNumber_X3 (by decide) lk_X3_readNumber_f25 dX3_readNumber_34 ?_
      refine z_iload_n hX dX3_readNumber_37 rfl 3 rfl ?_
      refine z_bald hX (z_scr1 hs) dX3_readNumber_38 ?_
      refine z_iadd hX dX3_readNumber_39 ?_
      refine z_bipush (v := 48) hX dX3_readNumber_40 (by decide) ?_
      refine z_isub hX dX3_readNumber_42 ?_
      refine z_top (fun v3 => ?_)
      refine z_istore_n (lv' := [(2, .int v3), (0, .ref (z_ad V 27)), (1, .int x1), (3, .int x3)]) hX dX3_readNumber_43 rfl (by decide) rfl ?_
      refine z_iinc (v := (x3 + 1)) (lv' := [(3, .int (x3 + 1)), (2, .int v3), (0, .ref (z_ad V 27)), (1, .int x1)]) hX dX3_readNumber_44 3 rfl rfl (by decide) rfl ?_
      refine z_goto (tgt := 21) hX dX3_readNumber_47 (by decide) ?_
      refine z_sub [2, 3, 1, 0] rfl ?_
      exact ih x1 v3 (x3 + 1) σ
set_option maxHeartbeats 4000000 in
set_option maxRecDepth 100000 in
theorem c_X3_readNumber (l : Launch) (V : z_V) (hV : z_ok V) (hs : z_isX V) (x1 : Int32) (σ : z_St) : z_CtI l V yX3_readNumber wsX3_readNumber rm_X3_readNumber [.ref (z_ad V 27), .int x1] σ (f_X3_readNumber x1 σ) := by
  refine z_startI (lv := [(0, .ref (z_ad V 27)), (1, .int x1)]) hV (by decide) rfl (Nat.le_of_ble_eq_true rfl) rfl ?_
  intro M hM hX
  have hX : z_Cx M V cX3_readNumber 4 (some .int) wsX3_readNumber RX3 := hX
  unfold f_X3_readNumber
  refine z_aload_n hX dX3_readNumber_0 rfl 0 rfl ?_
  refine z_iconst (v := 1) hX dX3_readNumber_1 (by decide) ?_
  refine z_callVV (n := 1) hX (c_X3_expect M.2.1 V hX.2.2.2.2.2 hs (1 : Int32) σ) gX3_readNumber_X3_expect rfl (by decide +kernel) ⟨by decide, by decide⟩ rfl rfl (z_scr0 hs) rfl rfl rfl rfl (Nat.le_of_ble_eq_true rfl) dX3_readNumber_2 (fun r1 _ => ?_)
  refine z_aload_n hX dX3_readNumber_5 rfl 0 rfl ?_
  refine z_getI (k := 3) hX (z_scr0 hs) rfl rfl in_X3_readNumber_X3 (by decide) lk_X3_readNumber_f43 dX3_readNumber_6 ?_
  refine z_if_eq (tgt := 14) hX dX3_readNumber_9 (by decide) ?_ ?_
  · refine z_iconst (v := 0) hX dX3_readNumber_14 (by decide) ?_
    refine z_istore_n (lv' := [(2, .int (0 : Int32)), (0, .ref (z_ad V 27)), (1, .int x1)]) hX dX3_readNumber_15 rfl (by decide) rfl ?_
    refine z_aload_n hX dX3_readNumber_16 rfl 1 rfl ?_
    refine z_getI (k := 9) hX (z_scr0 hs) rfl rfl in_X3_readNumber_X3 (by decide) lk_X3_readNumber_f84 dX3_readNumber_17 ?_
    refine z_istore_n (lv' := [(3, .int (r1.2 27 9)), (2, .int (0 : Int32)), (0, .ref (z_ad V 27)), (1, .int x1)]) hX dX3_readNumber_20 rfl (by decide) rfl ?_
    refine z_sub [2, 3, 1, 0] rfl ?_
    exact w_X3_readNumber_21 M V hs hX 200 x1 (0 : Int32) (r1.2 27 9) r1.2
  · refine z_iconst (v := 0) hX dX3_readNumber_12 (by decide) ?_
    exact z_iret hX dX3_readNumber_13

abbrev rm_X3_isWord : Room := { frames := 4, cells := 0, slots := 0, locals := 85 }
theorem in_X3_isWord_X3 : ∀ w ∈ wsX30, w ∈ wsX3_isWord := fun w h => List.mem_cons_of_mem _ (List.mem_append_right _ h)
theorem lk_X3_isWord_f74 : Cond.fieldLink RX3 74 (TX3 7).1 (TX3 7).2.1 (TX3 7).2.2.1 ∈ wsX3_isWord := by decide +kernel
theorem lk_X3_isWord_f84 : Cond.fieldLink RX3 84 (TX3 9).1 (TX3 9).2.1 (TX3 9).2.2.1 ∈ wsX3_isWord := by decide +kernel
theorem lk_X3_isWord_f25 : Cond.fieldLink RX3 25 (TX3 4).1 (TX3 4).2.1 (TX3 4).2.2.1 ∈ wsX3_isWord := by decide +kernel
set_option maxHeartbeats 4000000 in
set_option maxRecDepth 100000 in
theorem w_X3_isWord_20 (M : z_M) (V : z_V) (hs : z_isX V) (hX : z_Cx M V cX3_isWord 3 (some .boolean) wsX3_isWord RX3) (o1 : Nat) (ho1 : o1 < 8) : ∀ (n : Nat) (x2 : Int32) (σ : z_St), z_Go M rm_X3_isWord 3 V (z_QI V) σ 20 [(0, .ref (z_ad V 27)), (1, .ref (z_ad V (1000 + o1))), (2, .int x2)] [] (f_X3_isWord_20 o1 n x2 σ) := by
  intro n
  induction n with
  | zero => intro x2 σ; exact z_none
  | succ n ih =>
    intro x2 σ
    rw [f_X3_isWord_20]
    refine z_iload_n hX dX3_isWord_20 rfl 2 rfl ?_
    refine z_aload_n hX dX3_isWord_21 rfl 1 rfl ?_
    refine z_callKI (n := 0) hs hX ho1 (c_J0_length_8abf5 M.2.1 V hX.2.2.2.2.2 hs o1 ho1 σ) gX3_isWord_J0_length_8abf5 rfl (by decide +kernel) ⟨by decide, by decide⟩ rfl rfl rfl rfl (Nat.le_of_ble_eq_true rfl) dX3_isWord_22 (fun r2 _ => ?_)
    refine z_icmp_ge (tgt := 55) hX dX3_isWord_25 (by decide) ?_ ?_
    · refine z_iconst (v := 1) hX dX3_isWord_55 (by decide) ?_
      exact z_zret hX dX3_isWord_56 rfl
    · refine z_aload_n hX dX3_isWord_28 rfl 0 rfl ?_
      refine z_getR (k := 4) hX (z_scr0 hs) rfl rfl in_X3_isWord_X3 (by decide) lk_X3_isWord_f25 dX3_isWord_29 ?_
      refine z_aload_n hX dX3_isWord_32 rfl 0 rfl ?_
      refine z_getI (k := 9) hX (z_scr0 hs) rfl rfl in_X3_isWord_X3 (by decide) lk_X3_isWord_f84 dX3_isWord_33 ?_
      refine z_iload_n hX dX3_isWord_36 rfl 2 rfl ?_
      refine z_iadd hX dX3_isWord_37 ?_
      refine z_bald hX (z_scr1 hs) dX3_isWord_38 ?_
      refine z_aload_n hX dX3_isWord_39 rfl 1 rfl ?_
      refine z_iload_n hX dX3_isWord_40 rfl 2 rfl ?_
      refine z_callKI (n := 1) hs hX ho1 (c_J0_charAt_5068e M.2.1 V hX.2.2.2.2.2 hs o1 ho1 x2 r2.2) gX3_isWord_J0_charAt_5068e rfl (by decide +kernel) ⟨by decide, by decide⟩ rfl rfl rfl rfl (Nat.le_of_ble_eq_true rfl) dX3_isWord_41 (fun r3 _ => ?_)
      refine z_icmp_eq (tgt := 49) hX dX3_isWord_44 (by decide) ?_ ?_
      · refine z_iinc (v := (x2 + 1)) (lv' := [(2, .int (x2 + 1)), (0, .ref (z_ad V 27)), (1, .ref (z_ad V (1000 + o1)))]) hX dX3_isWord_49 2 rfl rfl (by decide) rfl ?_
        refine z_goto (tgt := 20) hX dX3_isWord_52 (by decide) ?_
        refine z_sub [1, 2, 0] rfl ?_
        exact ih (x2 + 1) r3.2
      · refine z_iconst (v := 0) hX dX3_isWord_47 (by decide) ?_
        exact z_zret hX dX3_isWord_48 rfl
set_option maxHeartbeats 4000000 in
set_option maxRecDepth 100000 in
theorem c_X3_isWord (l : Launch) (V : z_V) (hV : z_ok V) (hs : z_isX V) (o1 : Nat) (ho1 : o1 < 8) (σ : z_St) : z_CtI l V yX3_isWord wsX3_isWord rm_X3_isWord [.ref (z_ad V 27), .ref (z_ad V (1000 + o1))] σ (f_X3_isWord o1 σ) := by
  refine z_startI (lv := [(0, .ref (z_ad V 27)), (1, .ref (z_ad V (1000 + o1)))]) hV (by decide) rfl (Nat.le_of_ble_eq_true rfl) rfl ?_
  intro M hM hX
  have hX : z_Cx M V cX3_isWord 3 (some .boolean) wsX3_isWord RX3 := hX
  unfold f_X3_isWord
  refine z_aload_n hX dX3_isWord_0 rfl 1 rfl ?_
  refine z_callKI (n := 0) hs hX ho1 (c_J0_length_8abf5 M.2.1 V hX.2.2.2.2.2 hs o1 ho1 σ) gX3_isWord_J0_length_8abf5 rfl (by decide +kernel) ⟨by decide, by decide⟩ rfl rfl rfl rfl (Nat.le_of_ble_eq_true rfl) dX3_isWord_1 (fun r1 _ => ?_)
  refine z_aload_n hX dX3_isWord_4 rfl 0 rfl ?_
  refine z_getI (k := 7) hX (z_scr0 hs) rfl rfl in_X3_isWord_X3 (by decide) lk_X3_isWord_f74 dX3_isWord_5 ?_
  refine z_aload_n hX dX3_isWord_8 rfl 0 rfl ?_
  refine z_getI (k := 9) hX (z_scr0 hs) rfl rfl in_X3_isWord_X3 (by decide) lk_X3_isWord_f84 dX3_isWord_9 ?_
  refine z_isub hX dX3_isWord_12 ?_
  refine z_icmp_eq (tgt := 18) hX dX3_isWord_13 (by decide) ?_ ?_
  · refine z_iconst (v := 0) hX dX3_isWord_18 (by decide) ?_
    refine z_istore_n (lv' := [(2, .int (0 : Int32)), (0, .ref (z_ad V 27)), (1, .ref (z_ad V (1000 + o1)))]) hX dX3_isWord_19 rfl (by decide) rfl ?_
    refine z_sub [1, 2, 0] rfl ?_
    exact w_X3_isWord_20 M V hs hX o1 ho1 200 (0 : Int32) r1.2
  · refine z_iconst (v := 0) hX dX3_isWord_16 (by decide) ?_
    exact z_zret hX dX3_isWord_17 rfl

abbrev rm_X3_wordRead : Room := { frames := 5, cells := 0, slots := 0, locals := 107 }
set_option maxHeartbeats 4000000 in
set_option maxRecDepth 100000 in
theorem c_X3_wordRead (l : Launch) (V : z_V) (hV : z_ok V) (hs : z_isX V) (σ : z_St) : z_CtI l V yX3_wordRead wsX3_wordRead rm_X3_wordRead [.ref (z_ad V 27)] σ (f_X3_wordRead σ) := by
  refine z_startI (lv := [(0, .ref (z_ad V 27))]) hV (by decide) rfl (Nat.le_of_ble_eq_true rfl) rfl ?_
  intro M hM hX
  have hX : z_Cx M V cX3_wordRead 1 (some .int) wsX3_wordRead RX3 := hX
  unfold f_X3_wordRead
  refine z_aload_n hX dX3_wordRead_0 rfl 0 rfl ?_
  refine z_ldcs hs hX 0 (by decide) rfl dX3_wordRead_1 ?_
  refine z_callVI (n := 1) hX (c_X3_isWord M.2.1 V hX.2.2.2.2.2 hs 0 (by decide) σ) gX3_wordRead_X3_isWord rfl (by decide +kernel) ⟨by decide, by decide⟩ rfl rfl (z_scr0 hs) rfl rfl rfl rfl (Nat.le_of_ble_eq_true rfl) dX3_wordRead_3 (fun r1 _ => ?_)
  refine z_if_eq (tgt := 11) hX dX3_wordRead_6 (by decide) ?_ ?_
  · refine z_aload_n hX dX3_wordRead_11 rfl 0 rfl ?_
    refine z_ldcs hs hX 1 (by decide) rfl dX3_wordRead_12 ?_
    refine z_callVI (n := 1) hX (c_X3_isWord M.2.1 V hX.2.2.2.2.2 hs 1 (by decide) r1.2) gX3_wordRead_X3_isWord rfl (by decide +kernel) ⟨by decide, by decide⟩ rfl rfl (z_scr0 hs) rfl rfl rfl rfl (Nat.le_of_ble_eq_true rfl) dX3_wordRead_14 (fun r2 _ => ?_)
    refine z_if_eq (tgt := 22) hX dX3_wordRead_17 (by decide) ?_ ?_
    · refine z_aload_n hX dX3_wordRead_22 rfl 0 rfl ?_
      refine z_ldcs hs hX 2 (by decide) rfl dX3_wordRead_23 ?_
      refine z_callVI (n := 1) hX (c_X3_isWord M.2.1 V hX.2.2.2.2.2 hs 2 (by decide) r2.2) gX3_wordRead_X3_isWord rfl (by decide +kernel) ⟨by decide, by decide⟩ rfl rfl (z_scr0 hs) rfl rfl rfl rfl (Nat.le_of_ble_eq_true rfl) dX3_wordRead_25 (fun r3 _ => ?_)
      refine z_if_eq (tgt := 33) hX dX3_wordRead_28 (by decide) ?_ ?_
      · refine z_aload_n hX dX3_wordRead_33 rfl 0 rfl ?_
        refine z_ldcs hs hX 3 (by decide) rfl dX3_wordRead_34 ?_
        refine z_callVI (n := 1) hX (c_X3_isWord M.2.1 V hX.2.2.2.2.2 hs 3 (by decide) r3.2) gX3_wordRead_X3_isWord rfl (by decide +kernel) ⟨by decide, by decide⟩ rfl rfl (z_scr0 hs) rfl rfl rfl rfl (Nat.le_of_ble_eq_true rfl) dX3_wordRead_36 (fun r4 _ => ?_)
        refine z_if_eq (tgt := 44) hX dX3_wordRead_39 (by decide) ?_ ?_
        · refine z_aload_n hX dX3_wordRead_44 rfl 0 rfl ?_
          refine z_ldcs hs hX 4 (by decide) rfl dX3_wordRead_45 ?_
          refine z_callVI (n := 1) hX (c_X3_isWord M.2.1 V hX.2.2.2.2.2 hs 4 (by decide) r4.2) gX3_wordRead_X3_isWord rfl (by decide +kernel) ⟨by decide, by decide⟩ rfl rfl (z_scr0 hs) rfl rfl rfl rfl (Nat.le_of_ble_eq_true rfl) dX3_wordRead_47 (fun r5 _ => ?_)
          refine z_if_eq (tgt := 55) hX dX3_wordRead_50 (by decide) ?_ ?_
          · refine z_aload_n hX dX3_wordRead_55 rfl 0 rfl ?_
            refine z_ldcs hs hX 5 (by decide) rfl dX3_wordRead_56 ?_
            refine z_callVI (n := 1) hX (c_X3_isWord M.2.1 V hX.2.2.2.2.2 hs 5 (by decide) r5.2) gX3_wordRead_X3_isWord rfl (by decide +kernel) ⟨by decide, by decide⟩ rfl rfl (z_scr0 hs) rfl rfl rfl rfl (Nat.le_of_ble_eq_true rfl) dX3_wordRead_58 (fun r6 _ => ?_)
            refine z_if_eq (tgt := 66) hX dX3_wordRead_61 (by decide) ?_ ?_
            · refine z_aload_n hX dX3_wordRead_66 rfl 0 rfl ?_
              refine z_ldcs hs hX 6 (by decide) rfl dX3_wordRead_67 ?_
              refine z_callVI (n := 1) hX (c_X3_isWord M.2.1 V hX.2.2.2.2.2 hs 6 (by decide) r6.2) gX3_wordRead_X3_isWord rfl (by decide +kernel) ⟨by decide, by decide⟩ rfl rfl (z_scr0 hs) rfl rfl rfl rfl (Nat.le_of_ble_eq_true rfl) dX3_wordRead_69 (fun r7 _ => ?_)
              refine z_if_eq (tgt := 78) hX dX3_wordRead_72 (by decide) ?_ ?_
              · refine z_aload_n hX dX3_wordRead_78 rfl 0 rfl ?_
                refine z_ldcs hs hX 7 (by decide) rfl dX3_wordRead_79 ?_
                refine z_callVI (n := 1) hX (c_X3_isWord M.2.1 V hX.2.2.2.2.2 hs 7 (by decide) r7.2) gX3_wordRead_X3_isWord rfl (by decide +kernel) ⟨by decide, by decide⟩ rfl rfl (z_scr0 hs) rfl rfl rfl rfl (Nat.le_of_ble_eq_true rfl) dX3_wordRead_81 (fun r8 _ => ?_)
                refine z_if_eq (tgt := 92) hX dX3_wordRead_84 (by decide) ?_ ?_
                · refine z_iconst (v := -1) hX dX3_wordRead_92 (by decide) ?_
                  exact z_iret hX dX3_wordRead_93
                · refine z_bipush (v := 7) hX dX3_wordRead_87 (by decide) ?_
                  refine z_goto (tgt := 93) hX dX3_wordRead_89 (by decide) ?_
                  exact z_iret hX dX3_wordRead_93
              · refine z_bipush (v := 6) hX dX3_wordRead_75 (by decide) ?_
                exact z_iret hX dX3_wordRead_77
            · refine z_iconst (v := 5) hX dX3_wordRead_64 (by decide) ?_
              exact z_iret hX dX3_wordRead_65
          · refine z_iconst (v := 4) hX dX3_wordRead_53 (by decide) ?_
            exact z_iret hX dX3_wordRead_54
        · refine z_iconst (v := 3) hX dX3_wordRead_42 (by decide) ?_
          exact z_iret hX dX3_wordRead_43
      · refine z_iconst (v := 2) hX dX3_wordRead_31 (by decide) ?_
        exact z_iret hX dX3_wordRead_32
    · refine z_iconst (v := 1) hX dX3_wordRead_20 (by decide) ?_
      exact z_iret hX dX3_wordRead_21
  · refine z_iconst (v := 0) hX dX3_wordRead_9 (by decide) ?_
    exact z_iret hX dX3_wordRead_10

abbrev rm_X3_faultOfWord : Room := { frames := 0, cells := 0, slots := 0, locals := 0 }
theorem in_X3_faultOfWord_X1 : ∀ w ∈ wsX10, w ∈ wsX3_faultOfWord := fun w h => List.mem_cons_of_mem _ (List.mem_append_right _ h)
theorem in_X3_faultOfWord_X3 : ∀ w ∈ wsX30, w ∈ wsX3_faultOfWord := fun w h => List.mem_cons_of_mem _ (List.mem_append_left _ (List.mem_append_left _ (List.mem_append_right _ h)))
theorem in_X3_faultOfWord_X5 : ∀ w ∈ wsX50, w ∈ wsX3_faultOfWord := fun w h => List.mem_cons_of_mem _ (List.mem_append_left _ (List.mem_append_right _ h))
theorem lk_X3_faultOfWord_f12 : Cond.fieldLink RX3 12 (TX3 0).1 (TX3 0).2.1 (TX3 0).2.2.1 ∈ wsX3_faultOfWord := by decide +kernel
theorem lk_X3_faultOfWord_f62 : Cond.fieldLink RX3 62 (TX5 0).1 (TX5 0).2.1 (TX5 0).2.2.1 ∈ wsX3_faultOfWord := by decide +kernel
theorem lk_X3_faultOfWord_f65 : Cond.fieldLink RX3 65 (TX5 4).1 (TX5 4).2.1 (TX5 4).2.2.1 ∈ wsX3_faultOfWord := by decide +kernel
theorem lk_X3_faultOfWord_f77 : Cond.fieldLink RX3 77 (TX3 10).1 (TX3 10).2.1 (TX3 10).2.2.1 ∈ wsX3_faultOfWord := by decide +kernel
theorem lk_X3_faultOfWord_f81 : Cond.fieldLink RX3 81 (TX3 11).1 (TX3 11).2.1 (TX3 11).2.2.1 ∈ wsX3_faultOfWord := by decide +kernel
theorem lk_X3_faultOfWord_f21 : Cond.fieldLink RX3 21 (TX3 1).1 (TX3 1).2.1 (TX3 1).2.2.1 ∈ wsX3_faultOfWord := by decide +kernel
theorem lk_X3_faultOfWord_f52 : Cond.fieldLink RX3 52 (TX1 0).1 (TX1 0).2.1 (TX1 0).2.2.1 ∈ wsX3_faultOfWord := by decide +kernel
set_option maxHeartbeats 4000000 in
set_option maxRecDepth 100000 in
theorem c_X3_faultOfWord (l : Launch) (V : z_V) (hV : z_ok V) (hs : z_isX V) (x1 : Int32) (σ : z_St) : z_CtI l V yX3_faultOfWord wsX3_faultOfWord rm_X3_faultOfWord [.ref (z_ad V 27), .int x1] σ (f_X3_faultOfWord x1 σ) := by
  refine z_startI (lv := [(0, .ref (z_ad V 27)), (1, .int x1)]) hV (by decide) rfl (Nat.le_of_ble_eq_true rfl) rfl ?_
  intro M hM hX
  have hX : z_Cx M V cX3_faultOfWord 2 (some .int) wsX3_faultOfWord RX3 := hX
  unfold f_X3_faultOfWord
  refine z_iload_n hX dX3_faultOfWord_0 rfl 1 rfl ?_
  refine z_case (fun h1 => ?_) (fun h1 => ?_)
  · refine z_tabIn (tgt := 58) hX dX3_faultOfWord_1 (4 : Int32) h1 (by decide) (by decide) rfl (by decide) ?_
    refine z_aload_n hX dX3_faultOfWord_58 rfl 0 rfl ?_
    refine z_getR (k := 0) hX (z_scr0 hs) rfl rfl in_X3_faultOfWord_X3 (by decide) lk_X3_faultOfWord_f12 dX3_faultOfWord_59 ?_
    refine z_getI (k := 0) hX (z_sto0 hs z_issto30) rfl rfl in_X3_faultOfWord_X5 (by decide) lk_X3_faultOfWord_f62 dX3_faultOfWord_62 ?_
    refine z_bipush (v := 6) hX dX3_faultOfWord_65 (by decide) ?_
    refine z_icmp_lt (tgt := 74) hX dX3_faultOfWord_67 (by decide) ?_ ?_
    · refine z_iconst (v := 0) hX dX3_faultOfWord_74 (by decide) ?_
      exact z_iret hX dX3_faultOfWord_75
    · refine z_iconst (v := 5) hX dX3_faultOfWord_70 (by decide) ?_
      refine z_goto (tgt := 75) hX dX3_faultOfWord_71 (by decide) ?_
      exact z_iret hX dX3_faultOfWord_75
  · skip
    refine z_case (fun h2 => ?_) (fun h2 => ?_)
    · refine z_tabIn (tgt := 76) hX dX3_faultOfWord_1 (5 : Int32) h2 (by decide) (by decide) rfl (by decide) ?_
      refine z_aload_n hX dX3_faultOfWord_76 rfl 0 rfl ?_
      refine z_getR (k := 0) hX (z_scr0 hs) rfl rfl in_X3_faultOfWord_X3 (by decide) lk_X3_faultOfWord_f12 dX3_faultOfWord_77 ?_
      refine z_getI (k := 4) hX (z_sto0 hs z_issto30) rfl rfl in_X3_faultOfWord_X5 (by decide) lk_X3_faultOfWord_f65 dX3_faultOfWord_80 ?_
      refine z_bipush (v := 6) hX dX3_faultOfWord_83 (by decide) ?_
      refine z_icmp_lt (tgt := 92) hX dX3_faultOfWord_85 (by decide) ?_ ?_
      · refine z_iconst (v := 0) hX dX3_faultOfWord_92 (by decide) ?_
        exact z_iret hX dX3_faultOfWord_93
      · refine z_iconst (v := 5) hX dX3_faultOfWord_88 (by decide) ?_
        refine z_goto (tgt := 93) hX dX3_faultOfWord_89 (by decide) ?_
        exact z_iret hX dX3_faultOfWord_93
    · skip
      refine z_case (fun h3 => ?_) (fun h3 => ?_)
      · refine z_tabIn (tgt := 32) hX dX3_faultOfWord_1 (6 : Int32) h3 (by decide) (by decide) rfl (by decide) ?_
        refine z_aload_n hX dX3_faultOfWord_32 rfl 0 rfl ?_
        refine z_getI (k := 10) hX (z_scr0 hs) rfl rfl in_X3_faultOfWord_X3 (by decide) lk_X3_faultOfWord_f77 dX3_faultOfWord_33 ?_
        refine z_if_eq (tgt := 43) hX dX3_faultOfWord_36 (by decide) ?_ ?_
        · refine z_iconst (v := 0) hX dX3_faultOfWord_43 (by decide) ?_
          exact z_iret hX dX3_faultOfWord_44
        · refine z_iconst (v := 4) hX dX3_faultOfWord_39 (by decide) ?_
          refine z_goto (tgt := 44) hX dX3_faultOfWord_40 (by decide) ?_
          exact z_iret hX dX3_faultOfWord_44
      · skip
        refine z_case (fun h4 => ?_) (fun h4 => ?_)
        · refine z_tabIn (tgt := 45) hX dX3_faultOfWord_1 (7 : Int32) h4 (by decide) (by decide) rfl (by decide) ?_
          refine z_aload_n hX dX3_faultOfWord_45 rfl 0 rfl ?_
          refine z_getI (k := 11) hX (z_scr0 hs) rfl rfl in_X3_faultOfWord_X3 (by decide) lk_X3_faultOfWord_f81 dX3_faultOfWord_46 ?_
          refine z_if_eq (tgt := 56) hX dX3_faultOfWord_49 (by decide) ?_ ?_
          · refine z_iconst (v := 0) hX dX3_faultOfWord_56 (by decide) ?_
            exact z_iret hX dX3_faultOfWord_57
          · refine z_iconst (v := 4) hX dX3_faultOfWord_52 (by decide) ?_
            refine z_goto (tgt := 57) hX dX3_faultOfWord_53 (by decide) ?_
            exact z_iret hX dX3_faultOfWord_57
        · skip
          refine z_tabOut (tgt := 94) hX dX3_faultOfWord_1 (by have qh1 := lv_neT (a := 4) h1 (by decide); have qh2 := lv_neT (a := 5) h2 (by decide); have qh3 := lv_neT (a := 6) h3 (by decide); have qh4 := lv_neT (a := 7) h4 (by decide); omega) (by decide) ?_
          refine z_aload_n hX dX3_faultOfWord_94 rfl 0 rfl ?_
          refine z_getR (k := 1) hX (z_scr0 hs) rfl rfl in_X3_faultOfWord_X3 (by decide) lk_X3_faultOfWord_f21 dX3_faultOfWord_95 ?_
          refine z_getI (k := 0) hX (z_led0 hs z_isled37) rfl rfl in_X3_faultOfWord_X1 (by decide) lk_X3_faultOfWord_f52 dX3_faultOfWord_98 ?_
          refine z_iconst (v := 4) hX dX3_faultOfWord_101 (by decide) ?_
          refine z_icmp_lt (tgt := 109) hX dX3_faultOfWord_102 (by decide) ?_ ?_
          · refine z_iconst (v := 0) hX dX3_faultOfWord_109 (by decide) ?_
            exact z_iret hX dX3_faultOfWord_110
          · refine z_iconst (v := 5) hX dX3_faultOfWord_105 (by decide) ?_
            refine z_goto (tgt := 110) hX dX3_faultOfWord_106 (by decide) ?_
            exact z_iret hX dX3_faultOfWord_110

abbrev rm_X3_tellTrip : Room := { frames := 0, cells := 0, slots := 0, locals := 0 }
theorem in_X3_tellTrip_X1 : ∀ w ∈ wsX10, w ∈ wsX3_tellTrip := fun w h => List.mem_cons_of_mem _ (List.mem_append_right _ h)
theorem in_X3_tellTrip_X3 : ∀ w ∈ wsX30, w ∈ wsX3_tellTrip := fun w h => List.mem_cons_of_mem _ (List.mem_append_left _ (List.mem_append_left _ (List.mem_append_right _ h)))
theorem in_X3_tellTrip_X5 : ∀ w ∈ wsX50, w ∈ wsX3_tellTrip := fun w h => List.mem_cons_of_mem _ (List.mem_append_left _ (List.mem_append_right _ h))
theorem lk_X3_tellTrip_f12 : Cond.fieldLink RX3 12 (TX3 0).1 (TX3 0).2.1 (TX3 0).2.2.1 ∈ wsX3_tellTrip := by decide +kernel
theorem lk_X3_tellTrip_f62 : Cond.fieldLink RX3 62 (TX5 0).1 (TX5 0).2.1 (TX5 0).2.2.1 ∈ wsX3_tellTrip := by decide +kernel
theorem lk_X3_tellTrip_f158 : Cond.fieldLink RX3 158 (TX5 1).1 (TX5 1).2.1 (TX5 1).2.2.1 ∈ wsX3_tellTrip := by decide +kernel
theorem lk_X3_tellTrip_f29 : Cond.fieldLink RX3 29 (TX3 5).1 (TX3 5).2.1 (TX3 5).2.2.1 ∈ wsX3_tellTrip := by decide +kernel
theorem lk_X3_tellTrip_f161 : Cond.fieldLink RX3 161 (TX5 2).1 (TX5 2).2.1 (TX5 2).2.2.1 ∈ wsX3_tellTrip := by decide +kernel
theorem lk_X3_tellTrip_f164 : Cond.fieldLink RX3 164 (TX5 3).1 (TX5 3).2.1 (TX5 3).2.2.1 ∈ wsX3_tellTrip := by decide +kernel
theorem lk_X3_tellTrip_f21 : Cond.fieldLink RX3 21 (TX3 1).1 (TX3 1).2.1 (TX3 1).2.2.1 ∈ wsX3_tellTrip := by decide +kernel
theorem lk_X3_tellTrip_f167 : Cond.fieldLink RX3 167 (TX1 5).1 (TX1 5).2.1 (TX1 5).2.2.1 ∈ wsX3_tellTrip := by decide +kernel
set_option maxHeartbeats 4000000 in
set_option maxRecDepth 100000 in
theorem c_X3_tellTrip (l : Launch) (V : z_V) (hV : z_ok V) (hs : z_isX V) (σ : z_St) : z_CtV l V yX3_tellTrip wsX3_tellTrip rm_X3_tellTrip [.ref (z_ad V 27)] σ (f_X3_tellTrip σ) := by
  refine z_startV (lv := [(0, .ref (z_ad V 27))]) hV (by decide) rfl (Nat.le_of_ble_eq_true rfl) rfl ?_
  intro M hM hX
  have hX : z_Cx M V cX3_tellTrip 2 none wsX3_tellTrip RX3 := hX
  unfold f_X3_tellTrip
  refine z_aload_n hX dX3_tellTrip_0 rfl 0 rfl ?_
  refine z_getR (k := 0) hX (z_scr0 hs) rfl rfl in_X3_tellTrip_X3 (by decide) lk_X3_tellTrip_f12 dX3_tellTrip_1 ?_
  refine z_getI (k := 0) hX (z_sto0 hs z_issto30) rfl rfl in_X3_tellTrip_X5 (by decide) lk_X3_tellTrip_f62 dX3_tellTrip_4 ?_
  refine z_istore_n (lv' := [(1, .int (σ 30 0)), (0, .ref (z_ad V 27))]) hX dX3_tellTrip_7 rfl (by decide) rfl ?_
  refine z_aload_n hX dX3_tellTrip_8 rfl 1 rfl ?_
  refine z_getR (k := 0) hX (z_scr0 hs) rfl rfl in_X3_tellTrip_X3 (by decide) lk_X3_tellTrip_f12 dX3_tellTrip_9 ?_
  refine z_getR (k := 1) hX (z_sto0 hs z_issto30) rfl rfl in_X3_tellTrip_X5 (by decide) lk_X3_tellTrip_f158 dX3_tellTrip_12 ?_
  refine z_iload_n hX dX3_tellTrip_15 rfl 0 rfl ?_
  refine z_aload_n hX dX3_tellTrip_16 rfl 1 rfl ?_
  refine z_getR (k := 5) hX (z_scr0 hs) rfl rfl in_X3_tellTrip_X3 (by decide) lk_X3_tellTrip_f29 dX3_tellTrip_17 ?_
  refine z_iconst (v := 0) hX dX3_tellTrip_20 (by decide) ?_
  refine z_ialdc (j := 0) hX (z_scr2 hs) (by decide) dX3_tellTrip_21 ?_
  refine z_iast hX (z_sto1 hs z_issto30) dX3_tellTrip_22 (z_bs fun s1 => ?_)
  refine z_aload_n hX dX3_tellTrip_23 rfl 1 rfl ?_
  refine z_getR (k := 0) hX (z_scr0 hs) rfl rfl in_X3_tellTrip_X3 (by decide) lk_X3_tellTrip_f12 dX3_tellTrip_24 ?_
  refine z_getR (k := 2) hX (z_sto0 hs z_issto30) rfl rfl in_X3_tellTrip_X5 (by decide) lk_X3_tellTrip_f161 dX3_tellTrip_27 ?_
  refine z_iload_n hX dX3_tellTrip_30 rfl 0 rfl ?_
  refine z_aload_n hX dX3_tellTrip_31 rfl 1 rfl ?_
  refine z_getR (k := 5) hX (z_scr0 hs) rfl rfl in_X3_tellTrip_X3 (by decide) lk_X3_tellTrip_f29 dX3_tellTrip_32 ?_
  refine z_iconst (v := 1) hX dX3_tellTrip_35 (by decide) ?_
  refine z_ialdc (j := 1) hX (z_scr2 hs) (by decide) dX3_tellTrip_36 ?_
  refine z_iast hX (z_sto2 hs z_issto30) dX3_tellTrip_37 (z_bs fun s2 => ?_)
  refine z_aload_n hX dX3_tellTrip_38 rfl 1 rfl ?_
  refine z_getR (k := 0) hX (z_scr0 hs) rfl rfl in_X3_tellTrip_X3 (by decide) lk_X3_tellTrip_f12 dX3_tellTrip_39 ?_
  refine z_getR (k := 3) hX (z_sto0 hs z_issto30) rfl rfl in_X3_tellTrip_X5 (by decide) lk_X3_tellTrip_f164 dX3_tellTrip_42 ?_
  refine z_iload_n hX dX3_tellTrip_45 rfl 0 rfl ?_
  refine z_aload_n hX dX3_tellTrip_46 rfl 1 rfl ?_
  refine z_getR (k := 5) hX (z_scr0 hs) rfl rfl in_X3_tellTrip_X3 (by decide) lk_X3_tellTrip_f29 dX3_tellTrip_47 ?_
  refine z_iconst (v := 2) hX dX3_tellTrip_50 (by decide) ?_
  refine z_ialdc (j := 2) hX (z_scr2 hs) (by decide) dX3_tellTrip_51 ?_
  refine z_iast hX (z_sto3 hs z_issto30) dX3_tellTrip_52 (z_bs fun s3 => ?_)
  refine z_aload_n hX dX3_tellTrip_53 rfl 1 rfl ?_
  refine z_getR (k := 1) hX (z_scr0 hs) rfl rfl in_X3_tellTrip_X3 (by decide) lk_X3_tellTrip_f21 dX3_tellTrip_54 ?_
  refine z_getR (k := 5) hX (z_led0 hs z_isled37) rfl rfl in_X3_tellTrip_X1 (by decide) lk_X3_tellTrip_f167 dX3_tellTrip_57 ?_
  refine z_iload_n hX dX3_tellTrip_60 rfl 0 rfl ?_
  refine z_aload_n hX dX3_tellTrip_61 rfl 1 rfl ?_
  refine z_getR (k := 5) hX (z_scr0 hs) rfl rfl in_X3_tellTrip_X3 (by decide) lk_X3_tellTrip_f29 dX3_tellTrip_62 ?_
  refine z_iconst (v := 3) hX dX3_tellTrip_65 (by decide) ?_
  refine z_ialdc (j := 3) hX (z_scr2 hs) (by decide) dX3_tellTrip_66 ?_
  refine z_iast hX (z_led5 hs z_isled37) dX3_tellTrip_67 (z_bs fun s4 => ?_)
  refine z_aload_n hX dX3_tellTrip_68 rfl 1 rfl ?_
  refine z_getR (k := 0) hX (z_scr0 hs) rfl rfl in_X3_tellTrip_X3 (by decide) lk_X3_tellTrip_f12 dX3_tellTrip_69 ?_
  refine z_dup hX dX3_tellTrip_72 rfl ?_
  refine z_getI (k := 0) hX (z_sto0 hs z_issto30) rfl rfl in_X3_tellTrip_X5 (by decide) lk_X3_tellTrip_f62 dX3_tellTrip_73 ?_
  refine z_iconst (v := 1) hX dX3_tellTrip_76 (by decide) ?_
  refine z_iadd hX dX3_tellTrip_77 ?_
  refine z_put1 (k := 0) hX (z_sto0 hs z_issto30) rfl rfl in_X3_tellTrip_X5 (by decide) lk_X3_tellTrip_f62 tyX5 tyX5_ok nmX5 rfl rfl rfl dX3_tellTrip_78 (z_bs fun s5 => ?_)
  exact z_vret hX dX3_tellTrip_81

abbrev rm_X3_tellAsked : Room := { frames := 0, cells := 0, slots := 0, locals := 0 }
theorem in_X3_tellAsked_X3 : ∀ w ∈ wsX30, w ∈ wsX3_tellAsked := fun w h => List.mem_cons_of_mem _ (List.mem_append_left _ (List.mem_append_right _ h))
theorem in_X3_tellAsked_X5 : ∀ w ∈ wsX50, w ∈ wsX3_tellAsked := fun w h => List.mem_cons_of_mem _ (List.mem_append_right _ h)
theorem lk_X3_tellAsked_f12 : Cond.fieldLink RX3 12 (TX3 0).1 (TX3 0).2.1 (TX3 0).2.2.1 ∈ wsX3_tellAsked := by decide +kernel
theorem lk_X3_tellAsked_f65 : Cond.fieldLink RX3 65 (TX5 4).1 (TX5 4).2.1 (TX5 4).2.2.1 ∈ wsX3_tellAsked := by decide +kernel
theorem lk_X3_tellAsked_f170 : Cond.fieldLink RX3 170 (TX5 5).1 (TX5 5).2.1 (TX5 5).2.2.1 ∈ wsX3_tellAsked := by decide +kernel
theorem lk_X3_tellAsked_f29 : Cond.fieldLink RX3 29 (TX3 5).1 (TX3 5).2.1 (TX3 5).2.2.1 ∈ wsX3_tellAsked := by decide +kernel
theorem lk_X3_tellAsked_f173 : Cond.fieldLink RX3 173 (TX5 6).1 (TX5 6).2.1 (TX5 6).2.2.1 ∈ wsX3_tellAsked := by decide +kernel
theorem lk_X3_tellAsked_f176 : Cond.fieldLink RX3 176 (TX5 7).1 (TX5 7).2.1 (TX5 7).2.2.1 ∈ wsX3_tellAsked := by decide +kernel
set_option maxHeartbeats 4000000 in
set_option maxRecDepth 100000 in
theorem c_X3_tellAsked (l : Launch) (V : z_V) (hV : z_ok V) (hs : z_isX V) (σ : z_St) : z_CtV l V yX3_tellAsked wsX3_tellAsked rm_X3_tellAsked [.ref (z_ad V 27)] σ (f_X3_tellAsked σ) := by
  refine z_startV (lv := [(0, .ref (z_ad V 27))]) hV (by decide) rfl (Nat.le_of_ble_eq_true rfl) rfl ?_
  intro M hM hX
  have hX : z_Cx M V cX3_tellAsked 2 none wsX3_tellAsked RX3 := hX
  unfold f_X3_tellAsked
  refine z_aload_n hX dX3_tellAsked_0 rfl 0 rfl ?_
  refine z_getR (k := 0) hX (z_scr0 hs) rfl rfl in_X3_tellAsked_X3 (by decide) lk_X3_tellAsked_f12 dX3_tellAsked_1 ?_
  refine z_getI (k := 4) hX (z_sto0 hs z_issto30) rfl rfl in_X3_tellAsked_X5 (by decide) lk_X3_tellAsked_f65 dX3_tellAsked_4 ?_
  refine z_istore_n (lv' := [(1, .int (σ 30 4)), (0, .ref (z_ad V 27))]) hX dX3_tellAsked_7 rfl (by decide) rfl ?_
  refine z_aload_n hX dX3_tellAsked_8 rfl 1 rfl ?_
  refine z_getR (k := 0) hX (z_scr0 hs) rfl rfl in_X3_tellAsked_X3 (by decide) lk_X3_tellAsked_f12 dX3_tellAsked_9 ?_
  refine z_getR (k := 5) hX (z_sto0 hs z_issto30) rfl rfl in_X3_tellAsked_X5 (by decide) lk_X3_tellAsked_f170 dX3_tellAsked_12 ?_
  refine z_iload_n hX dX3_tellAsked_15 rfl 0 rfl ?_
  refine z_aload_n hX dX3_tellAsked_16 rfl 1 rfl ?_
  refine z_getR (k := 5) hX (z_scr0 hs) rfl rfl in_X3_tellAsked_X3 (by decide) lk_X3_tellAsked_f29 dX3_tellAsked_17 ?_
  refine z_iconst (v := 0) hX dX3_tellAsked_20 (by decide) ?_
  refine z_ialdc (j := 0) hX (z_scr2 hs) (by decide) dX3_tellAsked_21 ?_
  refine z_iast hX (z_sto4 hs z_issto30) dX3_tellAsked_22 (z_bs fun s1 => ?_)
  refine z_aload_n hX dX3_tellAsked_23 rfl 1 rfl ?_
  refine z_getR (k := 0) hX (z_scr0 hs) rfl rfl in_X3_tellAsked_X3 (by decide) lk_X3_tellAsked_f12 dX3_tellAsked_24 ?_
  refine z_getR (k := 6) hX (z_sto0 hs z_issto30) rfl rfl in_X3_tellAsked_X5 (by decide) lk_X3_tellAsked_f173 dX3_tellAsked_27 ?_
  refine z_iload_n hX dX3_tellAsked_30 rfl 0 rfl ?_
  refine z_aload_n hX dX3_tellAsked_31 rfl 1 rfl ?_
  refine z_getR (k := 5) hX (z_scr0 hs) rfl rfl in_X3_tellAsked_X3 (by decide) lk_X3_tellAsked_f29 dX3_tellAsked_32 ?_
  refine z_iconst (v := 1) hX dX3_tellAsked_35 (by decide) ?_
  refine z_ialdc (j := 1) hX (z_scr2 hs) (by decide) dX3_tellAsked_36 ?_
  refine z_iast hX (z_sto5 hs z_issto30) dX3_tellAsked_37 (z_bs fun s2 => ?_)
  refine z_aload_n hX dX3_tellAsked_38 rfl 1 rfl ?_
  refine z_getR (k := 0) hX (z_scr0 hs) rfl rfl in_X3_tellAsked_X3 (by decide) lk_X3_tellAsked_f12 dX3_tellAsked_39 ?_
  refine z_getR (k := 7) hX (z_sto0 hs z_issto30) rfl rfl in_X3_tellAsked_X5 (by decide) lk_X3_tellAsked_f176 dX3_tellAsked_42 ?_
  refine z_iload_n hX dX3_tellAsked_45 rfl 0 rfl ?_
  refine z_aload_n hX dX3_tellAsked_46 rfl 1 rfl ?_
  refine z_getR (k := 5) hX (z_scr0 hs) rfl rfl in_X3_tellAsked_X3 (by decide) lk_X3_tellAsked_f29 dX3_tellAsked_47 ?_
  refine z_iconst (v := 2) hX dX3_tellAsked_50 (by decide) ?_
  refine z_ialdc (j := 2) hX (z_scr2 hs) (by decide) dX3_tellAsked_51 ?_
  refine z_iast hX (z_sto6 hs z_issto30) dX3_tellAsked_52 (z_bs fun s3 => ?_)
  refine z_aload_n hX dX3_tellAsked_53 rfl 1 rfl ?_
  refine z_getR (k := 0) hX (z_scr0 hs) rfl rfl in_X3_tellAsked_X3 (by decide) lk_X3_tellAsked_f12 dX3_tellAsked_54 ?_
  refine z_dup hX dX3_tellAsked_57 rfl ?_
  refine z_getI (k := 4) hX (z_sto0 hs z_issto30) rfl rfl in_X3_tellAsked_X5 (by decide) lk_X3_tellAsked_f65 dX3_tellAsked_58 ?_
  refine z_iconst (v := 1) hX dX3_tellAsked_61 (by decide) ?_
  refine z_iadd hX dX3_tellAsked_62 ?_
  refine z_put1 (k := 4) hX (z_sto0 hs z_issto30) rfl rfl in_X3_tellAsked_X5 (by decide) lk_X3_tellAsked_f65 tyX5 tyX5_ok nmX5 rfl rfl rfl dX3_tellAsked_63 (z_bs fun s4 => ?_)
  exact z_vret hX dX3_tellAsked_66

abbrev rm_X3_tell : Room := { frames := 1, cells := 0, slots := 0, locals := 21 }
theorem in_X3_tell_X1 : ∀ w ∈ wsX10, w ∈ wsX3_tell := fun w h => List.mem_cons_of_mem _ (List.mem_append_left _ (List.mem_append_right _ h))
theorem in_X3_tell_X3 : ∀ w ∈ wsX30, w ∈ wsX3_tell := fun w h => List.mem_cons_of_mem _ (List.mem_append_left _ (List.mem_append_left _ (List.mem_append_right _ h)))
theorem lk_X3_tell_f21 : Cond.fieldLink RX3 21 (TX3 1).1 (TX3 1).2.1 (TX3 1).2.2.1 ∈ wsX3_tell := by decide +kernel
theorem lk_X3_tell_f29 : Cond.fieldLink RX3 29 (TX3 5).1 (TX3 5).2.1 (TX3 5).2.2.1 ∈ wsX3_tell := by decide +kernel
theorem lk_X3_tell_f68 : Cond.fieldLink RX3 68 (TX1 7).1 (TX1 7).2.1 (TX1 7).2.2.1 ∈ wsX3_tell := by decide +kernel
theorem lk_X3_tell_f77 : Cond.fieldLink RX3 77 (TX3 10).1 (TX3 10).2.1 (TX3 10).2.2.1 ∈ wsX3_tell := by decide +kernel
theorem lk_X3_tell_f71 : Cond.fieldLink RX3 71 (TX1 8).1 (TX1 8).2.1 (TX1 8).2.2.1 ∈ wsX3_tell := by decide +kernel
theorem lk_X3_tell_f81 : Cond.fieldLink RX3 81 (TX3 11).1 (TX3 11).2.1 (TX3 11).2.2.1 ∈ wsX3_tell := by decide +kernel
theorem lk_X3_tell_f152 : Cond.fieldLink RX3 152 (TX1 1).1 (TX1 1).2.1 (TX1 1).2.2.1 ∈ wsX3_tell := by decide +kernel
theorem lk_X3_tell_f52 : Cond.fieldLink RX3 52 (TX1 0).1 (TX1 0).2.1 (TX1 0).2.2.1 ∈ wsX3_tell := by decide +kernel
theorem lk_X3_tell_f155 : Cond.fieldLink RX3 155 (TX1 2).1 (TX1 2).2.1 (TX1 2).2.2.1 ∈ wsX3_tell := by decide +kernel
set_option maxHeartbeats 4000000 in
set_option maxRecDepth 100000 in
theorem c_X3_tell (l : Launch) (V : z_V) (hV : z_ok V) (hs : z_isX V) (x1 : Int32) (σ : z_St) : z_CtV l V yX3_tell wsX3_tell rm_X3_tell [.ref (z_ad V 27), .int x1] σ (f_X3_tell x1 σ) := by
  refine z_startV (lv := [(0, .ref (z_ad V 27)), (1, .int x1)]) hV (by decide) rfl (Nat.le_of_ble_eq_true rfl) rfl ?_
  intro M hM hX
  have hX : z_Cx M V cX3_tell 2 none wsX3_tell RX3 := hX
  unfold f_X3_tell
  refine z_iload_n hX dX3_tell_0 rfl 1 rfl ?_
  refine z_case (fun h1 => ?_) (fun h1 => ?_)
  · refine z_tabIn (tgt := 32) hX dX3_tell_1 (4 : Int32) h1 (by decide) (by decide) rfl (by decide) ?_
    refine z_aload_n hX dX3_tell_32 rfl 0 rfl ?_
    refine z_callVV (n := 0) hX (c_X3_tellTrip M.2.1 V hX.2.2.2.2.2 hs σ) gX3_tell_X3_tellTrip rfl (by decide +kernel) ⟨by decide, by decide⟩ rfl rfl (z_scr0 hs) rfl rfl rfl rfl (Nat.le_of_ble_eq_true rfl) dX3_tell_33 (fun r2 _ => ?_)
    refine z_goto (tgt := 138) hX dX3_tell_36 (by decide) ?_
    exact z_vret hX dX3_tell_138
  · skip
    refine z_case (fun h3 => ?_) (fun h3 => ?_)
    · refine z_tabIn (tgt := 39) hX dX3_tell_1 (5 : Int32) h3 (by decide) (by decide) rfl (by decide) ?_
      refine z_aload_n hX dX3_tell_39 rfl 0 rfl ?_
      refine z_callVV (n := 0) hX (c_X3_tellAsked M.2.1 V hX.2.2.2.2.2 hs σ) gX3_tell_X3_tellAsked rfl (by decide +kernel) ⟨by decide, by decide⟩ rfl rfl (z_scr0 hs) rfl rfl rfl rfl (Nat.le_of_ble_eq_true rfl) dX3_tell_40 (fun r4 _ => ?_)
      refine z_goto (tgt := 138) hX dX3_tell_43 (by decide) ?_
      exact z_vret hX dX3_tell_138
    · skip
      refine z_case (fun h5 => ?_) (fun h5 => ?_)
      · refine z_tabIn (tgt := 46) hX dX3_tell_1 (6 : Int32) h5 (by decide) (by decide) rfl (by decide) ?_
        refine z_aload_n hX dX3_tell_46 rfl 0 rfl ?_
        refine z_getR (k := 1) hX (z_scr0 hs) rfl rfl in_X3_tell_X3 (by decide) lk_X3_tell_f21 dX3_tell_47 ?_
        refine z_aload_n hX dX3_tell_50 rfl 0 rfl ?_
        refine z_getR (k := 5) hX (z_scr0 hs) rfl rfl in_X3_tell_X3 (by decide) lk_X3_tell_f29 dX3_tell_51 ?_
        refine z_iconst (v := 0) hX dX3_tell_54 (by decide) ?_
        refine z_ialdc (j := 0) hX (z_scr2 hs) (by decide) dX3_tell_55 ?_
        refine z_put1 (k := 7) hX (z_led0 hs z_isled37) rfl rfl in_X3_tell_X1 (by decide) lk_X3_tell_f68 tyX1 tyX1_ok nmX1 rfl rfl rfl dX3_tell_56 (z_bs fun s6 => ?_)
        refine z_aload_n hX dX3_tell_59 rfl 0 rfl ?_
        refine z_iconst (v := 1) hX dX3_tell_60 (by decide) ?_
        refine z_put1 (k := 10) hX (z_scr0 hs) rfl rfl in_X3_tell_X3 (by decide) lk_X3_tell_f77 tyX3 tyX3_ok nmX3 rfl rfl rfl dX3_tell_61 (z_bs fun s7 => ?_)
        refine z_goto (tgt := 138) hX dX3_tell_64 (by decide) ?_
        exact z_vret hX dX3_tell_138
      · skip
        refine z_case (fun h8 => ?_) (fun h8 => ?_)
        · refine z_tabIn (tgt := 67) hX dX3_tell_1 (7 : Int32) h8 (by decide) (by decide) rfl (by decide) ?_
          refine z_aload_n hX dX3_tell_67 rfl 0 rfl ?_
          refine z_getR (k := 1) hX (z_scr0 hs) rfl rfl in_X3_tell_X3 (by decide) lk_X3_tell_f21 dX3_tell_68 ?_
          refine z_aload_n hX dX3_tell_71 rfl 0 rfl ?_
          refine z_getR (k := 5) hX (z_scr0 hs) rfl rfl in_X3_tell_X3 (by decide) lk_X3_tell_f29 dX3_tell_72 ?_
          refine z_iconst (v := 0) hX dX3_tell_75 (by decide) ?_
          refine z_ialdc (j := 0) hX (z_scr2 hs) (by decide) dX3_tell_76 ?_
          refine z_put1 (k := 8) hX (z_led0 hs z_isled37) rfl rfl in_X3_tell_X1 (by decide) lk_X3_tell_f71 tyX1 tyX1_ok nmX1 rfl rfl rfl dX3_tell_77 (z_bs fun s9 => ?_)
          refine z_aload_n hX dX3_tell_80 rfl 0 rfl ?_
          refine z_iconst (v := 1) hX dX3_tell_81 (by decide) ?_
          refine z_put1 (k := 11) hX (z_scr0 hs) rfl rfl in_X3_tell_X3 (by decide) lk_X3_tell_f81 tyX3 tyX3_ok nmX3 rfl rfl rfl dX3_tell_82 (z_bs fun s10 => ?_)
          refine z_goto (tgt := 138) hX dX3_tell_85 (by decide) ?_
          exact z_vret hX dX3_tell_138
        · skip
          refine z_tabOut (tgt := 88) hX dX3_tell_1 (by have qh1 := lv_neT (a := 4) h1 (by decide); have qh3 := lv_neT (a := 5) h3 (by decide); have qh5 := lv_neT (a := 6) h5 (by decide); have qh8 := lv_neT (a := 7) h8 (by decide); omega) (by decide) ?_
          refine z_aload_n hX dX3_tell_88 rfl 0 rfl ?_
          refine z_getR (k := 1) hX (z_scr0 hs) rfl rfl in_X3_tell_X3 (by decide) lk_X3_tell_f21 dX3_tell_89 ?_
          refine z_getR (k := 1) hX (z_led0 hs z_isled37) rfl rfl in_X3_tell_X1 (by decide) lk_X3_tell_f152 dX3_tell_92 ?_
          refine z_aload_n hX dX3_tell_95 rfl 0 rfl ?_
          refine z_getR (k := 1) hX (z_scr0 hs) rfl rfl in_X3_tell_X3 (by decide) lk_X3_tell_f21 dX3_tell_96 ?_
          refine z_getI (k := 0) hX (z_led0 hs z_isled37) rfl rfl in_X3_tell_X1 (by decide) lk_X3_tell_f52 dX3_tell_99 ?_
          refine z_iload_n hX dX3_tell_102 rfl 1 rfl ?_
          refine z_iast hX (z_led1 hs z_isled37) dX3_tell_103 (z_bs fun s11 => ?_)
          refine z_aload_n hX dX3_tell_104 rfl 0 rfl ?_
          refine z_getR (k := 1) hX (z_scr0 hs) rfl rfl in_X3_tell_X3 (by decide) lk_X3_tell_f21 dX3_tell_105 ?_
          refine z_getR (k := 2) hX (z_led0 hs z_isled37) rfl rfl in_X3_tell_X1 (by decide) lk_X3_tell_f155 dX3_tell_108 ?_
          refine z_aload_n hX dX3_tell_111 rfl 0 rfl ?_
          refine z_getR (k := 1) hX (z_scr0 hs) rfl rfl in_X3_tell_X3 (by decide) lk_X3_tell_f21 dX3_tell_112 ?_
          refine z_getI (k := 0) hX (z_led0 hs z_isled37) rfl rfl in_X3_tell_X1 (by decide) lk_X3_tell_f52 dX3_tell_115 ?_
          refine z_aload_n hX dX3_tell_118 rfl 0 rfl ?_
          refine z_getR (k := 5) hX (z_scr0 hs) rfl rfl in_X3_tell_X3 (by decide) lk_X3_tell_f29 dX3_tell_119 ?_
          refine z_iconst (v := 0) hX dX3_tell_122 (by decide) ?_
          refine z_ialdc (j := 0) hX (z_scr2 hs) (by decide) dX3_tell_123 ?_
          refine z_iast hX (z_led2 hs z_isled37) dX3_tell_124 (z_bs fun s12 => ?_)
          refine z_aload_n hX dX3_tell_125 rfl 0 rfl ?_
          refine z_getR (k := 1) hX (z_scr0 hs) rfl rfl in_X3_tell_X3 (by decide) lk_X3_tell_f21 dX3_tell_126 ?_
          refine z_dup hX dX3_tell_129 rfl ?_
          refine z_getI (k := 0) hX (z_led0 hs z_isled37) rfl rfl in_X3_tell_X1 (by decide) lk_X3_tell_f52 dX3_tell_130 ?_
          refine z_iconst (v := 1) hX dX3_tell_133 (by decide) ?_
          refine z_iadd hX dX3_tell_134 ?_
          refine z_put1 (k := 0) hX (z_led0 hs z_isled37) rfl rfl in_X3_tell_X1 (by decide) lk_X3_tell_f52 tyX1 tyX1_ok nmX1 rfl rfl rfl dX3_tell_135 (z_bs fun s13 => ?_)
          exact z_vret hX dX3_tell_138

abbrev rm_X3_readLine : Room := { frames := 6, cells := 0, slots := 0, locals := 127 }
theorem in_X3_readLine_X3 : ∀ w ∈ wsX30, w ∈ wsX3_readLine := fun w h => List.mem_cons_of_mem _ (List.mem_append_left _ (List.mem_append_left _ (List.mem_append_right _ h)))
theorem lk_X3_readLine_f46 : Cond.fieldLink RX3 46 (TX3 8).1 (TX3 8).2.1 (TX3 8).2.2.1 ∈ wsX3_readLine := by decide +kernel
theorem lk_X3_readLine_g105 : Cond.fieldLink RX3 105 "BlushBank$Scribe" "NUMBERS_OF" "[I" ∈ wsX3_readLine := by decide +kernel
theorem lk_X3_readLine_f43 : Cond.fieldLink RX3 43 (TX3 3).1 (TX3 3).2.1 (TX3 3).2.2.1 ∈ wsX3_readLine := by decide +kernel
theorem lk_X3_readLine_f29 : Cond.fieldLink RX3 29 (TX3 5).1 (TX3 5).2.1 (TX3 5).2.2.1 ∈ wsX3_readLine := by decide +kernel
theorem lk_X3_readLine_g108 : Cond.fieldLink RX3 108 "BlushBank$Scribe" "BOUNDS" "[I" ∈ wsX3_readLine := by decide +kernel
set_option maxHeartbeats 4000000 in
set_option maxRecDepth 100000 in
theorem w_X3_readLine_98 (M : z_M) (V : z_V) (hs : z_isX V) (hX : z_Cx M V cX3_readLine 4 none wsX3_readLine RX3) (x1 : Int32) (σ : z_St) : z_Go M rm_X3_readLine 4 V (z_QV V) σ 98 [(0, .ref (z_ad V 27)), (1, .int x1)] [] (f_X3_readLine_98 x1 σ) := by
  unfold f_X3_readLine_98
  refine z_aload_n hX dX3_readLine_98 rfl 0 rfl ?_
  refine z_getI (k := 3) hX (z_scr0 hs) rfl rfl in_X3_readLine_X3 (by decide) lk_X3_readLine_f43 dX3_readLine_99 ?_
  refine z_if_ne (tgt := 110) hX dX3_readLine_102 (by decide) ?_ ?_
  · exact z_vret hX dX3_readLine_110
  · refine z_aload_n hX dX3_readLine_105 rfl 0 rfl ?_
    refine z_iload_n hX dX3_readLine_106 rfl 1 rfl ?_
    refine z_callVV (n := 1) hX (c_X3_tell M.2.1 V hX.2.2.2.2.2 hs x1 σ) gX3_readLine_X3_tell rfl (by decide +kernel) ⟨by decide, by decide⟩ rfl rfl (z_scr0 hs) rfl rfl rfl rfl (Nat.le_of_ble_eq_true rfl) dX3_readLine_107 (fun r2 _ => ?_)
    exact z_vret hX dX3_readLine_110
set_option maxHeartbeats 4000000 in
set_option maxRecDepth 100000 in
theorem w_X3_readLine_45 (M : z_M) (V : z_V) (hs : z_isX V) (hX : z_Cx M V cX3_readLine 4 none wsX3_readLine RX3) : ∀ (n : Nat) (x1 : Int32) (x3 : Int32) (σ : z_St), z_Go M rm_X3_readLine 4 V (z_QV V) σ 45 [(0, .ref (z_ad V 27)), (1, .int x1), (3, .int x3)] [] (f_X3_readLine_45 n x1 x3 σ) := by
  intro n
  induction n with
  | zero => intro x1 x3 σ; exact z_none
  | succ n ih =>
    intro x1 x3 σ
    rw [f_X3_readLine_45]
    refine z_iload_n hX dX3_readLine_45 rfl 2 rfl ?_
    refine z_gets_NUMBERS_OF hs hX lk_X3_readLine_g105 dX3_readLine_46 ?_
    refine z_iload_n hX dX3_readLine_49 rfl 1 rfl ?_
    refine z_sald_NUMBERS_OF hs hX dX3_readLine_50 ?_
    refine z_icmp_ge (tgt := 86) hX dX3_readLine_51 (by decide) ?_ ?_
    · refine z_aload_n hX dX3_readLine_86 rfl 0 rfl ?_
      refine z_getI (k := 3) hX (z_scr0 hs) rfl rfl in_X3_readLine_X3 (by decide) lk_X3_readLine_f43 dX3_readLine_87 ?_
      refine z_if_ne (tgt := 98) hX dX3_readLine_90 (by decide) ?_ ?_
      · refine z_sub [0, 1] rfl ?_
        exact w_X3_readLine_98 M V hs hX x1 σ
      · refine z_aload_n hX dX3_readLine_93 rfl 0 rfl ?_
        refine z_iconst (v := 2) hX dX3_readLine_94 (by decide) ?_
        refine z_callVV (n := 1) hX (c_X3_expect M.2.1 V hX.2.2.2.2.2 hs (2 : Int32) σ) gX3_readLine_X3_expect rfl (by decide +kernel) ⟨by decide, by decide⟩ rfl rfl (z_scr0 hs) rfl rfl rfl rfl (Nat.le_of_ble_eq_true rfl) dX3_readLine_95 (fun r3 _ => ?_)
        refine z_sub [0, 1] rfl ?_
        exact w_X3_readLine_98 M V hs hX x1 r3.2
    · refine z_aload_n hX dX3_readLine_54 rfl 0 rfl ?_
      refine z_getI (k := 3) hX (z_scr0 hs) rfl rfl in_X3_readLine_X3 (by decide) lk_X3_readLine_f43 dX3_readLine_55 ?_
      refine z_if_ne (tgt := 86) hX dX3_readLine_58 (by decide) ?_ ?_
      · refine z_aload_n hX dX3_readLine_86 rfl 0 rfl ?_
        refine z_getI (k := 3) hX (z_scr0 hs) rfl rfl in_X3_readLine_X3 (by decide) lk_X3_readLine_f43 dX3_readLine_87 ?_
        refine z_if_ne (tgt := 98) hX dX3_readLine_90 (by decide) ?_ ?_
        · refine z_sub [0, 1] rfl ?_
          exact w_X3_readLine_98 M V hs hX x1 σ
        · refine z_aload_n hX dX3_readLine_93 rfl 0 rfl ?_
          refine z_iconst (v := 2) hX dX3_readLine_94 (by decide) ?_
          refine z_callVV (n := 1) hX (c_X3_expect M.2.1 V hX.2.2.2.2.2 hs (2 : Int32) σ) gX3_readLine_X3_expect rfl (by decide +kernel) ⟨by decide, by decide⟩ rfl rfl (z_scr0 hs) rfl rfl rfl rfl (Nat.le_of_ble_eq_true rfl) dX3_readLine_95 (fun r4 _ => ?_)
          refine z_sub [0, 1] rfl ?_
          exact w_X3_readLine_98 M V hs hX x1 r4.2
      · refine z_aload_n hX dX3_readLine_61 rfl 0 rfl ?_
        refine z_getR (k := 5) hX (z_scr0 hs) rfl rfl in_X3_readLine_X3 (by decide) lk_X3_readLine_f29 dX3_readLine_62 ?_
        refine z_iload_n hX dX3_readLine_65 rfl 2 rfl ?_
        refine z_aload_n hX dX3_readLine_66 rfl 0 rfl ?_
        refine z_gets_BOUNDS hs hX lk_X3_readLine_g108 dX3_readLine_67 ?_
        refine z_iload_n hX dX3_readLine_70 rfl 1 rfl ?_
        refine z_iconst (v := 4) hX dX3_readLine_71 (by decide) ?_
        refine z_imul hX dX3_readLine_72 ?_
        refine z_iload_n hX dX3_readLine_73 rfl 2 rfl ?_
        refine z_iadd hX dX3_readLine_74 ?_
        refine z_sald_BOUNDS hs hX dX3_readLine_75 ?_
        refine z_callVI (n := 1) hX (c_X3_readNumber M.2.1 V hX.2.2.2.2.2 hs (z_k_BOUNDS ((x1 * (4 : Int32)) + x3)) σ) gX3_readLine_X3_readNumber rfl (by decide +kernel) ⟨by decide, by decide⟩ rfl rfl (z_scr0 hs) rfl rfl rfl rfl (Nat.le_of_ble_eq_true rfl) dX3_readLine_76 (fun r5 _ => ?_)
        refine z_iast hX (z_scr2 hs) dX3_readLine_79 (z_bs fun s6 => ?_)
        refine z_iinc (v := (x3 + 1)) (lv' := [(3, .int (x3 + 1)), (0, .ref (z_ad V 27)), (1, .int x1)]) hX dX3_readLine_80 2 rfl rfl (by decide) rfl ?_
        refine z_goto (tgt := 45) hX dX3_readLine_83 (by decide) ?_
        refine z_sub [1, 2, 0] rfl ?_
        exact ih x1 (x3 + 1) s6
set_option maxHeartbeats 4000000 in
set_option maxRecDepth 100000 in
theorem w_X3_readLine_15 (M : z_M) (V : z_V) (hs : z_isX V) (hX : z_Cx M V cX3_readLine 4 none wsX3_readLine RX3) (y0 : Int32) (σ : z_St) : z_Go M rm_X3_readLine 4 V (z_QV V) σ 15 [(0, .ref (z_ad V 27))] [.int y0] (f_X3_readLine_15 y0 σ) := by
  unfold f_X3_readLine_15
  refine z_istore_n (lv' := [(1, .int y0), (0, .ref (z_ad V 27))]) hX dX3_readLine_15 rfl (by decide) rfl ?_
  refine z_iload_n hX dX3_readLine_16 rfl 0 rfl ?_
  refine z_iconst (v := -1) hX dX3_readLine_17 (by decide) ?_
  refine z_icmp_ne (tgt := 27) hX dX3_readLine_18 (by decide) ?_ ?_
  · refine z_aload_n hX dX3_readLine_27 rfl 1 rfl ?_
    refine z_iload_n hX dX3_readLine_28 rfl 0 rfl ?_
    refine z_callVI (n := 1) hX (c_X3_faultOfWord M.2.1 V hX.2.2.2.2.2 hs y0 σ) gX3_readLine_X3_faultOfWord rfl (by decide +kernel) ⟨by decide, by decide⟩ rfl rfl (z_scr0 hs) rfl rfl rfl rfl (Nat.le_of_ble_eq_true rfl) dX3_readLine_29 (fun r1 _ => ?_)
    refine z_istore_n (lv' := [(2, .int r1.1), (1, .int y0), (0, .ref (z_ad V 27))]) hX dX3_readLine_32 rfl (by decide) rfl ?_
    refine z_iload_n hX dX3_readLine_33 rfl 0 rfl ?_
    refine z_if_eq (tgt := 43) hX dX3_readLine_34 (by decide) ?_ ?_
    · refine z_iconst (v := 0) hX dX3_readLine_43 (by decide) ?_
      refine z_istore_n (lv' := [(3, .int (0 : Int32)), (2, .int r1.1), (1, .int y0), (0, .ref (z_ad V 27))]) hX dX3_readLine_44 rfl (by decide) rfl ?_
      refine z_sub [3, 2, 0] rfl ?_
      exact w_X3_readLine_45 M V hs hX 200 y0 (0 : Int32) r1.2
    · refine z_aload_n hX dX3_readLine_37 rfl 2 rfl ?_
      refine z_iload_n hX dX3_readLine_38 rfl 0 rfl ?_
      refine z_callVV (n := 1) hX (c_X3_refuse M.2.1 V hX.2.2.2.2.2 hs r1.1 r1.2) gX3_readLine_X3_refuse rfl (by decide +kernel) ⟨by decide, by decide⟩ rfl rfl (z_scr0 hs) rfl rfl rfl rfl (Nat.le_of_ble_eq_true rfl) dX3_readLine_39 (fun r7 _ => ?_)
      exact z_vret hX dX3_readLine_42
  · refine z_aload_n hX dX3_readLine_21 rfl 1 rfl ?_
    refine z_iconst (v := 2) hX dX3_readLine_22 (by decide) ?_
    refine z_callVV (n := 1) hX (c_X3_refuse M.2.1 V hX.2.2.2.2.2 hs (2 : Int32) σ) gX3_readLine_X3_refuse rfl (by decide +kernel) ⟨by decide, by decide⟩ rfl rfl (z_scr0 hs) rfl rfl rfl rfl (Nat.le_of_ble_eq_true rfl) dX3_readLine_23 (fun r8 _ => ?_)
    exact z_vret hX dX3_readLine_26
set_option maxHeartbeats 4000000 in
set_option maxRecDepth 100000 in
theorem c_X3_readLine (l : Launch) (V : z_V) (hV : z_ok V) (hs : z_isX V) (σ : z_St) : z_CtV l V yX3_readLine wsX3_readLine rm_X3_readLine [.ref (z_ad V 27)] σ (f_X3_readLine σ) := by
  refine z_startV (lv := [(0, .ref (z_ad V 27))]) hV (by decide) rfl (Nat.le_of_ble_eq_true rfl) rfl ?_
  intro M hM hX
  have hX : z_Cx M V cX3_readLine 4 none wsX3_readLine RX3 := hX
  unfold f_X3_readLine
  refine z_aload_n hX dX3_readLine_0 rfl 0 rfl ?_
  refine z_getI (k := 8) hX (z_scr0 hs) rfl rfl in_X3_readLine_X3 (by decide) lk_X3_readLine_f46 dX3_readLine_1 ?_
  refine z_if_ne (tgt := 14) hX dX3_readLine_4 (by decide) ?_ ?_
  · refine z_iconst (v := -1) hX dX3_readLine_14 (by decide) ?_
    exact w_X3_readLine_15 M V hs hX (-1 : Int32) σ
  · refine z_aload_n hX dX3_readLine_7 rfl 0 rfl ?_
    refine z_callVI (n := 0) hX (c_X3_wordRead M.2.1 V hX.2.2.2.2.2 hs σ) gX3_readLine_X3_wordRead rfl (by decide +kernel) ⟨by decide, by decide⟩ rfl rfl (z_scr0 hs) rfl rfl rfl rfl (Nat.le_of_ble_eq_true rfl) dX3_readLine_8 (fun r9 _ => ?_)
    refine z_goto (tgt := 15) hX dX3_readLine_11 (by decide) ?_
    exact w_X3_readLine_15 M V hs hX r9.1 r9.2

abbrev rm_X3_readTape : Room := { frames := 7, cells := 0, slots := 0, locals := 150 }
theorem in_X3_readTape_X1 : ∀ w ∈ wsX10, w ∈ wsX3_readTape := fun w h => List.mem_cons_of_mem _ (List.mem_append_left _ (List.mem_append_right _ h))
theorem in_X3_readTape_X3 : ∀ w ∈ wsX30, w ∈ wsX3_readTape := fun w h => List.mem_cons_of_mem _ (List.mem_append_left _ (List.mem_append_left _ (List.mem_append_right _ h)))
theorem lk_X3_readTape_f43 : Cond.fieldLink RX3 43 (TX3 3).1 (TX3 3).2.1 (TX3 3).2.2.1 ∈ wsX3_readTape := by decide +kernel
theorem lk_X3_readTape_f33 : Cond.fieldLink RX3 33 (TX3 2).1 (TX3 2).2.1 (TX3 2).2.2.1 ∈ wsX3_readTape := by decide +kernel
theorem lk_X3_readTape_f59 : Cond.fieldLink RX3 59 (TX3 6).1 (TX3 6).2.1 (TX3 6).2.2.1 ∈ wsX3_readTape := by decide +kernel
theorem lk_X3_readTape_f12 : Cond.fieldLink RX3 12 (TX3 0).1 (TX3 0).2.1 (TX3 0).2.2.1 ∈ wsX3_readTape := by decide +kernel
theorem lk_X3_readTape_f21 : Cond.fieldLink RX3 21 (TX3 1).1 (TX3 1).2.1 (TX3 1).2.2.1 ∈ wsX3_readTape := by decide +kernel
theorem lk_X3_readTape_f52 : Cond.fieldLink RX3 52 (TX1 0).1 (TX1 0).2.1 (TX1 0).2.2.1 ∈ wsX3_readTape := by decide +kernel
theorem lk_X3_readTape_f46 : Cond.fieldLink RX3 46 (TX3 8).1 (TX3 8).2.1 (TX3 8).2.2.1 ∈ wsX3_readTape := by decide +kernel
set_option maxHeartbeats 4000000 in
set_option maxRecDepth 100000 in
theorem w_X3_readTape_103 (M : z_M) (V : z_V) (hs : z_isX V) (hX : z_Cx M V cX3_readTape 3 (some .int) wsX3_readTape RX3) (x1 : Int32) (σ : z_St) : z_Go M rm_X3_readTape 3 V (z_QI V) σ 103 [(0, .ref (z_ad V 27)), (1, .int x1)] [] (f_X3_readTape_103 x1 σ) := by
  unfold f_X3_readTape_103
  refine z_aload_n hX dX3_readTape_103 rfl 0 rfl ?_
  refine z_iconst (v := 0) hX dX3_readTape_104 (by decide) ?_
  refine z_put1 (k := 2) hX (z_scr0 hs) rfl rfl in_X3_readTape_X3 (by decide) lk_X3_readTape_f33 tyX3 tyX3_ok nmX3 rfl rfl rfl dX3_readTape_105 (z_bs fun s2 => ?_)
  refine z_aload_n hX dX3_readTape_108 rfl 0 rfl ?_
  refine z_getI (k := 3) hX (z_scr0 hs) rfl rfl in_X3_readTape_X3 (by decide) lk_X3_readTape_f43 dX3_readTape_109 ?_
  refine z_if_ne (tgt := 119) hX dX3_readTape_112 (by decide) ?_ ?_
  · refine z_bipush (v := -10) hX dX3_readTape_119 (by decide) ?_
    refine z_aload_n hX dX3_readTape_121 rfl 0 rfl ?_
    refine z_getI (k := 6) hX (z_scr0 hs) rfl rfl in_X3_readTape_X3 (by decide) lk_X3_readTape_f59 dX3_readTape_122 ?_
    refine z_isub hX dX3_readTape_125 ?_
    exact z_iret hX dX3_readTape_126
  · refine z_iload_n hX dX3_readTape_115 rfl 1 rfl ?_
    refine z_goto (tgt := 126) hX dX3_readTape_116 (by decide) ?_
    exact z_iret hX dX3_readTape_126
set_option maxHeartbeats 4000000 in
set_option maxRecDepth 100000 in
theorem w_X3_readTape_65 (M : z_M) (V : z_V) (hs : z_isX V) (hX : z_Cx M V cX3_readTape 3 (some .int) wsX3_readTape RX3) (x1 : Int32) (σ : z_St) : z_Go M rm_X3_readTape 3 V (z_QI V) σ 65 [(0, .ref (z_ad V 27)), (1, .int x1)] [] (f_X3_readTape_65 x1 σ) := by
  unfold f_X3_readTape_65
  refine z_aload_n hX dX3_readTape_65 rfl 0 rfl ?_
  refine z_getI (k := 3) hX (z_scr0 hs) rfl rfl in_X3_readTape_X3 (by decide) lk_X3_readTape_f43 dX3_readTape_66 ?_
  refine z_if_ne (tgt := 103) hX dX3_readTape_69 (by decide) ?_ ?_
  · exact w_X3_readTape_103 M V hs hX x1 σ
  · refine z_aload_n hX dX3_readTape_72 rfl 0 rfl ?_
    refine z_getR (k := 0) hX (z_scr0 hs) rfl rfl in_X3_readTape_X3 (by decide) lk_X3_readTape_f12 dX3_readTape_73 ?_
    refine z_aload_n hX dX3_readTape_76 rfl 0 rfl ?_
    refine z_getR (k := 1) hX (z_scr0 hs) rfl rfl in_X3_readTape_X3 (by decide) lk_X3_readTape_f21 dX3_readTape_77 ?_
    refine z_getI (k := 0) hX (z_led0 hs z_isled37) rfl rfl in_X3_readTape_X1 (by decide) lk_X3_readTape_f52 dX3_readTape_80 ?_
    refine z_callVI (n := 1) hX (c_X5_knowsAllOf M.2.1 V hX.2.2.2.2.2 hs 30 z_issto30 (σ 37 0) σ) gX3_readTape_X5_knowsAllOf rfl (by decide +kernel) ⟨by decide, by decide⟩ rfl rfl (z_sto0 hs z_issto30) rfl rfl rfl rfl (Nat.le_of_ble_eq_true rfl) dX3_readTape_83 (fun r3 _ => ?_)
    refine z_if_ne (tgt := 103) hX dX3_readTape_86 (by decide) ?_ ?_
    · exact w_X3_readTape_103 M V hs hX x1 r3.2
    · refine z_aload_n hX dX3_readTape_89 rfl 0 rfl ?_
      refine z_bipush (v := 6) hX dX3_readTape_90 (by decide) ?_
      refine z_put1 (k := 3) hX (z_scr0 hs) rfl rfl in_X3_readTape_X3 (by decide) lk_X3_readTape_f43 tyX3 tyX3_ok nmX3 rfl rfl rfl dX3_readTape_92 (z_bs fun s4 => ?_)
      refine z_aload_n hX dX3_readTape_95 rfl 0 rfl ?_
      refine z_aload_n hX dX3_readTape_96 rfl 0 rfl ?_
      refine z_getI (k := 2) hX (z_scr0 hs) rfl rfl in_X3_readTape_X3 (by decide) lk_X3_readTape_f33 dX3_readTape_97 ?_
      refine z_put1 (k := 6) hX (z_scr0 hs) rfl rfl in_X3_readTape_X3 (by decide) lk_X3_readTape_f59 tyX3 tyX3_ok nmX3 rfl rfl rfl dX3_readTape_100 (z_bs fun s5 => ?_)
      exact w_X3_readTape_103 M V hs hX x1 s5
set_option maxHeartbeats 4000000 in
set_option maxRecDepth 100000 in
theorem w_X3_readTape_41 (M : z_M) (V : z_V) (hs : z_isX V) (hX : z_Cx M V cX3_readTape 3 (some .int) wsX3_readTape RX3) (K8 : Int32 → Int32 → z_St → Option (Int32 × z_St)) (hK8 : ∀ (x1 : Int32) (x2 : Int32) (σ : z_St), z_Go M rm_X3_readTape 3 V (z_QI V) σ 8 [(0, .ref (z_ad V 27)), (1, .int x1), (2, .int x2)] [] (K8 x1 x2 σ)) (x1 : Int32) (x2 : Int32) (σ : z_St) : z_Go M rm_X3_readTape 3 V (z_QI V) σ 41 [(0, .ref (z_ad V 27)), (1, .int x1), (2, .int x2)] [] (f_X3_readTape_41 K8 x1 x2 σ) := by
  unfold f_X3_readTape_41
  refine z_aload_n hX dX3_readTape_41 rfl 0 rfl ?_
  refine z_getI (k := 3) hX (z_scr0 hs) rfl rfl in_X3_readTape_X3 (by decide) lk_X3_readTape_f43 dX3_readTape_42 ?_
  refine z_if_ne (tgt := 65) hX dX3_readTape_45 (by decide) ?_ ?_
  · refine z_sub [0, 1] rfl ?_
    exact w_X3_readTape_65 M V hs hX x1 σ
  · refine z_aload_n hX dX3_readTape_48 rfl 0 rfl ?_
    refine z_getI (k := 8) hX (z_scr0 hs) rfl rfl in_X3_readTape_X3 (by decide) lk_X3_readTape_f46 dX3_readTape_49 ?_
    refine z_iconst (v := 3) hX dX3_readTape_52 (by decide) ?_
    refine z_icmp_ne (tgt := 59) hX dX3_readTape_53 (by decide) ?_ ?_
    · refine z_iinc (v := (x2 + 1)) (lv' := [(2, .int (x2 + 1)), (0, .ref (z_ad V 27)), (1, .int x1)]) hX dX3_readTape_59 2 rfl rfl (by decide) rfl ?_
      refine z_goto (tgt := 8) hX dX3_readTape_62 (by decide) ?_
      refine z_sub [1, 2, 0] rfl ?_
      exact hK8 x1 (x2 + 1) σ
    · refine z_goto (tgt := 65) hX dX3_readTape_56 (by decide) ?_
      refine z_sub [0, 1] rfl ?_
      exact w_X3_readTape_65 M V hs hX x1 σ
set_option maxHeartbeats 4000000 in
set_option maxRecDepth 100000 in
theorem w_X3_readTape_8 (M : z_M) (V : z_V) (hs : z_isX V) (hX : z_Cx M V cX3_readTape 3 (some .int) wsX3_readTape RX3) : ∀ (n : Nat) (x1 : Int32) (x2 : Int32) (σ : z_St), z_Go M rm_X3_readTape 3 V (z_QI V) σ 8 [(0, .ref (z_ad V 27)), (1, .int x1), (2, .int x2)] [] (f_X3_readTape_8 n x1 x2 σ) := by
  intro n
  induction n with
  | zero => intro x1 x2 σ; exact z_none
  | succ n ih =>
    intro x1 x2 σ
    rw [f_X3_readTape_8]
    refine z_iload_n hX dX3_readTape_8 rfl 2 rfl ?_
    refine z_sipush (v := 160) hX dX3_readTape_9 (by decide) ?_
    refine z_icmp_gt (tgt := 65) hX dX3_readTape_12 (by decide) ?_ ?_
    · refine z_sub [0, 1] rfl ?_
      exact w_X3_readTape_65 M V hs hX x1 σ
    · refine z_aload_n hX dX3_readTape_15 rfl 0 rfl ?_
      refine z_callVV (n := 0) hX (c_X3_nextToken M.2.1 V hX.2.2.2.2.2 hs σ) gX3_readTape_X3_nextToken rfl (by decide +kernel) ⟨by decide, by decide⟩ rfl rfl (z_scr0 hs) rfl rfl rfl rfl (Nat.le_of_ble_eq_true rfl) dX3_readTape_16 (fun r6 _ => ?_)
      refine z_aload_n hX dX3_readTape_19 rfl 0 rfl ?_
      refine z_getI (k := 3) hX (z_scr0 hs) rfl rfl in_X3_readTape_X3 (by decide) lk_X3_readTape_f43 dX3_readTape_20 ?_
      refine z_if_ne (tgt := 41) hX dX3_readTape_23 (by decide) ?_ ?_
      · exact w_X3_readTape_41 M V hs hX (fun x1 x2 σ => f_X3_readTape_8 n x1 x2 σ) ih x1 x2 r6.2
      · refine z_aload_n hX dX3_readTape_26 rfl 0 rfl ?_
        refine z_getI (k := 8) hX (z_scr0 hs) rfl rfl in_X3_readTape_X3 (by decide) lk_X3_readTape_f46 dX3_readTape_27 ?_
        refine z_iconst (v := 3) hX dX3_readTape_30 (by decide) ?_
        refine z_icmp_eq (tgt := 41) hX dX3_readTape_31 (by decide) ?_ ?_
        · exact w_X3_readTape_41 M V hs hX (fun x1 x2 σ => f_X3_readTape_8 n x1 x2 σ) ih x1 x2 r6.2
        · refine z_aload_n hX dX3_readTape_34 rfl 0 rfl ?_
          refine z_callVV (n := 0) hX (c_X3_readLine M.2.1 V hX.2.2.2.2.2 hs r6.2) gX3_readTape_X3_readLine rfl (by decide +kernel) ⟨by decide, by decide⟩ rfl rfl (z_scr0 hs) rfl rfl rfl rfl (Nat.le_of_ble_eq_true rfl) dX3_readTape_35 (fun r7 _ => ?_)
          refine z_iinc (v := (x1 + 1)) (lv' := [(1, .int (x1 + 1)), (0, .ref (z_ad V 27)), (2, .int x2)]) hX dX3_readTape_38 1 rfl rfl (by decide) rfl ?_
          refine z_sub [1, 0, 2] rfl ?_
          exact w_X3_readTape_41 M V hs hX (fun x1 x2 σ => f_X3_readTape_8 n x1 x2 σ) ih (x1 + 1) x2 r7.2
set_option maxHeartbeats 4000000 in
set_option maxRecDepth 100000 in
theorem c_X3_readTape (l : Launch) (V : z_V) (hV : z_ok V) (hs : z_isX V) (σ : z_St) : z_CtI l V yX3_readTape wsX3_readTape rm_X3_readTape [.ref (z_ad V 27)] σ (f_X3_readTape σ) := by
  refine z_startI (lv := [(0, .ref (z_ad V 27))]) hV (by decide) rfl (Nat.le_of_ble_eq_true rfl) rfl ?_
  intro M hM hX
  have hX : z_Cx M V cX3_readTape 3 (some .int) wsX3_readTape RX3 := hX
  unfold f_X3_readTape
  refine z_aload_n hX dX3_readTape_0 rfl 0 rfl ?_
  refine z_callVV (n := 0) hX (c_X3_begin M.2.1 V hX.2.2.2.2.2 hs σ) gX3_readTape_X3_begin rfl (by decide +kernel) ⟨by decide, by decide⟩ rfl rfl (z_scr0 hs) rfl rfl rfl rfl (Nat.le_of_ble_eq_true rfl) dX3_readTape_1 (fun r1 _ => ?_)
  refine z_iconst (v := 0) hX dX3_readTape_4 (by decide) ?_
  refine z_istore_n (lv' := [(1, .int (0 : Int32)), (0, .ref (z_ad V 27))]) hX dX3_readTape_5 rfl (by decide) rfl ?_
  refine z_iconst (v := 0) hX dX3_readTape_6 (by decide) ?_
  refine z_istore_n (lv' := [(2, .int (0 : Int32)), (1, .int (0 : Int32)), (0, .ref (z_ad V 27))]) hX dX3_readTape_7 rfl (by decide) rfl ?_
  refine z_sub [2, 1, 0] rfl ?_
  exact w_X3_readTape_8 M V hs hX 200 (0 : Int32) (0 : Int32) r1.2
