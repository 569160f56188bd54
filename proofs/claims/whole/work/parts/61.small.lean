abbrev rm_X2_append : Room := { frames := 0, cells := 0, slots := 0, locals := 0 }
theorem in_X2_append_X2 : ∀ w ∈ wsX20, w ∈ wsX2_append := fun w h => List.mem_cons_of_mem _ (List.mem_append_right _ h)
theorem lk_X2_append_f21 : Cond.fieldLink RX2 21 (TX2 0).1 (TX2 0).2.1 (TX2 0).2.2.1 ∈ wsX2_append := by decide +kernel
theorem lk_X2_append_f9 : Cond.fieldLink RX2 9 (TX2 1).1 (TX2 1).2.1 (TX2 1).2.2.1 ∈ wsX2_append := by decide +kernel
theorem lk_X2_append_f15 : Cond.fieldLink RX2 15 (TX2 2).1 (TX2 2).2.1 (TX2 2).2.2.1 ∈ wsX2_append := by decide +kernel
theorem lk_X2_append_f18 : Cond.fieldLink RX2 18 (TX2 3).1 (TX2 3).2.1 (TX2 3).2.2.1 ∈ wsX2_append := by decide +kernel
set_option maxHeartbeats 4000000 in
set_option maxRecDepth 100000 in
theorem w_X2_append_49 (M : z_M) (V : z_V) (hs : z_isX V) (hX : z_Cx M V cX2_append 4 (some .int) wsX2_append RX2) (b : Nat) (hb : z_Nts b) (y0 : Int32) (y1 : Int32) (σ : z_St) : z_Go M rm_X2_append 4 V (z_QI V) σ 49 [(0, .ref (z_ad V b))] [.int y0, .int y1, .ref (z_ad V (b + 3))] (f_X2_append_49 b y0 y1 σ) := by
  unfold f_X2_append_49
  refine z_iast hX (z_nts3 hs hb) dX2_append_49 (z_bs fun s3 => ?_)
  refine z_aload_n hX dX2_append_50 rfl 0 rfl ?_
  refine z_dup hX dX2_append_51 rfl ?_
  refine z_getI (k := 0) hX (z_nts0 hs hb) rfl rfl in_X2_append_X2 (by decide) lk_X2_append_f21 dX2_append_52 ?_
  refine z_iconst (v := 1) hX dX2_append_55 (by decide) ?_
  refine z_iadd hX dX2_append_56 ?_
  refine z_put1 (k := 0) hX (z_nts0 hs hb) rfl rfl in_X2_append_X2 (by decide) lk_X2_append_f21 tyX2 tyX2_ok nmX2 rfl rfl rfl dX2_append_57 (z_bs fun s4 => ?_)
  refine z_aload_n hX dX2_append_60 rfl 0 rfl ?_
  refine z_getI (k := 0) hX (z_nts0 hs hb) rfl rfl in_X2_append_X2 (by decide) lk_X2_append_f21 dX2_append_61 ?_
  exact z_iret hX dX2_append_64
set_option maxHeartbeats 4000000 in
set_option maxRecDepth 100000 in
theorem c_X2_append (l : Launch) (V : z_V) (hV : z_ok V) (hs : z_isX V) (b : Nat) (hb : z_Nts b) (x1 : Int32) (x2 : Int32) (x3 : Int32) (σ : z_St) : z_CtI l V yX2_append wsX2_append rm_X2_append [.ref (z_ad V b), .int x1, .int x2, .int x3] σ (f_X2_append b x1 x2 x3 σ) := by
  refine z_startI (lv := [(0, .ref (z_ad V b)), (1, .int x1), (2, .int x2), (3, .int x3)]) hV (by decide) rfl (Nat.le_of_ble_eq_true rfl) rfl ?_
  intro M hM hX
  have hX : z_Cx M V cX2_append 4 (some .int) wsX2_append RX2 := hX
  unfold f_X2_append
  refine z_aload_n hX dX2_append_0 rfl 0 rfl ?_
  refine z_getI (k := 0) hX (z_nts0 hs hb) rfl rfl in_X2_append_X2 (by decide) lk_X2_append_f21 dX2_append_1 ?_
  refine z_bipush (v := 6) hX dX2_append_4 (by decide) ?_
  refine z_icmp_lt (tgt := 12) hX dX2_append_6 (by decide) ?_ ?_
  · refine z_aload_n hX dX2_append_12 rfl 0 rfl ?_
    refine z_getR (k := 1) hX (z_nts0 hs hb) rfl rfl in_X2_append_X2 (by decide) lk_X2_append_f9 dX2_append_13 ?_
    refine z_aload_n hX dX2_append_16 rfl 0 rfl ?_
    refine z_getI (k := 0) hX (z_nts0 hs hb) rfl rfl in_X2_append_X2 (by decide) lk_X2_append_f21 dX2_append_17 ?_
    refine z_iload_n hX dX2_append_20 rfl 1 rfl ?_
    refine z_iast hX (z_nts1 hs hb) dX2_append_21 (z_bs fun s1 => ?_)
    refine z_aload_n hX dX2_append_22 rfl 0 rfl ?_
    refine z_getR (k := 2) hX (z_nts0 hs hb) rfl rfl in_X2_append_X2 (by decide) lk_X2_append_f15 dX2_append_23 ?_
    refine z_aload_n hX dX2_append_26 rfl 0 rfl ?_
    refine z_getI (k := 0) hX (z_nts0 hs hb) rfl rfl in_X2_append_X2 (by decide) lk_X2_append_f21 dX2_append_27 ?_
    refine z_iload_n hX dX2_append_30 rfl 2 rfl ?_
    refine z_iast hX (z_nts2 hs hb) dX2_append_31 (z_bs fun s2 => ?_)
    refine z_aload_n hX dX2_append_32 rfl 0 rfl ?_
    refine z_getR (k := 3) hX (z_nts0 hs hb) rfl rfl in_X2_append_X2 (by decide) lk_X2_append_f18 dX2_append_33 ?_
    refine z_aload_n hX dX2_append_36 rfl 0 rfl ?_
    refine z_getI (k := 0) hX (z_nts0 hs hb) rfl rfl in_X2_append_X2 (by decide) lk_X2_append_f21 dX2_append_37 ?_
    refine z_iload_n hX dX2_append_40 rfl 3 rfl ?_
    refine z_if_eq (tgt := 48) hX dX2_append_41 (by decide) ?_ ?_
    · refine z_iconst (v := 0) hX dX2_append_48 (by decide) ?_
      refine z_sub [0] rfl ?_
      exact w_X2_append_49 M V hs hX b hb (0 : Int32) (s2 b 0) s2
    · refine z_iconst (v := 1) hX dX2_append_44 (by decide) ?_
      refine z_goto (tgt := 49) hX dX2_append_45 (by decide) ?_
      refine z_sub [0] rfl ?_
      exact w_X2_append_49 M V hs hX b hb (1 : Int32) (s2 b 0) s2
  · refine z_bipush (v := -3) hX dX2_append_9 (by decide) ?_
    exact z_iret hX dX2_append_11

abbrev rm_X2_agree : Room := { frames := 0, cells := 0, slots := 0, locals := 0 }
theorem in_X2_agree_X2 : ∀ w ∈ wsX20, w ∈ wsX2_agree := fun w h => List.mem_cons_of_mem _ (List.mem_append_right _ h)
theorem lk_X2_agree_f21 : Cond.fieldLink RX2 21 (TX2 0).1 (TX2 0).2.1 (TX2 0).2.2.1 ∈ wsX2_agree := by decide +kernel
theorem lk_X2_agree_f15 : Cond.fieldLink RX2 15 (TX2 2).1 (TX2 2).2.1 (TX2 2).2.2.1 ∈ wsX2_agree := by decide +kernel
theorem lk_X2_agree_f9 : Cond.fieldLink RX2 9 (TX2 1).1 (TX2 1).2.1 (TX2 1).2.2.1 ∈ wsX2_agree := by decide +kernel
theorem lk_X2_agree_f18 : Cond.fieldLink RX2 18 (TX2 3).1 (TX2 3).2.1 (TX2 3).2.2.1 ∈ wsX2_agree := by decide +kernel
set_option maxHeartbeats 4000000 in
set_option maxRecDepth 100000 in
theorem w_X2_agree_2 (M : z_M) (V : z_V) (hs : z_isX V) (hX : z_Cx M V cX2_agree 4 (some .boolean) wsX2_agree RX2) (b : Nat) (hb : z_Nts b) : ∀ (n : Nat) (x1 : Int32) (x2 : Int32) (x3 : Int32) (σ : z_St), z_Go M rm_X2_agree 4 V (z_QI V) σ 2 [(0, .ref (z_ad V b)), (1, .int x1), (2, .int x2), (3, .int x3)] [] (f_X2_agree_2 b n x1 x2 x3 σ) := by
  intro n
  induction n with
  | zero => intro x1 x2 x3 σ; exact z_none
  | succ n ih =>
    intro x1 x2 x3 σ
    rw [f_X2_agree_2]
    refine z_iload_n hX dX2_agree_2 rfl 3 rfl ?_
    refine z_aload_n hX dX2_agree_3 rfl 0 rfl ?_
    refine z_getI (k := 0) hX (z_nts0 hs hb) rfl rfl in_X2_agree_X2 (by decide) lk_X2_agree_f21 dX2_agree_4 ?_
    refine z_icmp_ge (tgt := 47) hX dX2_agree_7 (by decide) ?_ ?_
    · refine z_iconst (v := 1) hX dX2_agree_47 (by decide) ?_
      exact z_zret hX dX2_agree_48 rfl
    · refine z_aload_n hX dX2_agree_10 rfl 0 rfl ?_
      refine z_getR (k := 2) hX (z_nts0 hs hb) rfl rfl in_X2_agree_X2 (by decide) lk_X2_agree_f15 dX2_agree_11 ?_
      refine z_iload_n hX dX2_agree_14 rfl 3 rfl ?_
      refine z_iald hX (z_nts2 hs hb) dX2_agree_15 ?_
      refine z_iload_n hX dX2_agree_16 rfl 1 rfl ?_
      refine z_icmp_ne (tgt := 41) hX dX2_agree_17 (by decide) ?_ ?_
      · refine z_iinc (v := (x3 + 1)) (lv' := [(3, .int (x3 + 1)), (0, .ref (z_ad V b)), (1, .int x1), (2, .int x2)]) hX dX2_agree_41 3 rfl rfl (by decide) rfl ?_
        refine z_goto (tgt := 2) hX dX2_agree_44 (by decide) ?_
        refine z_sub [1, 2, 3, 0] rfl ?_
        exact ih x1 x2 (x3 + 1) σ
      · refine z_iload_n hX dX2_agree_20 rfl 2 rfl ?_
        refine z_aload_n hX dX2_agree_21 rfl 0 rfl ?_
        refine z_getR (k := 1) hX (z_nts0 hs hb) rfl rfl in_X2_agree_X2 (by decide) lk_X2_agree_f9 dX2_agree_22 ?_
        refine z_iload_n hX dX2_agree_25 rfl 3 rfl ?_
        refine z_iald hX (z_nts1 hs hb) dX2_agree_26 ?_
        refine z_ishr hX dX2_agree_27 ?_
        refine z_iconst (v := 1) hX dX2_agree_28 (by decide) ?_
        refine z_iand hX dX2_agree_29 ?_
        refine z_aload_n hX dX2_agree_30 rfl 0 rfl ?_
        refine z_getR (k := 3) hX (z_nts0 hs hb) rfl rfl in_X2_agree_X2 (by decide) lk_X2_agree_f18 dX2_agree_31 ?_
        refine z_iload_n hX dX2_agree_34 rfl 3 rfl ?_
        refine z_iald hX (z_nts3 hs hb) dX2_agree_35 ?_
        refine z_icmp_eq (tgt := 41) hX dX2_agree_36 (by decide) ?_ ?_
        · refine z_iinc (v := (x3 + 1)) (lv' := [(3, .int (x3 + 1)), (0, .ref (z_ad V b)), (1, .int x1), (2, .int x2)]) hX dX2_agree_41 3 rfl rfl (by decide) rfl ?_
          refine z_goto (tgt := 2) hX dX2_agree_44 (by decide) ?_
          refine z_sub [1, 2, 3, 0] rfl ?_
          exact ih x1 x2 (x3 + 1) σ
        · refine z_iconst (v := 0) hX dX2_agree_39 (by decide) ?_
          exact z_zret hX dX2_agree_40 rfl
set_option maxHeartbeats 4000000 in
set_option maxRecDepth 100000 in
theorem c_X2_agree (l : Launch) (V : z_V) (hV : z_ok V) (hs : z_isX V) (b : Nat) (hb : z_Nts b) (x1 : Int32) (x2 : Int32) (σ : z_St) : z_CtI l V yX2_agree wsX2_agree rm_X2_agree [.ref (z_ad V b), .int x1, .int x2] σ (f_X2_agree b x1 x2 σ) := by
  refine z_startI (lv := [(0, .ref (z_ad V b)), (1, .int x1), (2, .int x2)]) hV (by decide) rfl (Nat.le_of_ble_eq_true rfl) rfl ?_
  intro M hM hX
  have hX : z_Cx M V cX2_agree 4 (some .boolean) wsX2_agree RX2 := hX
  unfold f_X2_agree
  refine z_iconst (v := 0) hX dX2_agree_0 (by decide) ?_
  refine z_istore_n (lv' := [(3, .int (0 : Int32)), (0, .ref (z_ad V b)), (1, .int x1), (2, .int x2)]) hX dX2_agree_1 rfl (by decide) rfl ?_
  refine z_sub [1, 2, 3, 0] rfl ?_
  exact w_X2_agree_2 M V hs hX b hb 200 x1 x2 (0 : Int32) σ

abbrev rm_X2_copyFrom : Room := { frames := 1, cells := 0, slots := 0, locals := 40 }
theorem in_X2_copyFrom_X2 : ∀ w ∈ wsX20, w ∈ wsX2_copyFrom := fun w h => List.mem_cons_of_mem _ (List.mem_append_right _ h)
theorem lk_X2_copyFrom_f21 : Cond.fieldLink RX2 21 (TX2 0).1 (TX2 0).2.1 (TX2 0).2.2.1 ∈ wsX2_copyFrom := by decide +kernel
theorem lk_X2_copyFrom_f9 : Cond.fieldLink RX2 9 (TX2 1).1 (TX2 1).2.1 (TX2 1).2.2.1 ∈ wsX2_copyFrom := by decide +kernel
theorem lk_X2_copyFrom_m25 : Cond.methodLink RX2 25 arraycopyName ∈ wsX2_copyFrom := by decide +kernel
theorem lk_X2_copyFrom_yN : Cond.native arraycopyName ∈ wsX2_copyFrom := by decide +kernel
theorem lk_X2_copyFrom_yS : Cond.static arraycopyName ∈ wsX2_copyFrom := by decide +kernel
theorem lk_X2_copyFrom_yI : Cond.initialized "java/lang/System" ∈ wsX2_copyFrom := by decide +kernel
theorem lk_X2_copyFrom_f15 : Cond.fieldLink RX2 15 (TX2 2).1 (TX2 2).2.1 (TX2 2).2.2.1 ∈ wsX2_copyFrom := by decide +kernel
theorem lk_X2_copyFrom_f18 : Cond.fieldLink RX2 18 (TX2 3).1 (TX2 3).2.1 (TX2 3).2.2.1 ∈ wsX2_copyFrom := by decide +kernel
set_option maxHeartbeats 4000000 in
set_option maxRecDepth 100000 in
theorem c_X2_copyFrom (l : Launch) (V : z_V) (hV : z_ok V) (hs : z_isX V) (b : Nat) (hb : z_Nts b) (o1 : Nat) (ho1 : z_Nts o1) (σ : z_St) : z_CtV l V yX2_copyFrom wsX2_copyFrom rm_X2_copyFrom [.ref (z_ad V b), .ref (z_ad V o1)] σ (f_X2_copyFrom b o1 σ) := by
  refine z_startV (lv := [(0, .ref (z_ad V b)), (1, .ref (z_ad V o1))]) hV (by decide) rfl (Nat.le_of_ble_eq_true rfl) rfl ?_
  intro M hM hX
  have hX : z_Cx M V cX2_copyFrom 2 none wsX2_copyFrom RX2 := hX
  unfold f_X2_copyFrom
  refine z_aload_n hX dX2_copyFrom_0 rfl 0 rfl ?_
  refine z_aload_n hX dX2_copyFrom_1 rfl 1 rfl ?_
  refine z_getI (k := 0) hX (z_nts0 hs ho1) rfl rfl in_X2_copyFrom_X2 (by decide) lk_X2_copyFrom_f21 dX2_copyFrom_2 ?_
  refine z_put1 (k := 0) hX (z_nts0 hs hb) rfl rfl in_X2_copyFrom_X2 (by decide) lk_X2_copyFrom_f21 tyX2 tyX2_ok nmX2 rfl rfl rfl dX2_copyFrom_5 (z_bs fun s1 => ?_)
  refine z_aload_n hX dX2_copyFrom_8 rfl 1 rfl ?_
  refine z_getR (k := 1) hX (z_nts0 hs ho1) rfl rfl in_X2_copyFrom_X2 (by decide) lk_X2_copyFrom_f9 dX2_copyFrom_9 ?_
  refine z_iconst (v := 0) hX dX2_copyFrom_12 (by decide) ?_
  refine z_aload_n hX dX2_copyFrom_13 rfl 0 rfl ?_
  refine z_getR (k := 1) hX (z_nts0 hs hb) rfl rfl in_X2_copyFrom_X2 (by decide) lk_X2_copyFrom_f9 dX2_copyFrom_14 ?_
  refine z_iconst (v := 0) hX dX2_copyFrom_17 (by decide) ?_
  refine z_bipush (v := 6) hX dX2_copyFrom_18 (by decide) ?_
  refine z_copy (k := 6) hX lk_X2_copyFrom_m25 lk_X2_copyFrom_yN lk_X2_copyFrom_yS lk_X2_copyFrom_yI (z_nts1 hs ho1) (z_nts1 hs hb) (by decide) rfl (by decide) (by decide) (by decide) (Nat.le_of_ble_eq_true rfl) dX2_copyFrom_20 (z_bs fun s2 => ?_)
  refine z_aload_n hX dX2_copyFrom_23 rfl 1 rfl ?_
  refine z_getR (k := 2) hX (z_nts0 hs ho1) rfl rfl in_X2_copyFrom_X2 (by decide) lk_X2_copyFrom_f15 dX2_copyFrom_24 ?_
  refine z_iconst (v := 0) hX dX2_copyFrom_27 (by decide) ?_
  refine z_aload_n hX dX2_copyFrom_28 rfl 0 rfl ?_
  refine z_getR (k := 2) hX (z_nts0 hs hb) rfl rfl in_X2_copyFrom_X2 (by decide) lk_X2_copyFrom_f15 dX2_copyFrom_29 ?_
  refine z_iconst (v := 0) hX dX2_copyFrom_32 (by decide) ?_
  refine z_bipush (v := 6) hX dX2_copyFrom_33 (by decide) ?_
  refine z_copy (k := 6) hX lk_X2_copyFrom_m25 lk_X2_copyFrom_yN lk_X2_copyFrom_yS lk_X2_copyFrom_yI (z_nts2 hs ho1) (z_nts2 hs hb) (by decide) rfl (by decide) (by decide) (by decide) (Nat.le_of_ble_eq_true rfl) dX2_copyFrom_35 (z_bs fun s3 => ?_)
  refine z_aload_n hX dX2_copyFrom_38 rfl 1 rfl ?_
  refine z_getR (k := 3) hX (z_nts0 hs ho1) rfl rfl in_X2_copyFrom_X2 (by decide) lk_X2_copyFrom_f18 dX2_copyFrom_39 ?_
  refine z_iconst (v := 0) hX dX2_copyFrom_42 (by decide) ?_
  refine z_aload_n hX dX2_copyFrom_43 rfl 0 rfl ?_
  refine z_getR (k := 3) hX (z_nts0 hs hb) rfl rfl in_X2_copyFrom_X2 (by decide) lk_X2_copyFrom_f18 dX2_copyFrom_44 ?_
  refine z_iconst (v := 0) hX dX2_copyFrom_47 (by decide) ?_
  refine z_bipush (v := 6) hX dX2_copyFrom_48 (by decide) ?_
  refine z_copy (k := 6) hX lk_X2_copyFrom_m25 lk_X2_copyFrom_yN lk_X2_copyFrom_yS lk_X2_copyFrom_yI (z_nts3 hs ho1) (z_nts3 hs hb) (by decide) rfl (by decide) (by decide) (by decide) (Nat.le_of_ble_eq_true rfl) dX2_copyFrom_50 (z_bs fun s4 => ?_)
  exact z_vret hX dX2_copyFrom_53

abbrev rm_J7_fill_53178 : Room := { frames := 0, cells := 0, slots := 0, locals := 0 }
set_option maxHeartbeats 4000000 in
set_option maxRecDepth 100000 in
theorem w_J7_fill_53178_5 (M : z_M) (V : z_V) (hX : z_Cx M V cJ7_fill_53178 4 none wsJ7_fill_53178 RJ7) (o1 : Nat) (nn : Nat) (ho1 : (z_sh V)[o1]? = some (.inr (.inl (0, nn)))) : ∀ (n : Nat) (x1 : Int32) (x2 : Int32) (x3 : Int32) (σ : z_St), z_Go M rm_J7_fill_53178 4 V (z_QV V) σ 5 [(0, .ref (z_ad V o1)), (1, .int x1), (2, .int x2), (3, .int x3)] [] (f_J7_fill_53178_5 o1 nn n x1 x2 x3 σ) := by
  intro n
  induction n with
  | zero => intro x1 x2 x3 σ; exact z_none
  | succ n ih =>
    intro x1 x2 x3 σ
    rw [f_J7_fill_53178_5]
    refine z_iload_n hX dJ7_fill_53178_5 rfl 2 rfl ?_
    refine z_iload_n hX dJ7_fill_53178_6 rfl 3 rfl ?_
    refine z_icmp_ge (tgt := 20) hX dJ7_fill_53178_7 (by decide) ?_ ?_
    · exact z_vret hX dJ7_fill_53178_20
    · refine z_aload_n hX dJ7_fill_53178_10 rfl 0 rfl ?_
      refine z_iload_n hX dJ7_fill_53178_11 rfl 2 rfl ?_
      refine z_iload_n hX dJ7_fill_53178_12 rfl 1 rfl ?_
      refine z_iast hX ho1 dJ7_fill_53178_13 (z_bs fun s1 => ?_)
      refine z_iinc (v := (x2 + 1)) (lv' := [(2, .int (x2 + 1)), (0, .ref (z_ad V o1)), (1, .int x1), (3, .int x3)]) hX dJ7_fill_53178_14 2 rfl rfl (by decide) rfl ?_
      refine z_goto (tgt := 5) hX dJ7_fill_53178_17 (by decide) ?_
      refine z_sub [1, 2, 0, 3] rfl ?_
      exact ih x1 (x2 + 1) x3 s1
set_option maxHeartbeats 4000000 in
set_option maxRecDepth 100000 in
theorem c_J7_fill_53178 (l : Launch) (V : z_V) (hV : z_ok V) (o1 : Nat) (nn : Nat) (ho1 : (z_sh V)[o1]? = some (.inr (.inl (0, nn)))) (x1 : Int32) (σ : z_St) : z_CtV l V yJ7_fill_53178 wsJ7_fill_53178 rm_J7_fill_53178 [.ref (z_ad V o1), .int x1] σ (f_J7_fill_53178 o1 nn x1 σ) := by
  refine z_startV (lv := [(0, .ref (z_ad V o1)), (1, .int x1)]) hV (by decide) rfl (Nat.le_of_ble_eq_true rfl) rfl ?_
  intro M hM hX
  have hX : z_Cx M V cJ7_fill_53178 4 none wsJ7_fill_53178 RJ7 := hX
  unfold f_J7_fill_53178
  refine z_iconst (v := 0) hX dJ7_fill_53178_0 (by decide) ?_
  refine z_istore_n (lv' := [(2, .int (0 : Int32)), (0, .ref (z_ad V o1)), (1, .int x1)]) hX dJ7_fill_53178_1 rfl (by decide) rfl ?_
  refine z_aload_n hX dJ7_fill_53178_2 rfl 1 rfl ?_
  refine z_alen (v := (nI nn)) hX ho1 rfl dJ7_fill_53178_3 ?_
  refine z_istore_n (lv' := [(3, .int (nI nn)), (2, .int (0 : Int32)), (0, .ref (z_ad V o1)), (1, .int x1)]) hX dJ7_fill_53178_4 rfl (by decide) rfl ?_
  refine z_sub [2, 3, 1, 0] rfl ?_
  exact w_J7_fill_53178_5 M V hX o1 nn ho1 200 x1 (0 : Int32) (nI nn) σ

abbrev rm_X4_renew : Room := { frames := 1, cells := 0, slots := 0, locals := 23 }
theorem in_X4_renew_X4 : ∀ w ∈ wsX40, w ∈ wsX4_renew := fun w h => List.mem_cons_of_mem _ (List.mem_append_right _ h)
theorem lk_X4_renew_f11 : Cond.fieldLink RX4 11 (TX4 0).1 (TX4 0).2.1 (TX4 0).2.2.1 ∈ wsX4_renew := by decide +kernel
theorem lk_X4_renew_f19 : Cond.fieldLink RX4 19 (TX4 1).1 (TX4 1).2.1 (TX4 1).2.2.1 ∈ wsX4_renew := by decide +kernel
theorem lk_X4_renew_f15 : Cond.fieldLink RX4 15 (TX4 2).1 (TX4 2).2.1 (TX4 2).2.2.1 ∈ wsX4_renew := by decide +kernel
set_option maxHeartbeats 4000000 in
set_option maxRecDepth 100000 in
theorem c_X4_renew (l : Launch) (V : z_V) (hV : z_ok V) (hs : z_isX V) (b : Nat) (hb : z_She b) (x1 : Int32) (x2 : Int32) (σ : z_St) : z_CtV l V yX4_renew wsX4_renew rm_X4_renew [.ref (z_ad V b), .int x1, .int x2] σ (f_X4_renew b x1 x2 σ) := by
  refine z_startV (lv := [(0, .ref (z_ad V b)), (1, .int x1), (2, .int x2)]) hV (by decide) rfl (Nat.le_of_ble_eq_true rfl) rfl ?_
  intro M hM hX
  have hX : z_Cx M V cX4_renew 3 none wsX4_renew RX4 := hX
  unfold f_X4_renew
  refine z_aload_n hX dX4_renew_0 rfl 0 rfl ?_
  refine z_iload_n hX dX4_renew_1 rfl 1 rfl ?_
  refine z_put1 (k := 0) hX (z_she0 hs hb) rfl rfl in_X4_renew_X4 (by decide) lk_X4_renew_f11 tyX4 tyX4_ok nmX4 rfl rfl rfl dX4_renew_2 (z_bs fun s1 => ?_)
  refine z_aload_n hX dX4_renew_5 rfl 0 rfl ?_
  refine z_iload_n hX dX4_renew_6 rfl 2 rfl ?_
  refine z_put1 (k := 1) hX (z_she0 hs hb) rfl rfl in_X4_renew_X4 (by decide) lk_X4_renew_f19 tyX4 tyX4_ok nmX4 rfl rfl rfl dX4_renew_7 (z_bs fun s2 => ?_)
  refine z_aload_n hX dX4_renew_10 rfl 0 rfl ?_
  refine z_getR (k := 2) hX (z_she0 hs hb) rfl rfl in_X4_renew_X4 (by decide) lk_X4_renew_f15 dX4_renew_11 ?_
  refine z_iconst (v := 0) hX dX4_renew_14 (by decide) ?_
  refine z_callSV (n := 2) hX (c_J7_fill_53178 M.2.1 V hX.2.2.2.2.2 (b + 1) 40 (z_she1 hs hb) (0 : Int32) s2) gX4_renew_J7_fill_53178 rfl (by decide +kernel) ⟨by decide, by decide⟩ rfl rfl rfl rfl (Nat.le_of_ble_eq_true rfl) dX4_renew_15 (fun r3 _ => ?_)
  exact z_vret hX dX4_renew_18

abbrev rm_X4_put : Room := { frames := 0, cells := 0, slots := 0, locals := 0 }
theorem in_X4_put_X4 : ∀ w ∈ wsX40, w ∈ wsX4_put := fun w h => List.mem_cons_of_mem _ (List.mem_append_right _ h)
theorem lk_X4_put_f11 : Cond.fieldLink RX4 11 (TX4 0).1 (TX4 0).2.1 (TX4 0).2.2.1 ∈ wsX4_put := by decide +kernel
theorem lk_X4_put_f15 : Cond.fieldLink RX4 15 (TX4 2).1 (TX4 2).2.1 (TX4 2).2.2.1 ∈ wsX4_put := by decide +kernel
set_option maxHeartbeats 4000000 in
set_option maxRecDepth 100000 in
theorem c_X4_put (l : Launch) (V : z_V) (hV : z_ok V) (hs : z_isX V) (b : Nat) (hb : z_She b) (x1 : Int32) (x2 : Int32) (σ : z_St) : z_CtV l V yX4_put wsX4_put rm_X4_put [.ref (z_ad V b), .int x1, .int x2] σ (f_X4_put b x1 x2 σ) := by
  refine z_startV (lv := [(0, .ref (z_ad V b)), (1, .int x1), (2, .int x2)]) hV (by decide) rfl (Nat.le_of_ble_eq_true rfl) rfl ?_
  intro M hM hX
  have hX : z_Cx M V cX4_put 3 none wsX4_put RX4 := hX
  unfold f_X4_put
  refine z_aload_n hX dX4_put_0 rfl 0 rfl ?_
  refine z_getI (k := 0) hX (z_she0 hs hb) rfl rfl in_X4_put_X4 (by decide) lk_X4_put_f11 dX4_put_1 ?_
  refine z_case (fun h1 => ?_) (fun h1 => ?_)
  · refine z_look (off := 28) (tgt := 32) hX dX4_put_4 (by decide) (by first | (rw [h1]; done) | (rw [h1]; rfl)) (by decide) ?_
    refine z_aload_n hX dX4_put_32 rfl 0 rfl ?_
    refine z_getR (k := 2) hX (z_she0 hs hb) rfl rfl in_X4_put_X4 (by decide) lk_X4_put_f15 dX4_put_33 ?_
    refine z_iload_n hX dX4_put_36 rfl 1 rfl ?_
    refine z_iload_n hX dX4_put_37 rfl 2 rfl ?_
    refine z_i2b hX dX4_put_38 ?_
    refine z_iast hX (z_she1 hs hb) dX4_put_39 (z_bs fun s2 => ?_)
    refine z_goto (tgt := 61) hX dX4_put_40 (by decide) ?_
    exact z_vret hX dX4_put_61
  · skip
    refine z_case (fun h3 => ?_) (fun h3 => ?_)
    · refine z_look (off := 39) (tgt := 43) hX dX4_put_4 (by decide) (by first | (rw [h3]; done) | (rw [h3]; rfl)) (by decide) ?_
      refine z_aload_n hX dX4_put_43 rfl 0 rfl ?_
      refine z_getR (k := 2) hX (z_she0 hs hb) rfl rfl in_X4_put_X4 (by decide) lk_X4_put_f15 dX4_put_44 ?_
      refine z_iload_n hX dX4_put_47 rfl 1 rfl ?_
      refine z_iload_n hX dX4_put_48 rfl 2 rfl ?_
      refine z_i2s hX dX4_put_49 ?_
      refine z_iast hX (z_she1 hs hb) dX4_put_50 (z_bs fun s4 => ?_)
      refine z_goto (tgt := 61) hX dX4_put_51 (by decide) ?_
      exact z_vret hX dX4_put_61
    · skip
      refine z_look (off := 50) (tgt := 54) hX dX4_put_4 (by decide) (by show Op.lookupswitch.offset [(0, 28), (1, 39)] 50 _ = _; first | (rw [lv_osw h1 (by decide), lv_osw h3 (by decide)]; done) | (rw [lv_osw h1 (by decide), lv_osw h3 (by decide)]; rfl)) (by decide) ?_
      refine z_aload_n hX dX4_put_54 rfl 0 rfl ?_
      refine z_getR (k := 2) hX (z_she0 hs hb) rfl rfl in_X4_put_X4 (by decide) lk_X4_put_f15 dX4_put_55 ?_
      refine z_iload_n hX dX4_put_58 rfl 1 rfl ?_
      refine z_iload_n hX dX4_put_59 rfl 2 rfl ?_
      refine z_iast hX (z_she1 hs hb) dX4_put_60 (z_bs fun s5 => ?_)
      exact z_vret hX dX4_put_61

abbrev rm_X4_faultAt : Room := { frames := 0, cells := 0, slots := 0, locals := 0 }
theorem in_X4_faultAt_X4 : ∀ w ∈ wsX40, w ∈ wsX4_faultAt := fun w h => List.mem_cons_of_mem _ (List.mem_append_right _ h)
theorem lk_X4_faultAt_f11 : Cond.fieldLink RX4 11 (TX4 0).1 (TX4 0).2.1 (TX4 0).2.2.1 ∈ wsX4_faultAt := by decide +kernel
theorem lk_X4_faultAt_f19 : Cond.fieldLink RX4 19 (TX4 1).1 (TX4 1).2.1 (TX4 1).2.2.1 ∈ wsX4_faultAt := by decide +kernel
set_option maxHeartbeats 4000000 in
set_option maxRecDepth 100000 in
theorem c_X4_faultAt (l : Launch) (V : z_V) (hV : z_ok V) (hs : z_isX V) (b : Nat) (hb : z_She b) (x1 : Int32) (x2 : Int32) (σ : z_St) : z_CtI l V yX4_faultAt wsX4_faultAt rm_X4_faultAt [.ref (z_ad V b), .int x1, .int x2] σ (f_X4_faultAt b x1 x2 σ) := by
  refine z_startI (lv := [(0, .ref (z_ad V b)), (1, .int x1), (2, .int x2)]) hV (by decide) rfl (Nat.le_of_ble_eq_true rfl) rfl ?_
  intro M hM hX
  have hX : z_Cx M V cX4_faultAt 3 (some .int) wsX4_faultAt RX4 := hX
  unfold f_X4_faultAt
  refine z_aload_n hX dX4_faultAt_0 rfl 0 rfl ?_
  refine z_getI (k := 0) hX (z_she0 hs hb) rfl rfl in_X4_faultAt_X4 (by decide) lk_X4_faultAt_f11 dX4_faultAt_1 ?_
  refine z_iconst (v := -1) hX dX4_faultAt_4 (by decide) ?_
  refine z_icmp_ne (tgt := 10) hX dX4_faultAt_5 (by decide) ?_ ?_
  · refine z_iload_n hX dX4_faultAt_10 rfl 1 rfl ?_
    refine z_aload_n hX dX4_faultAt_11 rfl 0 rfl ?_
    refine z_getI (k := 0) hX (z_she0 hs hb) rfl rfl in_X4_faultAt_X4 (by decide) lk_X4_faultAt_f11 dX4_faultAt_12 ?_
    refine z_icmp_eq (tgt := 20) hX dX4_faultAt_15 (by decide) ?_ ?_
    · refine z_iload_n hX dX4_faultAt_20 rfl 2 rfl ?_
      refine z_if_lt (tgt := 32) hX dX4_faultAt_21 (by decide) ?_ ?_
      · refine z_iconst (v := 2) hX dX4_faultAt_32 (by decide) ?_
        refine z_goto (tgt := 37) hX dX4_faultAt_33 (by decide) ?_
        exact z_iret hX dX4_faultAt_37
      · refine z_iload_n hX dX4_faultAt_24 rfl 2 rfl ?_
        refine z_aload_n hX dX4_faultAt_25 rfl 0 rfl ?_
        refine z_getI (k := 1) hX (z_she0 hs hb) rfl rfl in_X4_faultAt_X4 (by decide) lk_X4_faultAt_f19 dX4_faultAt_26 ?_
        refine z_icmp_lt (tgt := 36) hX dX4_faultAt_29 (by decide) ?_ ?_
        · refine z_iconst (v := 0) hX dX4_faultAt_36 (by decide) ?_
          exact z_iret hX dX4_faultAt_37
        · refine z_iconst (v := 2) hX dX4_faultAt_32 (by decide) ?_
          refine z_goto (tgt := 37) hX dX4_faultAt_33 (by decide) ?_
          exact z_iret hX dX4_faultAt_37
    · refine z_iconst (v := 3) hX dX4_faultAt_18 (by decide) ?_
      exact z_iret hX dX4_faultAt_19
  · refine z_iconst (v := 1) hX dX4_faultAt_8 (by decide) ?_
    exact z_iret hX dX4_faultAt_9

abbrev rm_X4_faultOfPair : Room := { frames := 1, cells := 0, slots := 0, locals := 22 }
set_option maxHeartbeats 4000000 in
set_option maxRecDepth 100000 in
theorem c_X4_faultOfPair (l : Launch) (V : z_V) (hV : z_ok V) (hs : z_isX V) (b : Nat) (hb : z_She b) (x1 : Int32) (x2 : Int32) (σ : z_St) : z_CtI l V yX4_faultOfPair wsX4_faultOfPair rm_X4_faultOfPair [.ref (z_ad V b), .int x1, .int x2] σ (f_X4_faultOfPair b x1 x2 σ) := by
  refine z_startI (lv := [(0, .ref (z_ad V b)), (1, .int x1), (2, .int x2)]) hV (by decide) rfl (Nat.le_of_ble_eq_true rfl) rfl ?_
  intro M hM hX
  have hX : z_Cx M V cX4_faultOfPair 4 (some .int) wsX4_faultOfPair RX4 := hX
  unfold f_X4_faultOfPair
  refine z_aload_n hX dX4_faultOfPair_0 rfl 0 rfl ?_
  refine z_iload_n hX dX4_faultOfPair_1 rfl 1 rfl ?_
  refine z_iload_n hX dX4_faultOfPair_2 rfl 2 rfl ?_
  refine z_callVI (n := 2) hX (c_X4_faultAt M.2.1 V hX.2.2.2.2.2 hs b hb x1 x2 σ) gX4_faultOfPair_X4_faultAt rfl (by decide +kernel) ⟨by decide, by decide⟩ rfl rfl (z_she0 hs hb) rfl rfl rfl rfl (Nat.le_of_ble_eq_true rfl) dX4_faultOfPair_3 (fun r1 _ => ?_)
  refine z_istore_n (lv' := [(3, .int r1.1), (0, .ref (z_ad V b)), (1, .int x1), (2, .int x2)]) hX dX4_faultOfPair_6 rfl (by decide) rfl ?_
  refine z_iload_n hX dX4_faultOfPair_7 rfl 0 rfl ?_
  refine z_if_eq (tgt := 15) hX dX4_faultOfPair_8 (by decide) ?_ ?_
  · refine z_aload_n hX dX4_faultOfPair_15 rfl 1 rfl ?_
    refine z_iload_n hX dX4_faultOfPair_16 rfl 2 rfl ?_
    refine z_iload_n hX dX4_faultOfPair_17 rfl 3 rfl ?_
    refine z_iconst (v := 1) hX dX4_faultOfPair_18 (by decide) ?_
    refine z_iadd hX dX4_faultOfPair_19 ?_
    refine z_callVI (n := 2) hX (c_X4_faultAt M.2.1 V hX.2.2.2.2.2 hs b hb x1 (x2 + (1 : Int32)) r1.2) gX4_faultOfPair_X4_faultAt rfl (by decide +kernel) ⟨by decide, by decide⟩ rfl rfl (z_she0 hs hb) rfl rfl rfl rfl (Nat.le_of_ble_eq_true rfl) dX4_faultOfPair_20 (fun r2 _ => ?_)
    exact z_iret hX dX4_faultOfPair_23
  · refine z_iload_n hX dX4_faultOfPair_11 rfl 0 rfl ?_
    refine z_goto (tgt := 23) hX dX4_faultOfPair_12 (by decide) ?_
    exact z_iret hX dX4_faultOfPair_23

abbrev rm_X5_copyFrom : Room := { frames := 1, cells := 0, slots := 0, locals := 40 }
theorem in_X5_copyFrom_X5 : ∀ w ∈ wsX50, w ∈ wsX5_copyFrom := fun w h => List.mem_cons_of_mem _ (List.mem_append_right _ h)
theorem lk_X5_copyFrom_f30 : Cond.fieldLink RX5 30 (TX5 0).1 (TX5 0).2.1 (TX5 0).2.2.1 ∈ wsX5_copyFrom := by decide +kernel
theorem lk_X5_copyFrom_f9 : Cond.fieldLink RX5 9 (TX5 1).1 (TX5 1).2.1 (TX5 1).2.2.1 ∈ wsX5_copyFrom := by decide +kernel
theorem lk_X5_copyFrom_m34 : Cond.methodLink RX5 34 arraycopyName ∈ wsX5_copyFrom := by decide +kernel
theorem lk_X5_copyFrom_yN : Cond.native arraycopyName ∈ wsX5_copyFrom := by decide +kernel
theorem lk_X5_copyFrom_yS : Cond.static arraycopyName ∈ wsX5_copyFrom := by decide +kernel
theorem lk_X5_copyFrom_yI : Cond.initialized "java/lang/System" ∈ wsX5_copyFrom := by decide +kernel
theorem lk_X5_copyFrom_f15 : Cond.fieldLink RX5 15 (TX5 2).1 (TX5 2).2.1 (TX5 2).2.2.1 ∈ wsX5_copyFrom := by decide +kernel
theorem lk_X5_copyFrom_f18 : Cond.fieldLink RX5 18 (TX5 3).1 (TX5 3).2.1 (TX5 3).2.2.1 ∈ wsX5_copyFrom := by decide +kernel
theorem lk_X5_copyFrom_f40 : Cond.fieldLink RX5 40 (TX5 4).1 (TX5 4).2.1 (TX5 4).2.2.1 ∈ wsX5_copyFrom := by decide +kernel
theorem lk_X5_copyFrom_f21 : Cond.fieldLink RX5 21 (TX5 5).1 (TX5 5).2.1 (TX5 5).2.2.1 ∈ wsX5_copyFrom := by decide +kernel
theorem lk_X5_copyFrom_f24 : Cond.fieldLink RX5 24 (TX5 6).1 (TX5 6).2.1 (TX5 6).2.2.1 ∈ wsX5_copyFrom := by decide +kernel
theorem lk_X5_copyFrom_f27 : Cond.fieldLink RX5 27 (TX5 7).1 (TX5 7).2.1 (TX5 7).2.2.1 ∈ wsX5_copyFrom := by decide +kernel
set_option maxHeartbeats 4000000 in
set_option maxRecDepth 100000 in
theorem c_X5_copyFrom (l : Launch) (V : z_V) (hV : z_ok V) (hs : z_isX V) (b : Nat) (hb : z_Sto b) (o1 : Nat) (ho1 : z_Sto o1) (σ : z_St) : z_CtV l V yX5_copyFrom wsX5_copyFrom rm_X5_copyFrom [.ref (z_ad V b), .ref (z_ad V o1)] σ (f_X5_copyFrom b o1 σ) := by
  refine z_startV (lv := [(0, .ref (z_ad V b)), (1, .ref (z_ad V o1))]) hV (by decide) rfl (Nat.le_of_ble_eq_true rfl) rfl ?_
  intro M hM hX
  have hX : z_Cx M V cX5_copyFrom 2 none wsX5_copyFrom RX5 := hX
  unfold f_X5_copyFrom
  refine z_aload_n hX dX5_copyFrom_0 rfl 0 rfl ?_
  refine z_aload_n hX dX5_copyFrom_1 rfl 1 rfl ?_
  refine z_getI (k := 0) hX (z_sto0 hs ho1) rfl rfl in_X5_copyFrom_X5 (by decide) lk_X5_copyFrom_f30 dX5_copyFrom_2 ?_
  refine z_put1 (k := 0) hX (z_sto0 hs hb) rfl rfl in_X5_copyFrom_X5 (by decide) lk_X5_copyFrom_f30 tyX5 tyX5_ok nmX5 rfl rfl rfl dX5_copyFrom_5 (z_bs fun s1 => ?_)
  refine z_aload_n hX dX5_copyFrom_8 rfl 1 rfl ?_
  refine z_getR (k := 1) hX (z_sto0 hs ho1) rfl rfl in_X5_copyFrom_X5 (by decide) lk_X5_copyFrom_f9 dX5_copyFrom_9 ?_
  refine z_iconst (v := 0) hX dX5_copyFrom_12 (by decide) ?_
  refine z_aload_n hX dX5_copyFrom_13 rfl 0 rfl ?_
  refine z_getR (k := 1) hX (z_sto0 hs hb) rfl rfl in_X5_copyFrom_X5 (by decide) lk_X5_copyFrom_f9 dX5_copyFrom_14 ?_
  refine z_iconst (v := 0) hX dX5_copyFrom_17 (by decide) ?_
  refine z_bipush (v := 6) hX dX5_copyFrom_18 (by decide) ?_
  refine z_copy (k := 6) hX lk_X5_copyFrom_m34 lk_X5_copyFrom_yN lk_X5_copyFrom_yS lk_X5_copyFrom_yI (z_sto1 hs ho1) (z_sto1 hs hb) (by decide) rfl (by decide) (by decide) (by decide) (Nat.le_of_ble_eq_true rfl) dX5_copyFrom_20 (z_bs fun s2 => ?_)
  refine z_aload_n hX dX5_copyFrom_23 rfl 1 rfl ?_
  refine z_getR (k := 2) hX (z_sto0 hs ho1) rfl rfl in_X5_copyFrom_X5 (by decide) lk_X5_copyFrom_f15 dX5_copyFrom_24 ?_
  refine z_iconst (v := 0) hX dX5_copyFrom_27 (by decide) ?_
  refine z_aload_n hX dX5_copyFrom_28 rfl 0 rfl ?_
  refine z_getR (k := 2) hX (z_sto0 hs hb) rfl rfl in_X5_copyFrom_X5 (by decide) lk_X5_copyFrom_f15 dX5_copyFrom_29 ?_
  refine z_iconst (v := 0) hX dX5_copyFrom_32 (by decide) ?_
  refine z_bipush (v := 6) hX dX5_copyFrom_33 (by decide) ?_
  refine z_copy (k := 6) hX lk_X5_copyFrom_m34 lk_X5_copyFrom_yN lk_X5_copyFrom_yS lk_X5_copyFrom_yI (z_sto2 hs ho1) (z_sto2 hs hb) (by decide) rfl (by decide) (by decide) (by decide) (Nat.le_of_ble_eq_true rfl) dX5_copyFrom_35 (z_bs fun s3 => ?_)
  refine z_aload_n hX dX5_copyFrom_38 rfl 1 rfl ?_
  refine z_getR (k := 3) hX (z_sto0 hs ho1) rfl rfl in_X5_copyFrom_X5 (by decide) lk_X5_copyFrom_f18 dX5_copyFrom_39 ?_
  refine z_iconst (v := 0) hX dX5_copyFrom_42 (by decide) ?_
  refine z_aload_n hX dX5_copyFrom_43 rfl 0 rfl ?_
  refine z_getR (k := 3) hX (z_sto0 hs hb) rfl rfl in_X5_copyFrom_X5 (by decide) lk_X5_copyFrom_f18 dX5_copyFrom_44 ?_
  refine z_iconst (v := 0) hX dX5_copyFrom_47 (by decide) ?_
  refine z_bipush (v := 6) hX dX5_copyFrom_48 (by decide) ?_
  refine z_copy (k := 6) hX lk_X5_copyFrom_m34 lk_X5_copyFrom_yN lk_X5_copyFrom_yS lk_X5_copyFrom_yI (z_sto3 hs ho1) (z_sto3 hs hb) (by decide) rfl (by decide) (by decide) (by decide) (Nat.le_of_ble_eq_true rfl) dX5_copyFrom_50 (z_bs fun s4 => ?_)
  refine z_aload_n hX dX5_copyFrom_53 rfl 0 rfl ?_
  refine z_aload_n hX dX5_copyFrom_54 rfl 1 rfl ?_
  refine z_getI (k := 4) hX (z_sto0 hs ho1) rfl rfl in_X5_copyFrom_X5 (by decide) lk_X5_copyFrom_f40 dX5_copyFrom_55 ?_
  refine z_put1 (k := 4) hX (z_sto0 hs hb) rfl rfl in_X5_copyFrom_X5 (by decide) lk_X5_copyFrom_f40 tyX5 tyX5_ok nmX5 rfl rfl rfl dX5_copyFrom_58 (z_bs fun s5 => ?_)
  refine z_aload_n hX dX5_copyFrom_61 rfl 1 rfl ?_
  refine z_getR (k := 5) hX (z_sto0 hs ho1) rfl rfl in_X5_copyFrom_X5 (by decide) lk_X5_copyFrom_f21 dX5_copyFrom_62 ?_
  refine z_iconst (v := 0) hX dX5_copyFrom_65 (by decide) ?_
  refine z_aload_n hX dX5_copyFrom_66 rfl 0 rfl ?_
  refine z_getR (k := 5) hX (z_sto0 hs hb) rfl rfl in_X5_copyFrom_X5 (by decide) lk_X5_copyFrom_f21 dX5_copyFrom_67 ?_
  refine z_iconst (v := 0) hX dX5_copyFrom_70 (by decide) ?_
  refine z_bipush (v := 6) hX dX5_copyFrom_71 (by decide) ?_
  refine z_copy (k := 6) hX lk_X5_copyFrom_m34 lk_X5_copyFrom_yN lk_X5_copyFrom_yS lk_X5_copyFrom_yI (z_sto4 hs ho1) (z_sto4 hs hb) (by decide) rfl (by decide) (by decide) (by decide) (Nat.le_of_ble_eq_true rfl) dX5_copyFrom_73 (z_bs fun s6 => ?_)
  refine z_aload_n hX dX5_copyFrom_76 rfl 1 rfl ?_
  refine z_getR (k := 6) hX (z_sto0 hs ho1) rfl rfl in_X5_copyFrom_X5 (by decide) lk_X5_copyFrom_f24 dX5_copyFrom_77 ?_
  refine z_iconst (v := 0) hX dX5_copyFrom_80 (by decide) ?_
  refine z_aload_n hX dX5_copyFrom_81 rfl 0 rfl ?_
  refine z_getR (k := 6) hX (z_sto0 hs hb) rfl rfl in_X5_copyFrom_X5 (by decide) lk_X5_copyFrom_f24 dX5_copyFrom_82 ?_
  refine z_iconst (v := 0) hX dX5_copyFrom_85 (by decide) ?_
  refine z_bipush (v := 6) hX dX5_copyFrom_86 (by decide) ?_
  refine z_copy (k := 6) hX lk_X5_copyFrom_m34 lk_X5_copyFrom_yN lk_X5_copyFrom_yS lk_X5_copyFrom_yI (z_sto5 hs ho1) (z_sto5 hs hb) (by decide) rfl (by decide) (by decide) (by decide) (Nat.le_of_ble_eq_true rfl) dX5_copyFrom_88 (z_bs fun s7 => ?_)
  refine z_aload_n hX dX5_copyFrom_91 rfl 1 rfl ?_
  refine z_getR (k := 7) hX (z_sto0 hs ho1) rfl rfl in_X5_copyFrom_X5 (by decide) lk_X5_copyFrom_f27 dX5_copyFrom_92 ?_
  refine z_iconst (v := 0) hX dX5_copyFrom_95 (by decide) ?_
  refine z_aload_n hX dX5_copyFrom_96 rfl 0 rfl ?_
  refine z_getR (k := 7) hX (z_sto0 hs hb) rfl rfl in_X5_copyFrom_X5 (by decide) lk_X5_copyFrom_f27 dX5_copyFrom_97 ?_
  refine z_iconst (v := 0) hX dX5_copyFrom_100 (by decide) ?_
  refine z_bipush (v := 6) hX dX5_copyFrom_101 (by decide) ?_
  refine z_copy (k := 6) hX lk_X5_copyFrom_m34 lk_X5_copyFrom_yN lk_X5_copyFrom_yS lk_X5_copyFrom_yI (z_sto6 hs ho1) (z_sto6 hs hb) (by decide) rfl (by decide) (by decide) (by decide) (Nat.le_of_ble_eq_true rfl) dX5_copyFrom_103 (z_bs fun s8 => ?_)
  exact z_vret hX dX5_copyFrom_106

abbrev rm_X5_knowsAllOf : Room := { frames := 0, cells := 0, slots := 0, locals := 0 }
theorem in_X5_knowsAllOf_X5 : ∀ w ∈ wsX50, w ∈ wsX5_knowsAllOf := fun w h => List.mem_cons_of_mem _ (List.mem_append_right _ h)
theorem lk_X5_knowsAllOf_f30 : Cond.fieldLink RX5 30 (TX5 0).1 (TX5 0).2.1 (TX5 0).2.2.1 ∈ wsX5_knowsAllOf := by decide +kernel
theorem lk_X5_knowsAllOf_f40 : Cond.fieldLink RX5 40 (TX5 4).1 (TX5 4).2.1 (TX5 4).2.2.1 ∈ wsX5_knowsAllOf := by decide +kernel
theorem lk_X5_knowsAllOf_f21 : Cond.fieldLink RX5 21 (TX5 5).1 (TX5 5).2.1 (TX5 5).2.2.1 ∈ wsX5_knowsAllOf := by decide +kernel
theorem lk_X5_knowsAllOf_f9 : Cond.fieldLink RX5 9 (TX5 1).1 (TX5 1).2.1 (TX5 1).2.2.1 ∈ wsX5_knowsAllOf := by decide +kernel
set_option maxHeartbeats 4000000 in
set_option maxRecDepth 100000 in
theorem w_X5_knowsAllOf_30 (M : z_M) (V : z_V) (hs : z_isX V) (hX : z_Cx M V cX5_knowsAllOf 3 (some .boolean) wsX5_knowsAllOf RX5) (b : Nat) (hb : z_Sto b) : ∀ (n : Nat) (x1 : Int32) (x2 : Int32) (σ : z_St), z_Go M rm_X5_knowsAllOf 3 V (z_QI V) σ 30 [(0, .ref (z_ad V b)), (1, .int x1), (2, .int x2)] [] (f_X5_knowsAllOf_30 b n x1 x2 σ) := by
  intro n
  induction n with
  | zero => intro x1 x2 σ; exact z_none
  | succ n ih =>
    intro x1 x2 σ
    rw [f_X5_knowsAllOf_30]
    refine z_iload_n hX dX5_knowsAllOf_30 rfl 2 rfl ?_
    refine z_aload_n hX dX5_knowsAllOf_31 rfl 0 rfl ?_
    refine z_getI (k := 4) hX (z_sto0 hs hb) rfl rfl in_X5_knowsAllOf_X5 (by decide) lk_X5_knowsAllOf_f40 dX5_knowsAllOf_32 ?_
    refine z_icmp_ge (tgt := 56) hX dX5_knowsAllOf_35 (by decide) ?_ ?_
    · refine z_iconst (v := 1) hX dX5_knowsAllOf_56 (by decide) ?_
      exact z_zret hX dX5_knowsAllOf_57 rfl
    · refine z_aload_n hX dX5_knowsAllOf_38 rfl 0 rfl ?_
      refine z_getR (k := 5) hX (z_sto0 hs hb) rfl rfl in_X5_knowsAllOf_X5 (by decide) lk_X5_knowsAllOf_f21 dX5_knowsAllOf_39 ?_
      refine z_iload_n hX dX5_knowsAllOf_42 rfl 2 rfl ?_
      refine z_iald hX (z_sto4 hs hb) dX5_knowsAllOf_43 ?_
      refine z_iload_n hX dX5_knowsAllOf_44 rfl 1 rfl ?_
      refine z_icmp_lt (tgt := 50) hX dX5_knowsAllOf_45 (by decide) ?_ ?_
      · refine z_iinc (v := (x2 + 1)) (lv' := [(2, .int (x2 + 1)), (0, .ref (z_ad V b)), (1, .int x1)]) hX dX5_knowsAllOf_50 2 rfl rfl (by decide) rfl ?_
        refine z_goto (tgt := 30) hX dX5_knowsAllOf_53 (by decide) ?_
        refine z_sub [1, 2, 0] rfl ?_
        exact ih x1 (x2 + 1) σ
      · refine z_iconst (v := 0) hX dX5_knowsAllOf_48 (by decide) ?_
        exact z_zret hX dX5_knowsAllOf_49 rfl
set_option maxHeartbeats 4000000 in
set_option maxRecDepth 100000 in
theorem w_X5_knowsAllOf_2 (M : z_M) (V : z_V) (hs : z_isX V) (hX : z_Cx M V cX5_knowsAllOf 3 (some .boolean) wsX5_knowsAllOf RX5) (b : Nat) (hb : z_Sto b) : ∀ (n : Nat) (x1 : Int32) (x2 : Int32) (σ : z_St), z_Go M rm_X5_knowsAllOf 3 V (z_QI V) σ 2 [(0, .ref (z_ad V b)), (1, .int x1), (2, .int x2)] [] (f_X5_knowsAllOf_2 b n x1 x2 σ) := by
  intro n
  induction n with
  | zero => intro x1 x2 σ; exact z_none
  | succ n ih =>
    intro x1 x2 σ
    rw [f_X5_knowsAllOf_2]
    refine z_iload_n hX dX5_knowsAllOf_2 rfl 2 rfl ?_
    refine z_aload_n hX dX5_knowsAllOf_3 rfl 0 rfl ?_
    refine z_getI (k := 0) hX (z_sto0 hs hb) rfl rfl in_X5_knowsAllOf_X5 (by decide) lk_X5_knowsAllOf_f30 dX5_knowsAllOf_4 ?_
    refine z_icmp_ge (tgt := 28) hX dX5_knowsAllOf_7 (by decide) ?_ ?_
    · refine z_iconst (v := 0) hX dX5_knowsAllOf_28 (by decide) ?_
      refine z_istore_n (lv' := [(2, .int (0 : Int32)), (0, .ref (z_ad V b)), (1, .int x1)]) hX dX5_knowsAllOf_29 rfl (by decide) rfl ?_
      refine z_sub [1, 2, 0] rfl ?_
      exact w_X5_knowsAllOf_30 M V hs hX b hb 200 x1 (0 : Int32) σ
    · refine z_aload_n hX dX5_knowsAllOf_10 rfl 0 rfl ?_
      refine z_getR (k := 1) hX (z_sto0 hs hb) rfl rfl in_X5_knowsAllOf_X5 (by decide) lk_X5_knowsAllOf_f9 dX5_knowsAllOf_11 ?_
      refine z_iload_n hX dX5_knowsAllOf_14 rfl 2 rfl ?_
      refine z_iald hX (z_sto1 hs hb) dX5_knowsAllOf_15 ?_
      refine z_iload_n hX dX5_knowsAllOf_16 rfl 1 rfl ?_
      refine z_icmp_lt (tgt := 22) hX dX5_knowsAllOf_17 (by decide) ?_ ?_
      · refine z_iinc (v := (x2 + 1)) (lv' := [(2, .int (x2 + 1)), (0, .ref (z_ad V b)), (1, .int x1)]) hX dX5_knowsAllOf_22 2 rfl rfl (by decide) rfl ?_
        refine z_goto (tgt := 2) hX dX5_knowsAllOf_25 (by decide) ?_
        refine z_sub [1, 2, 0] rfl ?_
        exact ih x1 (x2 + 1) σ
      · refine z_iconst (v := 0) hX dX5_knowsAllOf_20 (by decide) ?_
        exact z_zret hX dX5_knowsAllOf_21 rfl
set_option maxHeartbeats 4000000 in
set_option maxRecDepth 100000 in
theorem c_X5_knowsAllOf (l : Launch) (V : z_V) (hV : z_ok V) (hs : z_isX V) (b : Nat) (hb : z_Sto b) (x1 : Int32) (σ : z_St) : z_CtI l V yX5_knowsAllOf wsX5_knowsAllOf rm_X5_knowsAllOf [.ref (z_ad V b), .int x1] σ (f_X5_knowsAllOf b x1 σ) := by
  refine z_startI (lv := [(0, .ref (z_ad V b)), (1, .int x1)]) hV (by decide) rfl (Nat.le_of_ble_eq_true rfl) rfl ?_
  intro M hM hX
  have hX : z_Cx M V cX5_knowsAllOf 3 (some .boolean) wsX5_knowsAllOf RX5 := hX
  unfold f_X5_knowsAllOf
  refine z_iconst (v := 0) hX dX5_knowsAllOf_0 (by decide) ?_
  refine z_istore_n (lv' := [(2, .int (0 : Int32)), (0, .ref (z_ad V b)), (1, .int x1)]) hX dX5_knowsAllOf_1 rfl (by decide) rfl ?_
  refine z_sub [1, 2, 0] rfl ?_
  exact w_X5_knowsAllOf_2 M V hs hX b hb 200 x1 (0 : Int32) σ

abbrev rm_J6_bitCount_0f7a4 : Room := { frames := 0, cells := 0, slots := 0, locals := 0 }
theorem lk_J6_bitCount_0f7a4_c265 : Cond.constant RJ6 265 1431655765 ∈ wsJ6_bitCount_0f7a4 := by decide +kernel
theorem lk_J6_bitCount_0f7a4_c266 : Cond.constant RJ6 266 858993459 ∈ wsJ6_bitCount_0f7a4 := by decide +kernel
theorem lk_J6_bitCount_0f7a4_c267 : Cond.constant RJ6 267 252645135 ∈ wsJ6_bitCount_0f7a4 := by decide +kernel
set_option maxHeartbeats 4000000 in
set_option maxRecDepth 100000 in
theorem c_J6_bitCount_0f7a4 (l : Launch) (V : z_V) (hV : z_ok V) (x0 : Int32) (σ : z_St) : z_CtI l V yJ6_bitCount_0f7a4 wsJ6_bitCount_0f7a4 rm_J6_bitCount_0f7a4 [.int x0] σ (f_J6_bitCount_0f7a4 x0 σ) := by
  refine z_startI (lv := [(0, .int x0)]) hV (by decide) rfl (Nat.le_of_ble_eq_true rfl) rfl ?_
  intro M hM hX
  have hX : z_Cx M V cJ6_bitCount_0f7a4 1 (some .int) wsJ6_bitCount_0f7a4 RJ6 := hX
  unfold f_J6_bitCount_0f7a4
  refine z_iload_n hX dJ6_bitCount_0f7a4_0 rfl 0 rfl ?_
  refine z_iload_n hX dJ6_bitCount_0f7a4_1 rfl 0 rfl ?_
  refine z_iconst (v := 1) hX dJ6_bitCount_0f7a4_2 (by decide) ?_
  refine z_iushr hX dJ6_bitCount_0f7a4_3 ?_
  refine z_ldcw (v := 1431655765) hX lk_J6_bitCount_0f7a4_c265 dJ6_bitCount_0f7a4_4 ?_
  refine z_iand hX dJ6_bitCount_0f7a4_7 ?_
  refine z_isub hX dJ6_bitCount_0f7a4_8 ?_
  refine z_top (fun v1 => ?_)
  refine z_istore_n (lv' := [(0, .int v1)]) hX dJ6_bitCount_0f7a4_9 rfl (by decide) rfl ?_
  refine z_iload_n hX dJ6_bitCount_0f7a4_10 rfl 0 rfl ?_
  refine z_ldcw (v := 858993459) hX lk_J6_bitCount_0f7a4_c266 dJ6_bitCount_0f7a4_11 ?_
  refine z_iand hX dJ6_bitCount_0f7a4_14 ?_
  refine z_iload_n hX dJ6_bitCount_0f7a4_15 rfl 0 rfl ?_
  refine z_iconst (v := 2) hX dJ6_bitCount_0f7a4_16 (by decide) ?_
  refine z_iushr hX dJ6_bitCount_0f7a4_17 ?_
  refine z_ldcw (v := 858993459) hX lk_J6_bitCount_0f7a4_c266 dJ6_bitCount_0f7a4_18 ?_
  refine z_iand hX dJ6_bitCount_0f7a4_21 ?_
  refine z_iadd hX dJ6_bitCount_0f7a4_22 ?_
  refine z_top (fun v2 => ?_)
  refine z_istore_n (lv' := [(0, .int v2)]) hX dJ6_bitCount_0f7a4_23 rfl (by decide) rfl ?_
  refine z_iload_n hX dJ6_bitCount_0f7a4_24 rfl 0 rfl ?_
  refine z_iload_n hX dJ6_bitCount_0f7a4_25 rfl 0 rfl ?_
  refine z_iconst (v := 4) hX dJ6_bitCount_0f7a4_26 (by decide) ?_
  refine z_iushr hX dJ6_bitCount_0f7a4_27 ?_
  refine z_iadd hX dJ6_bitCount_0f7a4_28 ?_
  refine z_ldcw (v := 252645135) hX lk_J6_bitCount_0f7a4_c267 dJ6_bitCount_0f7a4_29 ?_
  refine z_iand hX dJ6_bitCount_0f7a4_32 ?_
  refine z_top (fun v3 => ?_)
  refine z_istore_n (lv' := [(0, .int v3)]) hX dJ6_bitCount_0f7a4_33 rfl (by decide) rfl ?_
  refine z_iload_n hX dJ6_bitCount_0f7a4_34 rfl 0 rfl ?_
  refine z_iload_n hX dJ6_bitCount_0f7a4_35 rfl 0 rfl ?_
  refine z_bipush (v := 8) hX dJ6_bitCount_0f7a4_36 (by decide) ?_
  refine z_iushr hX dJ6_bitCount_0f7a4_38 ?_
  refine z_iadd hX dJ6_bitCount_0f7a4_39 ?_
  refine z_top (fun v4 => ?_)
  refine z_istore_n (lv' := [(0, .int v4)]) hX dJ6_bitCount_0f7a4_40 rfl (by decide) rfl ?_
  refine z_iload_n hX dJ6_bitCount_0f7a4_41 rfl 0 rfl ?_
  refine z_iload_n hX dJ6_bitCount_0f7a4_42 rfl 0 rfl ?_
  refine z_bipush (v := 16) hX dJ6_bitCount_0f7a4_43 (by decide) ?_
  refine z_iushr hX dJ6_bitCount_0f7a4_45 ?_
  refine z_iadd hX dJ6_bitCount_0f7a4_46 ?_
  refine z_top (fun v5 => ?_)
  refine z_istore_n (lv' := [(0, .int v5)]) hX dJ6_bitCount_0f7a4_47 rfl (by decide) rfl ?_
  refine z_iload_n hX dJ6_bitCount_0f7a4_48 rfl 0 rfl ?_
  refine z_bipush (v := 63) hX dJ6_bitCount_0f7a4_49 (by decide) ?_
  refine z_iand hX dJ6_bitCount_0f7a4_51 ?_
  exact z_iret hX dJ6_bitCount_0f7a4_52
