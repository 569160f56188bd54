abbrev rm_X6_go : Room := { frames := 5, cells := 0, slots := 0, locals := 116 }
theorem in_X6_go_X1 : ∀ w ∈ wsX10, w ∈ wsX6_go := fun w h => List.mem_cons_of_mem _ (List.mem_append_left _ (List.mem_append_right _ h))
theorem in_X6_go_X6 : ∀ w ∈ wsX60, w ∈ wsX6_go := fun w h => List.mem_cons_of_mem _ (List.mem_append_left _ (List.mem_append_left _ (List.mem_append_right _ h)))
theorem lk_X6_go_f26 : Cond.fieldLink RX6 26 (TX6 2).1 (TX6 2).2.1 (TX6 2).2.2.1 ∈ wsX6_go := by decide +kernel
theorem lk_X6_go_f108 : Cond.fieldLink RX6 108 (TX1 9).1 (TX1 9).2.1 (TX1 9).2.2.1 ∈ wsX6_go := by decide +kernel
theorem lk_X6_go_f19 : Cond.fieldLink RX6 19 (TX6 1).1 (TX6 1).2.1 (TX6 1).2.2.1 ∈ wsX6_go := by decide +kernel
set_option maxHeartbeats 4000000 in
set_option maxRecDepth 100000 in
theorem c_X6_go (l : Launch) (V : z_V) (hV : z_ok V) (hs : z_isX V) (x1 : Int32) (σ : z_St) : z_CtI l V yX6_go wsX6_go rm_X6_go [.ref (z_ad V 0), .int x1] σ (f_X6_go x1 σ) := by
  refine z_startI (lv := [(0, .ref (z_ad V 0)), (1, .int x1)]) hV (by decide) rfl (Nat.le_of_ble_eq_true rfl) rfl ?_
  intro M hM hX
  have hX : z_Cx M V cX6_go 2 (some .int) wsX6_go RX6 := hX
  unfold f_X6_go
  refine z_iload_n hX dX6_go_0 rfl 1 rfl ?_
  refine z_bipush (v := 20) hX dX6_go_1 (by decide) ?_
  refine z_callSI (n := 2) hX (c_X6_isWithin M.2.1 V hX.2.2.2.2.2 hs x1 (20 : Int32) σ) gX6_go_X6_isWithin rfl (by decide +kernel) ⟨by decide, by decide⟩ rfl rfl rfl rfl (Nat.le_of_ble_eq_true rfl) dX6_go_3 (fun r1 _ => ?_)
  refine z_if_ne (tgt := 11) hX dX6_go_6 (by decide) ?_ ?_
  · refine z_aload_n hX dX6_go_11 rfl 0 rfl ?_
    refine z_getR (k := 2) hX (z_bnk0 hs) rfl rfl in_X6_go_X6 (by decide) lk_X6_go_f26 dX6_go_12 ?_
    refine z_getI (k := 9) hX (z_led0 hs z_isled11) rfl rfl in_X6_go_X1 (by decide) lk_X6_go_f108 dX6_go_15 ?_
    refine z_iload_n hX dX6_go_18 rfl 1 rfl ?_
    refine z_iadd hX dX6_go_19 ?_
    refine z_bipush (v := 99) hX dX6_go_20 (by decide) ?_
    refine z_icmp_le (tgt := 28) hX dX6_go_22 (by decide) ?_ ?_
    · refine z_aload_n hX dX6_go_28 rfl 0 rfl ?_
      refine z_getR (k := 2) hX (z_bnk0 hs) rfl rfl in_X6_go_X6 (by decide) lk_X6_go_f26 dX6_go_29 ?_
      refine z_aload_n hX dX6_go_32 rfl 0 rfl ?_
      refine z_getR (k := 1) hX (z_bnk0 hs) rfl rfl in_X6_go_X6 (by decide) lk_X6_go_f19 dX6_go_33 ?_
      refine z_iload_n hX dX6_go_36 rfl 1 rfl ?_
      refine z_callVI (n := 2) hX (c_X1_passWeeks M.2.1 V hX.2.2.2.2.2 hs 11 z_isled11 4 z_issto4 x1 r1.2) gX6_go_X1_passWeeks rfl (by decide +kernel) ⟨by decide, by decide⟩ rfl rfl (z_led0 hs z_isled11) rfl rfl rfl rfl (Nat.le_of_ble_eq_true rfl) dX6_go_37 (fun r2 _ => ?_)
      exact z_iret hX dX6_go_40
    · refine z_bipush (v := -3) hX dX6_go_25 (by decide) ?_
      exact z_iret hX dX6_go_27
  · refine z_iconst (v := -1) hX dX6_go_9 (by decide) ?_
    exact z_iret hX dX6_go_10

abbrev rm_X6_ahead : Room := { frames := 5, cells := 0, slots := 0, locals := 116 }
theorem in_X6_ahead_X1 : ∀ w ∈ wsX10, w ∈ wsX6_ahead := fun w h => List.mem_cons_of_mem _ (List.mem_append_left _ (List.mem_append_right _ h))
theorem in_X6_ahead_X6 : ∀ w ∈ wsX60, w ∈ wsX6_ahead := fun w h => List.mem_cons_of_mem _ (List.mem_append_left _ (List.mem_append_left _ (List.mem_append_right _ h)))
theorem lk_X6_ahead_f37 : Cond.fieldLink RX6 37 (TX6 4).1 (TX6 4).2.1 (TX6 4).2.2.1 ∈ wsX6_ahead := by decide +kernel
theorem lk_X6_ahead_f26 : Cond.fieldLink RX6 26 (TX6 2).1 (TX6 2).2.1 (TX6 2).2.2.1 ∈ wsX6_ahead := by decide +kernel
theorem lk_X6_ahead_f19 : Cond.fieldLink RX6 19 (TX6 1).1 (TX6 1).2.1 (TX6 1).2.2.1 ∈ wsX6_ahead := by decide +kernel
theorem lk_X6_ahead_f121 : Cond.fieldLink RX6 121 (TX1 2).1 (TX1 2).2.1 (TX1 2).2.2.1 ∈ wsX6_ahead := by decide +kernel
theorem lk_X6_ahead_f124 : Cond.fieldLink RX6 124 (TX1 3).1 (TX1 3).2.1 (TX1 3).2.2.1 ∈ wsX6_ahead := by decide +kernel
theorem lk_X6_ahead_f127 : Cond.fieldLink RX6 127 (TX1 4).1 (TX1 4).2.1 (TX1 4).2.2.1 ∈ wsX6_ahead := by decide +kernel
theorem lk_X6_ahead_f105 : Cond.fieldLink RX6 105 (TX1 8).1 (TX1 8).2.1 (TX1 8).2.2.1 ∈ wsX6_ahead := by decide +kernel
set_option maxHeartbeats 4000000 in
set_option maxRecDepth 100000 in
theorem c_X6_ahead (l : Launch) (V : z_V) (hV : z_ok V) (hs : z_isX V) (x1 : Int32) (x2 : Int32) (x3 : Int32) (σ : z_St) : z_CtI l V yX6_ahead wsX6_ahead rm_X6_ahead [.ref (z_ad V 0), .int x1, .int x2, .int x3] σ (f_X6_ahead x1 x2 x3 σ) := by
  refine z_startI (lv := [(0, .ref (z_ad V 0)), (1, .int x1), (2, .int x2), (3, .int x3)]) hV (by decide) rfl (Nat.le_of_ble_eq_true rfl) rfl ?_
  intro M hM hX
  have hX : z_Cx M V cX6_ahead 4 (some .int) wsX6_ahead RX6 := hX
  unfold f_X6_ahead
  refine z_aload_n hX dX6_ahead_0 rfl 0 rfl ?_
  refine z_iload_n hX dX6_ahead_1 rfl 1 rfl ?_
  refine z_callVI (n := 1) hX (c_X6_isOne M.2.1 V hX.2.2.2.2.2 hs x1 σ) gX6_ahead_X6_isOne rfl (by decide +kernel) ⟨by decide, by decide⟩ rfl rfl (z_bnk0 hs) rfl rfl rfl rfl (Nat.le_of_ble_eq_true rfl) dX6_ahead_2 (fun r1 _ => ?_)
  refine z_if_eq (tgt := 25) hX dX6_ahead_5 (by decide) ?_ ?_
  · refine z_iconst (v := -1) hX dX6_ahead_25 (by decide) ?_
    exact z_iret hX dX6_ahead_26
  · refine z_iload_n hX dX6_ahead_8 rfl 2 rfl ?_
    refine z_bipush (v := 20) hX dX6_ahead_9 (by decide) ?_
    refine z_callSI (n := 2) hX (c_X6_isWithin M.2.1 V hX.2.2.2.2.2 hs x2 (20 : Int32) r1.2) gX6_ahead_X6_isWithin rfl (by decide +kernel) ⟨by decide, by decide⟩ rfl rfl rfl rfl (Nat.le_of_ble_eq_true rfl) dX6_ahead_11 (fun r2 _ => ?_)
    refine z_if_eq (tgt := 25) hX dX6_ahead_14 (by decide) ?_ ?_
    · refine z_iconst (v := -1) hX dX6_ahead_25 (by decide) ?_
      exact z_iret hX dX6_ahead_26
    · refine z_iload_n hX dX6_ahead_17 rfl 3 rfl ?_
      refine z_iconst (v := 3) hX dX6_ahead_18 (by decide) ?_
      refine z_callSI (n := 2) hX (c_X6_isWithin M.2.1 V hX.2.2.2.2.2 hs x3 (3 : Int32) r2.2) gX6_ahead_X6_isWithin rfl (by decide +kernel) ⟨by decide, by decide⟩ rfl rfl rfl rfl (Nat.le_of_ble_eq_true rfl) dX6_ahead_19 (fun r3 _ => ?_)
      refine z_if_ne (tgt := 27) hX dX6_ahead_22 (by decide) ?_ ?_
      · refine z_aload_n hX dX6_ahead_27 rfl 0 rfl ?_
        refine z_getR (k := 4) hX (z_bnk0 hs) rfl rfl in_X6_ahead_X6 (by decide) lk_X6_ahead_f37 dX6_ahead_28 ?_
        refine z_aload_n hX dX6_ahead_31 rfl 0 rfl ?_
        refine z_getR (k := 2) hX (z_bnk0 hs) rfl rfl in_X6_ahead_X6 (by decide) lk_X6_ahead_f26 dX6_ahead_32 ?_
        refine z_callVV (n := 1) hX (c_X1_copyFrom M.2.1 V hX.2.2.2.2.2 hs 17 z_isled17 11 z_isled11 r3.2) gX6_ahead_X1_copyFrom rfl (by decide +kernel) ⟨by decide, by decide⟩ rfl rfl (z_led0 hs z_isled17) rfl rfl rfl rfl (Nat.le_of_ble_eq_true rfl) dX6_ahead_35 (fun r4 _ => ?_)
        refine z_aload_n hX dX6_ahead_38 rfl 0 rfl ?_
        refine z_getR (k := 4) hX (z_bnk0 hs) rfl rfl in_X6_ahead_X6 (by decide) lk_X6_ahead_f37 dX6_ahead_39 ?_
        refine z_aload_n hX dX6_ahead_42 rfl 0 rfl ?_
        refine z_getR (k := 1) hX (z_bnk0 hs) rfl rfl in_X6_ahead_X6 (by decide) lk_X6_ahead_f19 dX6_ahead_43 ?_
        refine z_iload_n hX dX6_ahead_46 rfl 2 rfl ?_
        refine z_callVI (n := 2) hX (c_X1_passWeeks M.2.1 V hX.2.2.2.2.2 hs 17 z_isled17 4 z_issto4 x2 r4.2) gX6_ahead_X1_passWeeks rfl (by decide +kernel) ⟨by decide, by decide⟩ rfl rfl (z_led0 hs z_isled17) rfl rfl rfl rfl (Nat.le_of_ble_eq_true rfl) dX6_ahead_47 (fun r5 _ => ?_)
        refine z_pop hX dX6_ahead_50 rfl ?_
        refine z_iload_n hX dX6_ahead_51 rfl 3 rfl ?_
        refine z_case (fun h6 => ?_) (fun h6 => ?_)
        · refine z_tabIn (tgt := 80) hX dX6_ahead_52 (0 : Int32) h6 (by decide) (by decide) rfl (by decide) ?_
          refine z_aload_n hX dX6_ahead_80 rfl 0 rfl ?_
          refine z_getR (k := 4) hX (z_bnk0 hs) rfl rfl in_X6_ahead_X6 (by decide) lk_X6_ahead_f37 dX6_ahead_81 ?_
          refine z_getR (k := 2) hX (z_led0 hs z_isled17) rfl rfl in_X6_ahead_X1 (by decide) lk_X6_ahead_f121 dX6_ahead_84 ?_
          refine z_iload_n hX dX6_ahead_87 rfl 1 rfl ?_
          refine z_iald hX (z_led2 hs z_isled17) dX6_ahead_88 ?_
          exact z_iret hX dX6_ahead_89
        · skip
          refine z_case (fun h7 => ?_) (fun h7 => ?_)
          · refine z_tabIn (tgt := 90) hX dX6_ahead_52 (1 : Int32) h7 (by decide) (by decide) rfl (by decide) ?_
            refine z_aload_n hX dX6_ahead_90 rfl 0 rfl ?_
            refine z_getR (k := 4) hX (z_bnk0 hs) rfl rfl in_X6_ahead_X6 (by decide) lk_X6_ahead_f37 dX6_ahead_91 ?_
            refine z_getR (k := 3) hX (z_led0 hs z_isled17) rfl rfl in_X6_ahead_X1 (by decide) lk_X6_ahead_f124 dX6_ahead_94 ?_
            refine z_iload_n hX dX6_ahead_97 rfl 1 rfl ?_
            refine z_iald hX (z_led3 hs z_isled17) dX6_ahead_98 ?_
            exact z_iret hX dX6_ahead_99
          · skip
            refine z_case (fun h8 => ?_) (fun h8 => ?_)
            · refine z_tabIn (tgt := 100) hX dX6_ahead_52 (2 : Int32) h8 (by decide) (by decide) rfl (by decide) ?_
              refine z_aload_n hX dX6_ahead_100 rfl 0 rfl ?_
              refine z_getR (k := 4) hX (z_bnk0 hs) rfl rfl in_X6_ahead_X6 (by decide) lk_X6_ahead_f37 dX6_ahead_101 ?_
              refine z_getR (k := 4) hX (z_led0 hs z_isled17) rfl rfl in_X6_ahead_X1 (by decide) lk_X6_ahead_f127 dX6_ahead_104 ?_
              refine z_iload_n hX dX6_ahead_107 rfl 1 rfl ?_
              refine z_iald hX (z_led4 hs z_isled17) dX6_ahead_108 ?_
              refine z_aload_n hX dX6_ahead_109 rfl 0 rfl ?_
              refine z_getR (k := 2) hX (z_bnk0 hs) rfl rfl in_X6_ahead_X6 (by decide) lk_X6_ahead_f26 dX6_ahead_110 ?_
              refine z_getR (k := 4) hX (z_led0 hs z_isled11) rfl rfl in_X6_ahead_X1 (by decide) lk_X6_ahead_f127 dX6_ahead_113 ?_
              refine z_iload_n hX dX6_ahead_116 rfl 1 rfl ?_
              refine z_iald hX (z_led4 hs z_isled11) dX6_ahead_117 ?_
              refine z_isub hX dX6_ahead_118 ?_
              exact z_iret hX dX6_ahead_119
            · skip
              refine z_tabOut (tgt := 120) hX dX6_ahead_52 (by have qh6 := lv_neT (a := 0) h6 (by decide); have qh7 := lv_neT (a := 1) h7 (by decide); have qh8 := lv_neT (a := 2) h8 (by decide); omega) (by decide) ?_
              refine z_aload_n hX dX6_ahead_120 rfl 0 rfl ?_
              refine z_getR (k := 4) hX (z_bnk0 hs) rfl rfl in_X6_ahead_X6 (by decide) lk_X6_ahead_f37 dX6_ahead_121 ?_
              refine z_getI (k := 8) hX (z_led0 hs z_isled17) rfl rfl in_X6_ahead_X1 (by decide) lk_X6_ahead_f105 dX6_ahead_124 ?_
              exact z_iret hX dX6_ahead_127
      · refine z_iconst (v := -1) hX dX6_ahead_25 (by decide) ?_
        exact z_iret hX dX6_ahead_26

abbrev rm_X6_first : Room := { frames := 4, cells := 0, slots := 0, locals := 92 }
theorem in_X6_first_X1 : ∀ w ∈ wsX10, w ∈ wsX6_first := fun w h => List.mem_cons_of_mem _ (List.mem_append_left _ (List.mem_append_right _ h))
theorem in_X6_first_X6 : ∀ w ∈ wsX60, w ∈ wsX6_first := fun w h => List.mem_cons_of_mem _ (List.mem_append_left _ (List.mem_append_left _ (List.mem_append_right _ h)))
theorem lk_X6_first_f37 : Cond.fieldLink RX6 37 (TX6 4).1 (TX6 4).2.1 (TX6 4).2.2.1 ∈ wsX6_first := by decide +kernel
theorem lk_X6_first_f26 : Cond.fieldLink RX6 26 (TX6 2).1 (TX6 2).2.1 (TX6 2).2.2.1 ∈ wsX6_first := by decide +kernel
theorem lk_X6_first_f19 : Cond.fieldLink RX6 19 (TX6 1).1 (TX6 1).2.1 (TX6 1).2.2.1 ∈ wsX6_first := by decide +kernel
theorem lk_X6_first_f175 : Cond.fieldLink RX6 175 (TX1 10).1 (TX1 10).2.1 (TX1 10).2.2.1 ∈ wsX6_first := by decide +kernel
theorem lk_X6_first_f108 : Cond.fieldLink RX6 108 (TX1 9).1 (TX1 9).2.1 (TX1 9).2.2.1 ∈ wsX6_first := by decide +kernel
set_option maxHeartbeats 4000000 in
set_option maxRecDepth 100000 in
theorem w_X6_first_23 (M : z_M) (V : z_V) (hs : z_isX V) (hX : z_Cx M V cX6_first 3 (some .int) wsX6_first RX6) : ∀ (n : Nat) (x1 : Int32) (x2 : Int32) (σ : z_St), z_Go M rm_X6_first 3 V (z_QI V) σ 23 [(0, .ref (z_ad V 0)), (1, .int x1), (2, .int x2)] [] (f_X6_first_23 n x1 x2 σ) := by
  intro n
  induction n with
  | zero => intro x1 x2 σ; exact z_none
  | succ n ih =>
    intro x1 x2 σ
    rw [f_X6_first_23]
    refine z_iload_n hX dX6_first_23 rfl 2 rfl ?_
    refine z_bipush (v := 20) hX dX6_first_24 (by decide) ?_
    refine z_icmp_ge (tgt := 72) hX dX6_first_26 (by decide) ?_ ?_
    · refine z_bipush (v := -4) hX dX6_first_72 (by decide) ?_
      exact z_iret hX dX6_first_74
    · refine z_aload_n hX dX6_first_29 rfl 0 rfl ?_
      refine z_getR (k := 4) hX (z_bnk0 hs) rfl rfl in_X6_first_X6 (by decide) lk_X6_first_f37 dX6_first_30 ?_
      refine z_aload_n hX dX6_first_33 rfl 0 rfl ?_
      refine z_getR (k := 1) hX (z_bnk0 hs) rfl rfl in_X6_first_X6 (by decide) lk_X6_first_f19 dX6_first_34 ?_
      refine z_callVI (n := 1) hX (c_X1_passWeek M.2.1 V hX.2.2.2.2.2 hs 17 z_isled17 4 z_issto4 σ) gX6_first_X1_passWeek rfl (by decide +kernel) ⟨by decide, by decide⟩ rfl rfl (z_led0 hs z_isled17) rfl rfl rfl rfl (Nat.le_of_ble_eq_true rfl) dX6_first_37 (fun r3 _ => ?_)
      refine z_pop hX dX6_first_40 rfl ?_
      refine z_aload_n hX dX6_first_41 rfl 0 rfl ?_
      refine z_getR (k := 4) hX (z_bnk0 hs) rfl rfl in_X6_first_X6 (by decide) lk_X6_first_f37 dX6_first_42 ?_
      refine z_getI (k := 10) hX (z_led0 hs z_isled17) rfl rfl in_X6_first_X1 (by decide) lk_X6_first_f175 dX6_first_45 ?_
      refine z_iload_n hX dX6_first_48 rfl 1 rfl ?_
      refine z_ishr hX dX6_first_49 ?_
      refine z_iconst (v := 1) hX dX6_first_50 (by decide) ?_
      refine z_iand hX dX6_first_51 ?_
      refine z_iconst (v := 1) hX dX6_first_52 (by decide) ?_
      refine z_icmp_ne (tgt := 66) hX dX6_first_53 (by decide) ?_ ?_
      · refine z_iinc (v := (x2 + 1)) (lv' := [(2, .int (x2 + 1)), (0, .ref (z_ad V 0)), (1, .int x1)]) hX dX6_first_66 2 rfl rfl (by decide) rfl ?_
        refine z_goto (tgt := 23) hX dX6_first_69 (by decide) ?_
        refine z_sub [1, 2, 0] rfl ?_
        exact ih x1 (x2 + 1) r3.2
      · refine z_aload_n hX dX6_first_56 rfl 0 rfl ?_
        refine z_getR (k := 2) hX (z_bnk0 hs) rfl rfl in_X6_first_X6 (by decide) lk_X6_first_f26 dX6_first_57 ?_
        refine z_getI (k := 9) hX (z_led0 hs z_isled11) rfl rfl in_X6_first_X1 (by decide) lk_X6_first_f108 dX6_first_60 ?_
        refine z_iload_n hX dX6_first_63 rfl 2 rfl ?_
        refine z_iadd hX dX6_first_64 ?_
        exact z_iret hX dX6_first_65
set_option maxHeartbeats 4000000 in
set_option maxRecDepth 100000 in
theorem c_X6_first (l : Launch) (V : z_V) (hV : z_ok V) (hs : z_isX V) (x1 : Int32) (σ : z_St) : z_CtI l V yX6_first wsX6_first rm_X6_first [.ref (z_ad V 0), .int x1] σ (f_X6_first x1 σ) := by
  refine z_startI (lv := [(0, .ref (z_ad V 0)), (1, .int x1)]) hV (by decide) rfl (Nat.le_of_ble_eq_true rfl) rfl ?_
  intro M hM hX
  have hX : z_Cx M V cX6_first 3 (some .int) wsX6_first RX6 := hX
  unfold f_X6_first
  refine z_aload_n hX dX6_first_0 rfl 0 rfl ?_
  refine z_iload_n hX dX6_first_1 rfl 1 rfl ?_
  refine z_callVI (n := 1) hX (c_X6_isOne M.2.1 V hX.2.2.2.2.2 hs x1 σ) gX6_first_X6_isOne rfl (by decide +kernel) ⟨by decide, by decide⟩ rfl rfl (z_bnk0 hs) rfl rfl rfl rfl (Nat.le_of_ble_eq_true rfl) dX6_first_2 (fun r1 _ => ?_)
  refine z_if_ne (tgt := 10) hX dX6_first_5 (by decide) ?_ ?_
  · refine z_aload_n hX dX6_first_10 rfl 0 rfl ?_
    refine z_getR (k := 4) hX (z_bnk0 hs) rfl rfl in_X6_first_X6 (by decide) lk_X6_first_f37 dX6_first_11 ?_
    refine z_aload_n hX dX6_first_14 rfl 0 rfl ?_
    refine z_getR (k := 2) hX (z_bnk0 hs) rfl rfl in_X6_first_X6 (by decide) lk_X6_first_f26 dX6_first_15 ?_
    refine z_callVV (n := 1) hX (c_X1_copyFrom M.2.1 V hX.2.2.2.2.2 hs 17 z_isled17 11 z_isled11 r1.2) gX6_first_X1_copyFrom rfl (by decide +kernel) ⟨by decide, by decide⟩ rfl rfl (z_led0 hs z_isled17) rfl rfl rfl rfl (Nat.le_of_ble_eq_true rfl) dX6_first_18 (fun r2 _ => ?_)
    refine z_iconst (v := 0) hX dX6_first_21 (by decide) ?_
    refine z_istore_n (lv' := [(2, .int (0 : Int32)), (0, .ref (z_ad V 0)), (1, .int x1)]) hX dX6_first_22 rfl (by decide) rfl ?_
    refine z_sub [1, 2, 0] rfl ?_
    exact w_X6_first_23 M V hs hX 200 x1 (0 : Int32) r2.2
  · refine z_iconst (v := -1) hX dX6_first_8 (by decide) ?_
    exact z_iret hX dX6_first_9

abbrev rm_X6_modest : Room := { frames := 4, cells := 0, slots := 0, locals := 92 }
theorem in_X6_modest_X6 : ∀ w ∈ wsX60, w ∈ wsX6_modest := fun w h => List.mem_cons_of_mem _ (List.mem_append_left _ (List.mem_append_left _ (List.mem_append_right _ h)))
theorem lk_X6_modest_f37 : Cond.fieldLink RX6 37 (TX6 4).1 (TX6 4).2.1 (TX6 4).2.2.1 ∈ wsX6_modest := by decide +kernel
theorem lk_X6_modest_f26 : Cond.fieldLink RX6 26 (TX6 2).1 (TX6 2).2.1 (TX6 2).2.2.1 ∈ wsX6_modest := by decide +kernel
theorem lk_X6_modest_f19 : Cond.fieldLink RX6 19 (TX6 1).1 (TX6 1).2.1 (TX6 1).2.2.1 ∈ wsX6_modest := by decide +kernel
set_option maxHeartbeats 4000000 in
set_option maxRecDepth 100000 in
theorem w_X6_modest_15 (M : z_M) (V : z_V) (hs : z_isX V) (hX : z_Cx M V cX6_modest 3 (some .int) wsX6_modest RX6) : ∀ (n : Nat) (x1 : Int32) (x2 : Int32) (σ : z_St), z_Go M rm_X6_modest 3 V (z_QI V) σ 15 [(0, .ref (z_ad V 0)), (1, .int x1), (2, .int x2)] [] (f_X6_modest_15 n x1 x2 σ) := by
  intro n
  induction n with
  | zero => intro x1 x2 σ; exact z_none
  | succ n ih =>
    intro x1 x2 σ
    rw [f_X6_modest_15]
    refine z_iload_n hX dX6_modest_15 rfl 2 rfl ?_
    refine z_bipush (v := 10) hX dX6_modest_16 (by decide) ?_
    refine z_icmp_ge (tgt := 44) hX dX6_modest_18 (by decide) ?_ ?_
    · refine z_iload_n hX dX6_modest_44 rfl 1 rfl ?_
      exact z_iret hX dX6_modest_45
    · refine z_aload_n hX dX6_modest_21 rfl 0 rfl ?_
      refine z_getR (k := 4) hX (z_bnk0 hs) rfl rfl in_X6_modest_X6 (by decide) lk_X6_modest_f37 dX6_modest_22 ?_
      refine z_aload_n hX dX6_modest_25 rfl 0 rfl ?_
      refine z_getR (k := 1) hX (z_bnk0 hs) rfl rfl in_X6_modest_X6 (by decide) lk_X6_modest_f19 dX6_modest_26 ?_
      refine z_callVI (n := 1) hX (c_X1_passWeek M.2.1 V hX.2.2.2.2.2 hs 17 z_isled17 4 z_issto4 σ) gX6_modest_X1_passWeek rfl (by decide +kernel) ⟨by decide, by decide⟩ rfl rfl (z_led0 hs z_isled17) rfl rfl rfl rfl (Nat.le_of_ble_eq_true rfl) dX6_modest_29 (fun r2 _ => ?_)
      refine z_if_ne (tgt := 38) hX dX6_modest_32 (by decide) ?_ ?_
      · refine z_iinc (v := (x2 + 1)) (lv' := [(2, .int (x2 + 1)), (0, .ref (z_ad V 0)), (1, .int x1)]) hX dX6_modest_38 2 rfl rfl (by decide) rfl ?_
        refine z_goto (tgt := 15) hX dX6_modest_41 (by decide) ?_
        refine z_sub [1, 2, 0] rfl ?_
        exact ih x1 (x2 + 1) r2.2
      · refine z_iinc (v := (x1 + 1)) (lv' := [(1, .int (x1 + 1)), (0, .ref (z_ad V 0)), (2, .int x2)]) hX dX6_modest_35 1 rfl rfl (by decide) rfl ?_
        refine z_iinc (v := (x2 + 1)) (lv' := [(2, .int (x2 + 1)), (1, .int (x1 + 1)), (0, .ref (z_ad V 0))]) hX dX6_modest_38 2 rfl rfl (by decide) rfl ?_
        refine z_goto (tgt := 15) hX dX6_modest_41 (by decide) ?_
        refine z_sub [2, 1, 0] rfl ?_
        exact ih (x1 + 1) (x2 + 1) r2.2
set_option maxHeartbeats 4000000 in
set_option maxRecDepth 100000 in
theorem c_X6_modest (l : Launch) (V : z_V) (hV : z_ok V) (hs : z_isX V) (σ : z_St) : z_CtI l V yX6_modest wsX6_modest rm_X6_modest [.ref (z_ad V 0)] σ (f_X6_modest σ) := by
  refine z_startI (lv := [(0, .ref (z_ad V 0))]) hV (by decide) rfl (Nat.le_of_ble_eq_true rfl) rfl ?_
  intro M hM hX
  have hX : z_Cx M V cX6_modest 3 (some .int) wsX6_modest RX6 := hX
  unfold f_X6_modest
  refine z_aload_n hX dX6_modest_0 rfl 0 rfl ?_
  refine z_getR (k := 4) hX (z_bnk0 hs) rfl rfl in_X6_modest_X6 (by decide) lk_X6_modest_f37 dX6_modest_1 ?_
  refine z_aload_n hX dX6_modest_4 rfl 0 rfl ?_
  refine z_getR (k := 2) hX (z_bnk0 hs) rfl rfl in_X6_modest_X6 (by decide) lk_X6_modest_f26 dX6_modest_5 ?_
  refine z_callVV (n := 1) hX (c_X1_copyFrom M.2.1 V hX.2.2.2.2.2 hs 17 z_isled17 11 z_isled11 σ) gX6_modest_X1_copyFrom rfl (by decide +kernel) ⟨by decide, by decide⟩ rfl rfl (z_led0 hs z_isled17) rfl rfl rfl rfl (Nat.le_of_ble_eq_true rfl) dX6_modest_8 (fun r1 _ => ?_)
  refine z_iconst (v := 0) hX dX6_modest_11 (by decide) ?_
  refine z_istore_n (lv' := [(1, .int (0 : Int32)), (0, .ref (z_ad V 0))]) hX dX6_modest_12 rfl (by decide) rfl ?_
  refine z_iconst (v := 0) hX dX6_modest_13 (by decide) ?_
  refine z_istore_n (lv' := [(2, .int (0 : Int32)), (1, .int (0 : Int32)), (0, .ref (z_ad V 0))]) hX dX6_modest_14 rfl (by decide) rfl ?_
  refine z_sub [2, 1, 0] rfl ?_
  exact w_X6_modest_15 M V hs hX 200 (0 : Int32) (0 : Int32) r1.2

abbrev rm_X6_plan : Room := { frames := 6, cells := 0, slots := 0, locals := 136 }
set_option maxHeartbeats 4000000 in
set_option maxRecDepth 100000 in
theorem c_X6_plan (l : Launch) (V : z_V) (hV : z_ok V) (hs : z_isX V) (x1 : Int32) (σ : z_St) : z_CtI l V yX6_plan wsX6_plan rm_X6_plan [.ref (z_ad V 0), .int x1] σ (f_X6_plan x1 σ) := by
  refine z_startI (lv := [(0, .ref (z_ad V 0)), (1, .int x1)]) hV (by decide) rfl (Nat.le_of_ble_eq_true rfl) rfl ?_
  intro M hM hX
  have hX : z_Cx M V cX6_plan 2 (some .int) wsX6_plan RX6 := hX
  unfold f_X6_plan
  refine z_iload_n hX dX6_plan_0 rfl 1 rfl ?_
  refine z_aload_n hX dX6_plan_1 rfl 0 rfl ?_
  refine z_callVI (n := 0) hX (c_X6_allIncidents M.2.1 V hX.2.2.2.2.2 hs σ) gX6_plan_X6_allIncidents rfl (by decide +kernel) ⟨by decide, by decide⟩ rfl rfl (z_bnk0 hs) rfl rfl rfl rfl (Nat.le_of_ble_eq_true rfl) dX6_plan_2 (fun r1 _ => ?_)
  refine z_callSI (n := 2) hX (c_X6_isWithin M.2.1 V hX.2.2.2.2.2 hs x1 r1.1 r1.2) gX6_plan_X6_isWithin rfl (by decide +kernel) ⟨by decide, by decide⟩ rfl rfl rfl rfl (Nat.le_of_ble_eq_true rfl) dX6_plan_5 (fun r2 _ => ?_)
  refine z_if_ne (tgt := 13) hX dX6_plan_8 (by decide) ?_ ?_
  · refine z_aload_n hX dX6_plan_13 rfl 0 rfl ?_
    refine z_iload_n hX dX6_plan_14 rfl 1 rfl ?_
    refine z_callVI (n := 1) hX (c_X6_keepsThePast M.2.1 V hX.2.2.2.2.2 hs x1 r2.2) gX6_plan_X6_keepsThePast rfl (by decide +kernel) ⟨by decide, by decide⟩ rfl rfl (z_bnk0 hs) rfl rfl rfl rfl (Nat.le_of_ble_eq_true rfl) dX6_plan_15 (fun r3 _ => ?_)
    refine z_if_eq (tgt := 29) hX dX6_plan_18 (by decide) ?_ ?_
    · refine z_bipush (v := -2) hX dX6_plan_29 (by decide) ?_
      exact z_iret hX dX6_plan_31
    · refine z_aload_n hX dX6_plan_21 rfl 0 rfl ?_
      refine z_iload_n hX dX6_plan_22 rfl 1 rfl ?_
      refine z_callVI (n := 1) hX (c_X6_timesByPlan M.2.1 V hX.2.2.2.2.2 hs x1 r3.2) gX6_plan_X6_timesByPlan rfl (by decide +kernel) ⟨by decide, by decide⟩ rfl rfl (z_bnk0 hs) rfl rfl rfl rfl (Nat.le_of_ble_eq_true rfl) dX6_plan_23 (fun r4 _ => ?_)
      refine z_goto (tgt := 31) hX dX6_plan_26 (by decide) ?_
      exact z_iret hX dX6_plan_31
  · refine z_iconst (v := -1) hX dX6_plan_11 (by decide) ?_
    exact z_iret hX dX6_plan_12

abbrev rm_X6_best : Room := { frames := 6, cells := 0, slots := 0, locals := 136 }
theorem in_X6_best_X1 : ∀ w ∈ wsX10, w ∈ wsX6_best := fun w h => List.mem_cons_of_mem _ (List.mem_append_left _ (List.mem_append_right _ h))
theorem in_X6_best_X6 : ∀ w ∈ wsX60, w ∈ wsX6_best := fun w h => List.mem_cons_of_mem _ (List.mem_append_left _ (List.mem_append_left _ (List.mem_append_right _ h)))
theorem lk_X6_best_f26 : Cond.fieldLink RX6 26 (TX6 2).1 (TX6 2).2.1 (TX6 2).2.2.1 ∈ wsX6_best := by decide +kernel
theorem lk_X6_best_f111 : Cond.fieldLink RX6 111 (TX1 6).1 (TX1 6).2.1 (TX1 6).2.2.1 ∈ wsX6_best := by decide +kernel
set_option maxHeartbeats 4000000 in
set_option maxRecDepth 100000 in
theorem w_X6_best_27 (M : z_M) (V : z_V) (hs : z_isX V) (hX : z_Cx M V cX6_best 6 (some .int) wsX6_best RX6) : ∀ (n : Nat) (x1 : Int32) (x2 : Int32) (x3 : Int32) (x4 : Int32) (σ : z_St), z_Go M rm_X6_best 6 V (z_QI V) σ 27 [(0, .ref (z_ad V 0)), (1, .int x1), (2, .int x2), (3, .int x3), (4, .int x4)] [] (f_X6_best_27 n x1 x2 x3 x4 σ) := by
  intro n
  induction n with
  | zero => intro x1 x2 x3 x4 σ; exact z_none
  | succ n ih =>
    intro x1 x2 x3 x4 σ
    rw [f_X6_best_27]
    refine z_iload hX dX6_best_27 4 rfl ?_
    refine z_aload_n hX dX6_best_29 rfl 0 rfl ?_
    refine z_callVI (n := 0) hX (c_X6_allIncidents M.2.1 V hX.2.2.2.2.2 hs σ) gX6_best_X6_allIncidents rfl (by decide +kernel) ⟨by decide, by decide⟩ rfl rfl (z_bnk0 hs) rfl rfl rfl rfl (Nat.le_of_ble_eq_true rfl) dX6_best_30 (fun r3 _ => ?_)
    refine z_icmp_gt (tgt := 86) hX dX6_best_33 (by decide) ?_ ?_
    · refine z_iload_n hX dX6_best_86 rfl 1 rfl ?_
      refine z_if_ne (tgt := 94) hX dX6_best_87 (by decide) ?_ ?_
      · refine z_iload_n hX dX6_best_94 rfl 3 rfl ?_
        exact z_iret hX dX6_best_95
      · refine z_iload_n hX dX6_best_90 rfl 2 rfl ?_
        refine z_goto (tgt := 95) hX dX6_best_91 (by decide) ?_
        exact z_iret hX dX6_best_95
    · refine z_aload_n hX dX6_best_36 rfl 0 rfl ?_
      refine z_iload hX dX6_best_37 4 rfl ?_
      refine z_callVI (n := 1) hX (c_X6_keepsThePast M.2.1 V hX.2.2.2.2.2 hs x4 r3.2) gX6_best_X6_keepsThePast rfl (by decide +kernel) ⟨by decide, by decide⟩ rfl rfl (z_bnk0 hs) rfl rfl rfl rfl (Nat.le_of_ble_eq_true rfl) dX6_best_39 (fun r4 _ => ?_)
      refine z_if_eq (tgt := 80) hX dX6_best_42 (by decide) ?_ ?_
      · refine z_iinc (v := (x4 + 1)) (lv' := [(4, .int (x4 + 1)), (0, .ref (z_ad V 0)), (1, .int x1), (2, .int x2), (3, .int x3)]) hX dX6_best_80 4 rfl rfl (by decide) rfl ?_
        refine z_goto (tgt := 27) hX dX6_best_83 (by decide) ?_
        refine z_sub [1, 2, 3, 4, 0] rfl ?_
        exact ih x1 x2 x3 (x4 + 1) r4.2
      · refine z_aload_n hX dX6_best_45 rfl 0 rfl ?_
        refine z_iload hX dX6_best_46 4 rfl ?_
        refine z_callVI (n := 1) hX (c_X6_timesByPlan M.2.1 V hX.2.2.2.2.2 hs x4 r4.2) gX6_best_X6_timesByPlan rfl (by decide +kernel) ⟨by decide, by decide⟩ rfl rfl (z_bnk0 hs) rfl rfl rfl rfl (Nat.le_of_ble_eq_true rfl) dX6_best_48 (fun r5 _ => ?_)
        refine z_istore (lv' := [(5, .int r5.1), (0, .ref (z_ad V 0)), (1, .int x1), (2, .int x2), (3, .int x3), (4, .int x4)]) hX dX6_best_51 (by decide) rfl ?_
        refine z_iload hX dX6_best_53 0 rfl ?_
        refine z_iload_n hX dX6_best_55 rfl 4 rfl ?_
        refine z_icmp_lt (tgt := 74) hX dX6_best_56 (by decide) ?_ ?_
        · refine z_iload hX dX6_best_74 5 rfl ?_
          refine z_istore_n (lv' := [(2, .int x4), (5, .int r5.1), (0, .ref (z_ad V 0)), (1, .int x1), (3, .int x3), (4, .int x4)]) hX dX6_best_76 rfl (by decide) rfl ?_
          refine z_iload hX dX6_best_77 1 rfl ?_
          refine z_istore_n (lv' := [(3, .int r5.1), (2, .int x4), (5, .int r5.1), (0, .ref (z_ad V 0)), (1, .int x1), (4, .int x4)]) hX dX6_best_79 rfl (by decide) rfl ?_
          refine z_iinc (v := (x4 + 1)) (lv' := [(4, .int (x4 + 1)), (3, .int r5.1), (2, .int x4), (5, .int r5.1), (0, .ref (z_ad V 0)), (1, .int x1)]) hX dX6_best_80 5 rfl rfl (by decide) rfl ?_
          refine z_goto (tgt := 27) hX dX6_best_83 (by decide) ?_
          refine z_sub [4, 5, 2, 1, 0] rfl ?_
          exact ih x1 x4 r5.1 (x4 + 1) r5.2
        · refine z_iload hX dX6_best_59 0 rfl ?_
          refine z_iload_n hX dX6_best_61 rfl 4 rfl ?_
          refine z_icmp_ne (tgt := 80) hX dX6_best_62 (by decide) ?_ ?_
          · refine z_iinc (v := (x4 + 1)) (lv' := [(4, .int (x4 + 1)), (5, .int r5.1), (0, .ref (z_ad V 0)), (1, .int x1), (2, .int x2), (3, .int x3)]) hX dX6_best_80 5 rfl rfl (by decide) rfl ?_
            refine z_goto (tgt := 27) hX dX6_best_83 (by decide) ?_
            refine z_sub [2, 3, 4, 5, 0] rfl ?_
            exact ih x1 x2 x3 (x4 + 1) r5.2
          · refine z_iload hX dX6_best_65 5 rfl ?_
            refine z_iload_n hX dX6_best_67 rfl 3 rfl ?_
            refine z_callSI (n := 2) hX (c_X6_isSmaller M.2.1 V hX.2.2.2.2.2 hs x4 x2 r5.2) gX6_best_X6_isSmaller rfl (by decide +kernel) ⟨by decide, by decide⟩ rfl rfl rfl rfl (Nat.le_of_ble_eq_true rfl) dX6_best_68 (fun r6 _ => ?_)
            refine z_if_eq (tgt := 80) hX dX6_best_71 (by decide) ?_ ?_
            · refine z_iinc (v := (x4 + 1)) (lv' := [(4, .int (x4 + 1)), (5, .int r5.1), (0, .ref (z_ad V 0)), (1, .int x1), (2, .int x2), (3, .int x3)]) hX dX6_best_80 5 rfl rfl (by decide) rfl ?_
              refine z_goto (tgt := 27) hX dX6_best_83 (by decide) ?_
              refine z_sub [2, 3, 4, 5, 0] rfl ?_
              exact ih x1 x2 x3 (x4 + 1) r6.2
            · refine z_iload hX dX6_best_74 5 rfl ?_
              refine z_istore_n (lv' := [(2, .int x4), (5, .int r5.1), (0, .ref (z_ad V 0)), (1, .int x1), (3, .int x3), (4, .int x4)]) hX dX6_best_76 rfl (by decide) rfl ?_
              refine z_iload hX dX6_best_77 1 rfl ?_
              refine z_istore_n (lv' := [(3, .int r5.1), (2, .int x4), (5, .int r5.1), (0, .ref (z_ad V 0)), (1, .int x1), (4, .int x4)]) hX dX6_best_79 rfl (by decide) rfl ?_
              refine z_iinc (v := (x4 + 1)) (lv' := [(4, .int (x4 + 1)), (3, .int r5.1), (2, .int x4), (5, .int r5.1), (0, .ref (z_ad V 0)), (1, .int x1)]) hX dX6_best_80 5 rfl rfl (by decide) rfl ?_
              refine z_goto (tgt := 27) hX dX6_best_83 (by decide) ?_
              refine z_sub [4, 5, 2, 1, 0] rfl ?_
              exact ih x1 x4 r5.1 (x4 + 1) r6.2
set_option maxHeartbeats 4000000 in
set_option maxRecDepth 100000 in
theorem c_X6_best (l : Launch) (V : z_V) (hV : z_ok V) (hs : z_isX V) (x1 : Int32) (σ : z_St) : z_CtI l V yX6_best wsX6_best rm_X6_best [.ref (z_ad V 0), .int x1] σ (f_X6_best x1 σ) := by
  refine z_startI (lv := [(0, .ref (z_ad V 0)), (1, .int x1)]) hV (by decide) rfl (Nat.le_of_ble_eq_true rfl) rfl ?_
  intro M hM hX
  have hX : z_Cx M V cX6_best 6 (some .int) wsX6_best RX6 := hX
  unfold f_X6_best
  refine z_iload_n hX dX6_best_0 rfl 1 rfl ?_
  refine z_iconst (v := 1) hX dX6_best_1 (by decide) ?_
  refine z_callSI (n := 2) hX (c_X6_isWithin M.2.1 V hX.2.2.2.2.2 hs x1 (1 : Int32) σ) gX6_best_X6_isWithin rfl (by decide +kernel) ⟨by decide, by decide⟩ rfl rfl rfl rfl (Nat.le_of_ble_eq_true rfl) dX6_best_2 (fun r1 _ => ?_)
  refine z_if_ne (tgt := 10) hX dX6_best_5 (by decide) ?_ ?_
  · refine z_aload_n hX dX6_best_10 rfl 0 rfl ?_
    refine z_getR (k := 2) hX (z_bnk0 hs) rfl rfl in_X6_best_X6 (by decide) lk_X6_best_f26 dX6_best_11 ?_
    refine z_getI (k := 6) hX (z_led0 hs z_isled11) rfl rfl in_X6_best_X1 (by decide) lk_X6_best_f111 dX6_best_14 ?_
    refine z_istore_n (lv' := [(2, .int (r1.2 11 6)), (0, .ref (z_ad V 0)), (1, .int x1)]) hX dX6_best_17 rfl (by decide) rfl ?_
    refine z_aload_n hX dX6_best_18 rfl 1 rfl ?_
    refine z_iload_n hX dX6_best_19 rfl 0 rfl ?_
    refine z_callVI (n := 1) hX (c_X6_timesByPlan M.2.1 V hX.2.2.2.2.2 hs (r1.2 11 6) r1.2) gX6_best_X6_timesByPlan rfl (by decide +kernel) ⟨by decide, by decide⟩ rfl rfl (z_bnk0 hs) rfl rfl rfl rfl (Nat.le_of_ble_eq_true rfl) dX6_best_20 (fun r2 _ => ?_)
    refine z_istore_n (lv' := [(3, .int r2.1), (2, .int (r1.2 11 6)), (0, .ref (z_ad V 0)), (1, .int x1)]) hX dX6_best_23 rfl (by decide) rfl ?_
    refine z_iconst (v := 0) hX dX6_best_24 (by decide) ?_
    refine z_istore (lv' := [(4, .int (0 : Int32)), (3, .int r2.1), (2, .int (r1.2 11 6)), (0, .ref (z_ad V 0)), (1, .int x1)]) hX dX6_best_25 (by decide) rfl ?_
    refine z_sub [3, 4, 2, 1, 0] rfl ?_
    exact w_X6_best_27 M V hs hX 200 x1 (r1.2 11 6) r2.1 (0 : Int32) r2.2
  · refine z_iconst (v := -1) hX dX6_best_8 (by decide) ?_
    exact z_iret hX dX6_best_9

abbrev rm_X6_save : Room := { frames := 6, cells := 0, slots := 0, locals := 136 }
theorem in_X6_save_X1 : ∀ w ∈ wsX10, w ∈ wsX6_save := fun w h => List.mem_cons_of_mem _ (List.mem_append_left _ (List.mem_append_right _ h))
theorem in_X6_save_X6 : ∀ w ∈ wsX60, w ∈ wsX6_save := fun w h => List.mem_cons_of_mem _ (List.mem_append_left _ (List.mem_append_left _ (List.mem_append_right _ h)))
theorem lk_X6_save_f37 : Cond.fieldLink RX6 37 (TX6 4).1 (TX6 4).2.1 (TX6 4).2.2.1 ∈ wsX6_save := by decide +kernel
theorem lk_X6_save_f127 : Cond.fieldLink RX6 127 (TX1 4).1 (TX1 4).2.1 (TX1 4).2.2.1 ∈ wsX6_save := by decide +kernel
theorem lk_X6_save_f26 : Cond.fieldLink RX6 26 (TX6 2).1 (TX6 2).2.1 (TX6 2).2.2.1 ∈ wsX6_save := by decide +kernel
set_option maxHeartbeats 4000000 in
set_option maxRecDepth 100000 in
theorem w_X6_save_45 (M : z_M) (V : z_V) (hs : z_isX V) (hX : z_Cx M V cX6_save 4 (some .int) wsX6_save RX6) (K15 : Int32 → Int32 → Int32 → z_St → Option (Int32 × z_St)) (hK15 : ∀ (x1 : Int32) (x2 : Int32) (x3 : Int32) (σ : z_St), z_Go M rm_X6_save 4 V (z_QI V) σ 15 [(0, .ref (z_ad V 0)), (1, .int x1), (2, .int x2), (3, .int x3)] [] (K15 x1 x2 x3 σ)) (x1 : Int32) (x2 : Int32) (x3 : Int32) (σ : z_St) : z_Go M rm_X6_save 4 V (z_QI V) σ 45 [(0, .ref (z_ad V 0)), (1, .int x1), (2, .int x2), (3, .int x3)] [] (f_X6_save_45 K15 x1 x2 x3 σ) := by
  unfold f_X6_save_45
  refine z_aload_n hX dX6_save_45 rfl 0 rfl ?_
  refine z_iload_n hX dX6_save_46 rfl 3 rfl ?_
  refine z_callVI (n := 1) hX (c_X6_timesByPlan M.2.1 V hX.2.2.2.2.2 hs x3 σ) gX6_save_X6_timesByPlan rfl (by decide +kernel) ⟨by decide, by decide⟩ rfl rfl (z_bnk0 hs) rfl rfl rfl rfl (Nat.le_of_ble_eq_true rfl) dX6_save_47 (fun r4 _ => ?_)
  refine z_pop hX dX6_save_50 rfl ?_
  refine z_aload_n hX dX6_save_51 rfl 0 rfl ?_
  refine z_getR (k := 4) hX (z_bnk0 hs) rfl rfl in_X6_save_X6 (by decide) lk_X6_save_f37 dX6_save_52 ?_
  refine z_getR (k := 4) hX (z_led0 hs z_isled17) rfl rfl in_X6_save_X1 (by decide) lk_X6_save_f127 dX6_save_55 ?_
  refine z_iload_n hX dX6_save_58 rfl 1 rfl ?_
  refine z_iald hX (z_led4 hs z_isled17) dX6_save_59 ?_
  refine z_aload_n hX dX6_save_60 rfl 0 rfl ?_
  refine z_getR (k := 2) hX (z_bnk0 hs) rfl rfl in_X6_save_X6 (by decide) lk_X6_save_f26 dX6_save_61 ?_
  refine z_getR (k := 4) hX (z_led0 hs z_isled11) rfl rfl in_X6_save_X1 (by decide) lk_X6_save_f127 dX6_save_64 ?_
  refine z_iload_n hX dX6_save_67 rfl 1 rfl ?_
  refine z_iald hX (z_led4 hs z_isled11) dX6_save_68 ?_
  refine z_icmp_ne (tgt := 76) hX dX6_save_69 (by decide) ?_ ?_
  · refine z_iload_n hX dX6_save_76 rfl 2 rfl ?_
    refine z_istore_n (lv' := [(2, .int x2), (0, .ref (z_ad V 0)), (1, .int x1), (3, .int x3)]) hX dX6_save_77 rfl (by decide) rfl ?_
    refine z_iinc (v := (x3 + 1)) (lv' := [(3, .int (x3 + 1)), (2, .int x2), (0, .ref (z_ad V 0)), (1, .int x1)]) hX dX6_save_78 3 rfl rfl (by decide) rfl ?_
    refine z_goto (tgt := 15) hX dX6_save_81 (by decide) ?_
    refine z_sub [2, 3, 1, 0] rfl ?_
    exact hK15 x1 x2 (x3 + 1) r4.2
  · refine z_iload_n hX dX6_save_72 rfl 3 rfl ?_
    refine z_goto (tgt := 77) hX dX6_save_73 (by decide) ?_
    refine z_istore_n (lv' := [(2, .int x3), (0, .ref (z_ad V 0)), (1, .int x1), (3, .int x3)]) hX dX6_save_77 rfl (by decide) rfl ?_
    refine z_iinc (v := (x3 + 1)) (lv' := [(3, .int (x3 + 1)), (2, .int x3), (0, .ref (z_ad V 0)), (1, .int x1)]) hX dX6_save_78 3 rfl rfl (by decide) rfl ?_
    refine z_goto (tgt := 15) hX dX6_save_81 (by decide) ?_
    refine z_sub [2, 3, 1, 0] rfl ?_
    exact hK15 x1 x3 (x3 + 1) r4.2
set_option maxHeartbeats 4000000 in
set_option maxRecDepth 100000 in
theorem w_X6_save_15 (M : z_M) (V : z_V) (hs : z_isX V) (hX : z_Cx M V cX6_save 4 (some .int) wsX6_save RX6) : ∀ (n : Nat) (x1 : Int32) (x2 : Int32) (x3 : Int32) (σ : z_St), z_Go M rm_X6_save 4 V (z_QI V) σ 15 [(0, .ref (z_ad V 0)), (1, .int x1), (2, .int x2), (3, .int x3)] [] (f_X6_save_15 n x1 x2 x3 σ) := by
  intro n
  induction n with
  | zero => intro x1 x2 x3 σ; exact z_none
  | succ n ih =>
    intro x1 x2 x3 σ
    rw [f_X6_save_15]
    refine z_iload_n hX dX6_save_15 rfl 3 rfl ?_
    refine z_aload_n hX dX6_save_16 rfl 0 rfl ?_
    refine z_callVI (n := 0) hX (c_X6_allIncidents M.2.1 V hX.2.2.2.2.2 hs σ) gX6_save_X6_allIncidents rfl (by decide +kernel) ⟨by decide, by decide⟩ rfl rfl (z_bnk0 hs) rfl rfl rfl rfl (Nat.le_of_ble_eq_true rfl) dX6_save_17 (fun r2 _ => ?_)
    refine z_icmp_gt (tgt := 84) hX dX6_save_20 (by decide) ?_ ?_
    · refine z_iload_n hX dX6_save_84 rfl 2 rfl ?_
      exact z_iret hX dX6_save_85
    · refine z_aload_n hX dX6_save_23 rfl 0 rfl ?_
      refine z_iload_n hX dX6_save_24 rfl 3 rfl ?_
      refine z_callVI (n := 1) hX (c_X6_keepsThePast M.2.1 V hX.2.2.2.2.2 hs x3 r2.2) gX6_save_X6_keepsThePast rfl (by decide +kernel) ⟨by decide, by decide⟩ rfl rfl (z_bnk0 hs) rfl rfl rfl rfl (Nat.le_of_ble_eq_true rfl) dX6_save_25 (fun r3 _ => ?_)
      refine z_if_eq (tgt := 78) hX dX6_save_28 (by decide) ?_ ?_
      · refine z_iinc (v := (x3 + 1)) (lv' := [(3, .int (x3 + 1)), (0, .ref (z_ad V 0)), (1, .int x1), (2, .int x2)]) hX dX6_save_78 3 rfl rfl (by decide) rfl ?_
        refine z_goto (tgt := 15) hX dX6_save_81 (by decide) ?_
        refine z_sub [1, 2, 3, 0] rfl ?_
        exact ih x1 x2 (x3 + 1) r3.2
      · refine z_iload_n hX dX6_save_31 rfl 2 rfl ?_
        refine z_bipush (v := -4) hX dX6_save_32 (by decide) ?_
        refine z_icmp_eq (tgt := 45) hX dX6_save_34 (by decide) ?_ ?_
        · exact w_X6_save_45 M V hs hX (fun x1 x2 x3 σ => f_X6_save_15 n x1 x2 x3 σ) ih x1 x2 x3 r3.2
        · refine z_iload_n hX dX6_save_37 rfl 3 rfl ?_
          refine z_iload_n hX dX6_save_38 rfl 2 rfl ?_
          refine z_callSI (n := 2) hX (c_X6_isSmaller M.2.1 V hX.2.2.2.2.2 hs x3 x2 r3.2) gX6_save_X6_isSmaller rfl (by decide +kernel) ⟨by decide, by decide⟩ rfl rfl rfl rfl (Nat.le_of_ble_eq_true rfl) dX6_save_39 (fun r5 _ => ?_)
          refine z_if_eq (tgt := 78) hX dX6_save_42 (by decide) ?_ ?_
          · refine z_iinc (v := (x3 + 1)) (lv' := [(3, .int (x3 + 1)), (0, .ref (z_ad V 0)), (1, .int x1), (2, .int x2)]) hX dX6_save_78 3 rfl rfl (by decide) rfl ?_
            refine z_goto (tgt := 15) hX dX6_save_81 (by decide) ?_
            refine z_sub [1, 2, 3, 0] rfl ?_
            exact ih x1 x2 (x3 + 1) r5.2
          · exact w_X6_save_45 M V hs hX (fun x1 x2 x3 σ => f_X6_save_15 n x1 x2 x3 σ) ih x1 x2 x3 r5.2
set_option maxHeartbeats 4000000 in
set_option maxRecDepth 100000 in
theorem c_X6_save (l : Launch) (V : z_V) (hV : z_ok V) (hs : z_isX V) (x1 : Int32) (σ : z_St) : z_CtI l V yX6_save wsX6_save rm_X6_save [.ref (z_ad V 0), .int x1] σ (f_X6_save x1 σ) := by
  refine z_startI (lv := [(0, .ref (z_ad V 0)), (1, .int x1)]) hV (by decide) rfl (Nat.le_of_ble_eq_true rfl) rfl ?_
  intro M hM hX
  have hX : z_Cx M V cX6_save 4 (some .int) wsX6_save RX6 := hX
  unfold f_X6_save
  refine z_aload_n hX dX6_save_0 rfl 0 rfl ?_
  refine z_iload_n hX dX6_save_1 rfl 1 rfl ?_
  refine z_callVI (n := 1) hX (c_X6_isOne M.2.1 V hX.2.2.2.2.2 hs x1 σ) gX6_save_X6_isOne rfl (by decide +kernel) ⟨by decide, by decide⟩ rfl rfl (z_bnk0 hs) rfl rfl rfl rfl (Nat.le_of_ble_eq_true rfl) dX6_save_2 (fun r1 _ => ?_)
  refine z_if_ne (tgt := 10) hX dX6_save_5 (by decide) ?_ ?_
  · refine z_bipush (v := -4) hX dX6_save_10 (by decide) ?_
    refine z_istore_n (lv' := [(2, .int (-4 : Int32)), (0, .ref (z_ad V 0)), (1, .int x1)]) hX dX6_save_12 rfl (by decide) rfl ?_
    refine z_iconst (v := 0) hX dX6_save_13 (by decide) ?_
    refine z_istore_n (lv' := [(3, .int (0 : Int32)), (2, .int (-4 : Int32)), (0, .ref (z_ad V 0)), (1, .int x1)]) hX dX6_save_14 rfl (by decide) rfl ?_
    refine z_sub [2, 3, 1, 0] rfl ?_
    exact w_X6_save_15 M V hs hX 200 x1 (-4 : Int32) (0 : Int32) r1.2
  · refine z_iconst (v := -1) hX dX6_save_8 (by decide) ?_
    exact z_iret hX dX6_save_9

abbrev rm_X6_run : Room := { frames := 3, cells := 0, slots := 0, locals := 67 }
theorem in_X6_run_X1 : ∀ w ∈ wsX10, w ∈ wsX6_run := fun w h => List.mem_cons_of_mem _ (List.mem_append_right _ h)
theorem in_X6_run_X6 : ∀ w ∈ wsX60, w ∈ wsX6_run := fun w h => List.mem_cons_of_mem _ (List.mem_append_left _ (List.mem_append_right _ h))
theorem lk_X6_run_f37 : Cond.fieldLink RX6 37 (TX6 4).1 (TX6 4).2.1 (TX6 4).2.2.1 ∈ wsX6_run := by decide +kernel
theorem lk_X6_run_f26 : Cond.fieldLink RX6 26 (TX6 2).1 (TX6 2).2.1 (TX6 2).2.2.1 ∈ wsX6_run := by decide +kernel
theorem lk_X6_run_f105 : Cond.fieldLink RX6 105 (TX1 8).1 (TX1 8).2.1 (TX1 8).2.2.1 ∈ wsX6_run := by decide +kernel
set_option maxHeartbeats 4000000 in
set_option maxRecDepth 100000 in
theorem c_X6_run (l : Launch) (V : z_V) (hV : z_ok V) (hs : z_isX V) (x1 : Int32) (σ : z_St) : z_CtI l V yX6_run wsX6_run rm_X6_run [.ref (z_ad V 0), .int x1] σ (f_X6_run x1 σ) := by
  refine z_startI (lv := [(0, .ref (z_ad V 0)), (1, .int x1)]) hV (by decide) rfl (Nat.le_of_ble_eq_true rfl) rfl ?_
  intro M hM hX
  have hX : z_Cx M V cX6_run 2 (some .int) wsX6_run RX6 := hX
  unfold f_X6_run
  refine z_iload_n hX dX6_run_0 rfl 1 rfl ?_
  refine z_iconst (v := 2) hX dX6_run_1 (by decide) ?_
  refine z_callSI (n := 2) hX (c_X6_isWithin M.2.1 V hX.2.2.2.2.2 hs x1 (2 : Int32) σ) gX6_run_X6_isWithin rfl (by decide +kernel) ⟨by decide, by decide⟩ rfl rfl rfl rfl (Nat.le_of_ble_eq_true rfl) dX6_run_2 (fun r1 _ => ?_)
  refine z_if_ne (tgt := 10) hX dX6_run_5 (by decide) ?_ ?_
  · refine z_aload_n hX dX6_run_10 rfl 0 rfl ?_
    refine z_getR (k := 4) hX (z_bnk0 hs) rfl rfl in_X6_run_X6 (by decide) lk_X6_run_f37 dX6_run_11 ?_
    refine z_aload_n hX dX6_run_14 rfl 0 rfl ?_
    refine z_getR (k := 2) hX (z_bnk0 hs) rfl rfl in_X6_run_X6 (by decide) lk_X6_run_f26 dX6_run_15 ?_
    refine z_callVV (n := 1) hX (c_X1_copyFrom M.2.1 V hX.2.2.2.2.2 hs 17 z_isled17 11 z_isled11 r1.2) gX6_run_X1_copyFrom rfl (by decide +kernel) ⟨by decide, by decide⟩ rfl rfl (z_led0 hs z_isled17) rfl rfl rfl rfl (Nat.le_of_ble_eq_true rfl) dX6_run_18 (fun r2 _ => ?_)
    refine z_aload_n hX dX6_run_21 rfl 0 rfl ?_
    refine z_getR (k := 4) hX (z_bnk0 hs) rfl rfl in_X6_run_X6 (by decide) lk_X6_run_f37 dX6_run_22 ?_
    refine z_callVV (n := 0) hX (c_X1_runToCounter M.2.1 V hX.2.2.2.2.2 hs 17 z_isled17 r2.2) gX6_run_X1_runToCounter rfl (by decide +kernel) ⟨by decide, by decide⟩ rfl rfl (z_led0 hs z_isled17) rfl rfl rfl rfl (Nat.le_of_ble_eq_true rfl) dX6_run_25 (fun r3 _ => ?_)
    refine z_iload_n hX dX6_run_28 rfl 1 rfl ?_
    refine z_case (fun h4 => ?_) (fun h4 => ?_)
    · refine z_look (off := 27) (tgt := 56) hX dX6_run_29 (by decide) (by first | (rw [h4]; done) | (rw [h4]; rfl)) (by decide) ?_
      refine z_aload_n hX dX6_run_56 rfl 0 rfl ?_
      refine z_getR (k := 4) hX (z_bnk0 hs) rfl rfl in_X6_run_X6 (by decide) lk_X6_run_f37 dX6_run_57 ?_
      refine z_callVI (n := 0) hX (c_X1_sumAtBank M.2.1 V hX.2.2.2.2.2 hs 17 z_isled17 r3.2) gX6_run_X1_sumAtBank rfl (by decide +kernel) ⟨by decide, by decide⟩ rfl rfl (z_led0 hs z_isled17) rfl rfl rfl rfl (Nat.le_of_ble_eq_true rfl) dX6_run_60 (fun r5 _ => ?_)
      exact z_iret hX dX6_run_63
    · skip
      refine z_case (fun h6 => ?_) (fun h6 => ?_)
      · refine z_look (off := 35) (tgt := 64) hX dX6_run_29 (by decide) (by first | (rw [h6]; done) | (rw [h6]; rfl)) (by decide) ?_
        refine z_aload_n hX dX6_run_64 rfl 0 rfl ?_
        refine z_getR (k := 4) hX (z_bnk0 hs) rfl rfl in_X6_run_X6 (by decide) lk_X6_run_f37 dX6_run_65 ?_
        refine z_getI (k := 8) hX (z_led0 hs z_isled17) rfl rfl in_X6_run_X1 (by decide) lk_X6_run_f105 dX6_run_68 ?_
        exact z_iret hX dX6_run_71
      · skip
        refine z_look (off := 43) (tgt := 72) hX dX6_run_29 (by decide) (by show Op.lookupswitch.offset [(0, 27), (1, 35)] 43 _ = _; first | (rw [lv_osw h4 (by decide), lv_osw h6 (by decide)]; done) | (rw [lv_osw h4 (by decide), lv_osw h6 (by decide)]; rfl)) (by decide) ?_
        refine z_aload_n hX dX6_run_72 rfl 0 rfl ?_
        refine z_getR (k := 4) hX (z_bnk0 hs) rfl rfl in_X6_run_X6 (by decide) lk_X6_run_f37 dX6_run_73 ?_
        refine z_callVI (n := 0) hX (c_X1_whoHasNothingThere M.2.1 V hX.2.2.2.2.2 hs 17 z_isled17 r3.2) gX6_run_X1_whoHasNothingThere rfl (by decide +kernel) ⟨by decide, by decide⟩ rfl rfl (z_led0 hs z_isled17) rfl rfl rfl rfl (Nat.le_of_ble_eq_true rfl) dX6_run_76 (fun r7 _ => ?_)
        exact z_iret hX dX6_run_79
  · refine z_iconst (v := -1) hX dX6_run_8 (by decide) ?_
    exact z_iret hX dX6_run_9

abbrev rm_X6_holds : Room := { frames := 3, cells := 0, slots := 0, locals := 67 }
theorem in_X6_holds_X1 : ∀ w ∈ wsX10, w ∈ wsX6_holds := fun w h => List.mem_cons_of_mem _ (List.mem_append_right _ h)
theorem in_X6_holds_X6 : ∀ w ∈ wsX60, w ∈ wsX6_holds := fun w h => List.mem_cons_of_mem _ (List.mem_append_left _ (List.mem_append_right _ h))
theorem lk_X6_holds_f37 : Cond.fieldLink RX6 37 (TX6 4).1 (TX6 4).2.1 (TX6 4).2.2.1 ∈ wsX6_holds := by decide +kernel
theorem lk_X6_holds_f26 : Cond.fieldLink RX6 26 (TX6 2).1 (TX6 2).2.1 (TX6 2).2.2.1 ∈ wsX6_holds := by decide +kernel
theorem lk_X6_holds_f105 : Cond.fieldLink RX6 105 (TX1 8).1 (TX1 8).2.1 (TX1 8).2.2.1 ∈ wsX6_holds := by decide +kernel
set_option maxHeartbeats 4000000 in
set_option maxRecDepth 100000 in
theorem w_X6_holds_2 (M : z_M) (V : z_V) (hs : z_isX V) (hX : z_Cx M V cX6_holds 2 (some .int) wsX6_holds RX6) : ∀ (n : Nat) (x1 : Int32) (σ : z_St), z_Go M rm_X6_holds 2 V (z_QI V) σ 2 [(0, .ref (z_ad V 0)), (1, .int x1)] [] (f_X6_holds_2 n x1 σ) := by
  intro n
  induction n with
  | zero => intro x1 σ; exact z_none
  | succ n ih =>
    intro x1 σ
    rw [f_X6_holds_2]
    refine z_iload_n hX dX6_holds_2 rfl 1 rfl ?_
    refine z_bipush (v := 99) hX dX6_holds_3 (by decide) ?_
    refine z_icmp_gt (tgt := 52) hX dX6_holds_5 (by decide) ?_ ?_
    · refine z_bipush (v := -4) hX dX6_holds_52 (by decide) ?_
      exact z_iret hX dX6_holds_54
    · refine z_aload_n hX dX6_holds_8 rfl 0 rfl ?_
      refine z_getR (k := 4) hX (z_bnk0 hs) rfl rfl in_X6_holds_X6 (by decide) lk_X6_holds_f37 dX6_holds_9 ?_
      refine z_aload_n hX dX6_holds_12 rfl 0 rfl ?_
      refine z_getR (k := 2) hX (z_bnk0 hs) rfl rfl in_X6_holds_X6 (by decide) lk_X6_holds_f26 dX6_holds_13 ?_
      refine z_callVV (n := 1) hX (c_X1_copyFrom M.2.1 V hX.2.2.2.2.2 hs 17 z_isled17 11 z_isled11 σ) gX6_holds_X1_copyFrom rfl (by decide +kernel) ⟨by decide, by decide⟩ rfl rfl (z_led0 hs z_isled17) rfl rfl rfl rfl (Nat.le_of_ble_eq_true rfl) dX6_holds_16 (fun r1 _ => ?_)
      refine z_aload_n hX dX6_holds_19 rfl 0 rfl ?_
      refine z_getR (k := 4) hX (z_bnk0 hs) rfl rfl in_X6_holds_X6 (by decide) lk_X6_holds_f37 dX6_holds_20 ?_
      refine z_iload_n hX dX6_holds_23 rfl 1 rfl ?_
      refine z_put1 (k := 8) hX (z_led0 hs z_isled17) rfl rfl in_X6_holds_X1 (by decide) lk_X6_holds_f105 tyX1 tyX1_ok nmX1 rfl rfl rfl dX6_holds_24 (z_bs fun s2 => ?_)
      refine z_aload_n hX dX6_holds_27 rfl 0 rfl ?_
      refine z_getR (k := 4) hX (z_bnk0 hs) rfl rfl in_X6_holds_X6 (by decide) lk_X6_holds_f37 dX6_holds_28 ?_
      refine z_callVV (n := 0) hX (c_X1_runToCounter M.2.1 V hX.2.2.2.2.2 hs 17 z_isled17 s2) gX6_holds_X1_runToCounter rfl (by decide +kernel) ⟨by decide, by decide⟩ rfl rfl (z_led0 hs z_isled17) rfl rfl rfl rfl (Nat.le_of_ble_eq_true rfl) dX6_holds_31 (fun r3 _ => ?_)
      refine z_aload_n hX dX6_holds_34 rfl 0 rfl ?_
      refine z_getR (k := 4) hX (z_bnk0 hs) rfl rfl in_X6_holds_X6 (by decide) lk_X6_holds_f37 dX6_holds_35 ?_
      refine z_callVI (n := 0) hX (c_X1_sumAtBank M.2.1 V hX.2.2.2.2.2 hs 17 z_isled17 r3.2) gX6_holds_X1_sumAtBank rfl (by decide +kernel) ⟨by decide, by decide⟩ rfl rfl (z_led0 hs z_isled17) rfl rfl rfl rfl (Nat.le_of_ble_eq_true rfl) dX6_holds_38 (fun r4 _ => ?_)
      refine z_if_ne (tgt := 46) hX dX6_holds_41 (by decide) ?_ ?_
      · refine z_iinc (v := (x1 + 1)) (lv' := [(1, .int (x1 + 1)), (0, .ref (z_ad V 0))]) hX dX6_holds_46 1 rfl rfl (by decide) rfl ?_
        refine z_goto (tgt := 2) hX dX6_holds_49 (by decide) ?_
        refine z_sub [1, 0] rfl ?_
        exact ih (x1 + 1) r4.2
      · refine z_iload_n hX dX6_holds_44 rfl 1 rfl ?_
        exact z_iret hX dX6_holds_45
set_option maxHeartbeats 4000000 in
set_option maxRecDepth 100000 in
theorem c_X6_holds (l : Launch) (V : z_V) (hV : z_ok V) (hs : z_isX V) (σ : z_St) : z_CtI l V yX6_holds wsX6_holds rm_X6_holds [.ref (z_ad V 0)] σ (f_X6_holds σ) := by
  refine z_startI (lv := [(0, .ref (z_ad V 0))]) hV (by decide) rfl (Nat.le_of_ble_eq_true rfl) rfl ?_
  intro M hM hX
  have hX : z_Cx M V cX6_holds 2 (some .int) wsX6_holds RX6 := hX
  unfold f_X6_holds
  refine z_iconst (v := 0) hX dX6_holds_0 (by decide) ?_
  refine z_istore_n (lv' := [(1, .int (0 : Int32)), (0, .ref (z_ad V 0))]) hX dX6_holds_1 rfl (by decide) rfl ?_
  refine z_sub [1, 0] rfl ?_
  exact w_X6_holds_2 M V hs hX 200 (0 : Int32) σ

abbrev rm_X6_cover : Room := { frames := 5, cells := 0, slots := 0, locals := 115 }
theorem in_X6_cover_X1 : ∀ w ∈ wsX10, w ∈ wsX6_cover := fun w h => List.mem_cons_of_mem _ (List.mem_append_left _ (List.mem_append_right _ h))
theorem in_X6_cover_X6 : ∀ w ∈ wsX60, w ∈ wsX6_cover := fun w h => List.mem_cons_of_mem _ (List.mem_append_left _ (List.mem_append_left _ (List.mem_append_right _ h)))
theorem lk_X6_cover_f37 : Cond.fieldLink RX6 37 (TX6 4).1 (TX6 4).2.1 (TX6 4).2.2.1 ∈ wsX6_cover := by decide +kernel
theorem lk_X6_cover_f26 : Cond.fieldLink RX6 26 (TX6 2).1 (TX6 2).2.1 (TX6 2).2.2.1 ∈ wsX6_cover := by decide +kernel
theorem lk_X6_cover_f105 : Cond.fieldLink RX6 105 (TX1 8).1 (TX1 8).2.1 (TX1 8).2.2.1 ∈ wsX6_cover := by decide +kernel
set_option maxHeartbeats 4000000 in
set_option maxRecDepth 100000 in
theorem w_X6_cover_13 (M : z_M) (V : z_V) (hs : z_isX V) (hX : z_Cx M V cX6_cover 3 (some .int) wsX6_cover RX6) : ∀ (n : Nat) (x1 : Int32) (x2 : Int32) (σ : z_St), z_Go M rm_X6_cover 3 V (z_QI V) σ 13 [(0, .ref (z_ad V 0)), (1, .int x1), (2, .int x2)] [] (f_X6_cover_13 n x1 x2 σ) := by
  intro n
  induction n with
  | zero => intro x1 x2 σ; exact z_none
  | succ n ih =>
    intro x1 x2 σ
    rw [f_X6_cover_13]
    refine z_iload_n hX dX6_cover_13 rfl 2 rfl ?_
    refine z_bipush (v := 99) hX dX6_cover_14 (by decide) ?_
    refine z_icmp_gt (tgt := 54) hX dX6_cover_16 (by decide) ?_ ?_
    · refine z_bipush (v := -4) hX dX6_cover_54 (by decide) ?_
      exact z_iret hX dX6_cover_56
    · refine z_aload_n hX dX6_cover_19 rfl 0 rfl ?_
      refine z_getR (k := 4) hX (z_bnk0 hs) rfl rfl in_X6_cover_X6 (by decide) lk_X6_cover_f37 dX6_cover_20 ?_
      refine z_aload_n hX dX6_cover_23 rfl 0 rfl ?_
      refine z_getR (k := 2) hX (z_bnk0 hs) rfl rfl in_X6_cover_X6 (by decide) lk_X6_cover_f26 dX6_cover_24 ?_
      refine z_callVV (n := 1) hX (c_X1_copyFrom M.2.1 V hX.2.2.2.2.2 hs 17 z_isled17 11 z_isled11 σ) gX6_cover_X1_copyFrom rfl (by decide +kernel) ⟨by decide, by decide⟩ rfl rfl (z_led0 hs z_isled17) rfl rfl rfl rfl (Nat.le_of_ble_eq_true rfl) dX6_cover_27 (fun r2 _ => ?_)
      refine z_aload_n hX dX6_cover_30 rfl 0 rfl ?_
      refine z_getR (k := 4) hX (z_bnk0 hs) rfl rfl in_X6_cover_X6 (by decide) lk_X6_cover_f37 dX6_cover_31 ?_
      refine z_iload_n hX dX6_cover_34 rfl 2 rfl ?_
      refine z_put1 (k := 8) hX (z_led0 hs z_isled17) rfl rfl in_X6_cover_X1 (by decide) lk_X6_cover_f105 tyX1 tyX1_ok nmX1 rfl rfl rfl dX6_cover_35 (z_bs fun s3 => ?_)
      refine z_aload_n hX dX6_cover_38 rfl 0 rfl ?_
      refine z_iload_n hX dX6_cover_39 rfl 1 rfl ?_
      refine z_callVI (n := 1) hX (c_X6_staysModest M.2.1 V hX.2.2.2.2.2 hs x1 s3) gX6_cover_X6_staysModest rfl (by decide +kernel) ⟨by decide, by decide⟩ rfl rfl (z_bnk0 hs) rfl rfl rfl rfl (Nat.le_of_ble_eq_true rfl) dX6_cover_40 (fun r4 _ => ?_)
      refine z_if_eq (tgt := 48) hX dX6_cover_43 (by decide) ?_ ?_
      · refine z_iinc (v := (x2 + 1)) (lv' := [(2, .int (x2 + 1)), (0, .ref (z_ad V 0)), (1, .int x1)]) hX dX6_cover_48 2 rfl rfl (by decide) rfl ?_
        refine z_goto (tgt := 13) hX dX6_cover_51 (by decide) ?_
        refine z_sub [1, 2, 0] rfl ?_
        exact ih x1 (x2 + 1) r4.2
      · refine z_iload_n hX dX6_cover_46 rfl 2 rfl ?_
        exact z_iret hX dX6_cover_47
set_option maxHeartbeats 4000000 in
set_option maxRecDepth 100000 in
theorem c_X6_cover (l : Launch) (V : z_V) (hV : z_ok V) (hs : z_isX V) (x1 : Int32) (σ : z_St) : z_CtI l V yX6_cover wsX6_cover rm_X6_cover [.ref (z_ad V 0), .int x1] σ (f_X6_cover x1 σ) := by
  refine z_startI (lv := [(0, .ref (z_ad V 0)), (1, .int x1)]) hV (by decide) rfl (Nat.le_of_ble_eq_true rfl) rfl ?_
  intro M hM hX
  have hX : z_Cx M V cX6_cover 3 (some .int) wsX6_cover RX6 := hX
  unfold f_X6_cover
  refine z_iload_n hX dX6_cover_0 rfl 1 rfl ?_
  refine z_bipush (v := 20) hX dX6_cover_1 (by decide) ?_
  refine z_callSI (n := 2) hX (c_X6_isWithin M.2.1 V hX.2.2.2.2.2 hs x1 (20 : Int32) σ) gX6_cover_X6_isWithin rfl (by decide +kernel) ⟨by decide, by decide⟩ rfl rfl rfl rfl (Nat.le_of_ble_eq_true rfl) dX6_cover_3 (fun r1 _ => ?_)
  refine z_if_ne (tgt := 11) hX dX6_cover_6 (by decide) ?_ ?_
  · refine z_iconst (v := 0) hX dX6_cover_11 (by decide) ?_
    refine z_istore_n (lv' := [(2, .int (0 : Int32)), (0, .ref (z_ad V 0)), (1, .int x1)]) hX dX6_cover_12 rfl (by decide) rfl ?_
    refine z_sub [1, 2, 0] rfl ?_
    exact w_X6_cover_13 M V hs hX 200 x1 (0 : Int32) r1.2
  · refine z_iconst (v := -1) hX dX6_cover_9 (by decide) ?_
    exact z_iret hX dX6_cover_10

abbrev rm_X6_rate : Room := { frames := 5, cells := 0, slots := 0, locals := 115 }
theorem in_X6_rate_X1 : ∀ w ∈ wsX10, w ∈ wsX6_rate := fun w h => List.mem_cons_of_mem _ (List.mem_append_left _ (List.mem_append_right _ h))
theorem in_X6_rate_X6 : ∀ w ∈ wsX60, w ∈ wsX6_rate := fun w h => List.mem_cons_of_mem _ (List.mem_append_left _ (List.mem_append_left _ (List.mem_append_right _ h)))
theorem lk_X6_rate_f37 : Cond.fieldLink RX6 37 (TX6 4).1 (TX6 4).2.1 (TX6 4).2.2.1 ∈ wsX6_rate := by decide +kernel
theorem lk_X6_rate_f26 : Cond.fieldLink RX6 26 (TX6 2).1 (TX6 2).2.1 (TX6 2).2.2.1 ∈ wsX6_rate := by decide +kernel
theorem lk_X6_rate_f102 : Cond.fieldLink RX6 102 (TX1 7).1 (TX1 7).2.1 (TX1 7).2.2.1 ∈ wsX6_rate := by decide +kernel
set_option maxHeartbeats 4000000 in
set_option maxRecDepth 100000 in
theorem w_X6_rate_13 (M : z_M) (V : z_V) (hs : z_isX V) (hX : z_Cx M V cX6_rate 3 (some .int) wsX6_rate RX6) : ∀ (n : Nat) (x1 : Int32) (x2 : Int32) (σ : z_St), z_Go M rm_X6_rate 3 V (z_QI V) σ 13 [(0, .ref (z_ad V 0)), (1, .int x1), (2, .int x2)] [] (f_X6_rate_13 n x1 x2 σ) := by
  intro n
  induction n with
  | zero => intro x1 x2 σ; exact z_none
  | succ n ih =>
    intro x1 x2 σ
    rw [f_X6_rate_13]
    refine z_iload_n hX dX6_rate_13 rfl 2 rfl ?_
    refine z_bipush (v := 9) hX dX6_rate_14 (by decide) ?_
    refine z_icmp_gt (tgt := 54) hX dX6_rate_16 (by decide) ?_ ?_
    · refine z_bipush (v := -4) hX dX6_rate_54 (by decide) ?_
      exact z_iret hX dX6_rate_56
    · refine z_aload_n hX dX6_rate_19 rfl 0 rfl ?_
      refine z_getR (k := 4) hX (z_bnk0 hs) rfl rfl in_X6_rate_X6 (by decide) lk_X6_rate_f37 dX6_rate_20 ?_
      refine z_aload_n hX dX6_rate_23 rfl 0 rfl ?_
      refine z_getR (k := 2) hX (z_bnk0 hs) rfl rfl in_X6_rate_X6 (by decide) lk_X6_rate_f26 dX6_rate_24 ?_
      refine z_callVV (n := 1) hX (c_X1_copyFrom M.2.1 V hX.2.2.2.2.2 hs 17 z_isled17 11 z_isled11 σ) gX6_rate_X1_copyFrom rfl (by decide +kernel) ⟨by decide, by decide⟩ rfl rfl (z_led0 hs z_isled17) rfl rfl rfl rfl (Nat.le_of_ble_eq_true rfl) dX6_rate_27 (fun r2 _ => ?_)
      refine z_aload_n hX dX6_rate_30 rfl 0 rfl ?_
      refine z_getR (k := 4) hX (z_bnk0 hs) rfl rfl in_X6_rate_X6 (by decide) lk_X6_rate_f37 dX6_rate_31 ?_
      refine z_iload_n hX dX6_rate_34 rfl 2 rfl ?_
      refine z_put1 (k := 7) hX (z_led0 hs z_isled17) rfl rfl in_X6_rate_X1 (by decide) lk_X6_rate_f102 tyX1 tyX1_ok nmX1 rfl rfl rfl dX6_rate_35 (z_bs fun s3 => ?_)
      refine z_aload_n hX dX6_rate_38 rfl 0 rfl ?_
      refine z_iload_n hX dX6_rate_39 rfl 1 rfl ?_
      refine z_callVI (n := 1) hX (c_X6_staysModest M.2.1 V hX.2.2.2.2.2 hs x1 s3) gX6_rate_X6_staysModest rfl (by decide +kernel) ⟨by decide, by decide⟩ rfl rfl (z_bnk0 hs) rfl rfl rfl rfl (Nat.le_of_ble_eq_true rfl) dX6_rate_40 (fun r4 _ => ?_)
      refine z_if_eq (tgt := 48) hX dX6_rate_43 (by decide) ?_ ?_
      · refine z_iinc (v := (x2 + 1)) (lv' := [(2, .int (x2 + 1)), (0, .ref (z_ad V 0)), (1, .int x1)]) hX dX6_rate_48 2 rfl rfl (by decide) rfl ?_
        refine z_goto (tgt := 13) hX dX6_rate_51 (by decide) ?_
        refine z_sub [1, 2, 0] rfl ?_
        exact ih x1 (x2 + 1) r4.2
      · refine z_iload_n hX dX6_rate_46 rfl 2 rfl ?_
        exact z_iret hX dX6_rate_47
set_option maxHeartbeats 4000000 in
set_option maxRecDepth 100000 in
theorem c_X6_rate (l : Launch) (V : z_V) (hV : z_ok V) (hs : z_isX V) (x1 : Int32) (σ : z_St) : z_CtI l V yX6_rate wsX6_rate rm_X6_rate [.ref (z_ad V 0), .int x1] σ (f_X6_rate x1 σ) := by
  refine z_startI (lv := [(0, .ref (z_ad V 0)), (1, .int x1)]) hV (by decide) rfl (Nat.le_of_ble_eq_true rfl) rfl ?_
  intro M hM hX
  have hX : z_Cx M V cX6_rate 3 (some .int) wsX6_rate RX6 := hX
  unfold f_X6_rate
  refine z_iload_n hX dX6_rate_0 rfl 1 rfl ?_
  refine z_bipush (v := 20) hX dX6_rate_1 (by decide) ?_
  refine z_callSI (n := 2) hX (c_X6_isWithin M.2.1 V hX.2.2.2.2.2 hs x1 (20 : Int32) σ) gX6_rate_X6_isWithin rfl (by decide +kernel) ⟨by decide, by decide⟩ rfl rfl rfl rfl (Nat.le_of_ble_eq_true rfl) dX6_rate_3 (fun r1 _ => ?_)
  refine z_if_ne (tgt := 11) hX dX6_rate_6 (by decide) ?_ ?_
  · refine z_iconst (v := 0) hX dX6_rate_11 (by decide) ?_
    refine z_istore_n (lv' := [(2, .int (0 : Int32)), (0, .ref (z_ad V 0)), (1, .int x1)]) hX dX6_rate_12 rfl (by decide) rfl ?_
    refine z_sub [1, 2, 0] rfl ?_
    exact w_X6_rate_13 M V hs hX 200 x1 (0 : Int32) r1.2
  · refine z_iconst (v := -1) hX dX6_rate_9 (by decide) ?_
    exact z_iret hX dX6_rate_10

abbrev rm_X6_gift : Room := { frames := 6, cells := 0, slots := 0, locals := 136 }
theorem in_X6_gift_X1 : ∀ w ∈ wsX10, w ∈ wsX6_gift := fun w h => List.mem_cons_of_mem _ (List.mem_append_left _ (List.mem_append_right _ h))
theorem in_X6_gift_X6 : ∀ w ∈ wsX60, w ∈ wsX6_gift := fun w h => List.mem_cons_of_mem _ (List.mem_append_left _ (List.mem_append_left _ (List.mem_append_right _ h)))
theorem lk_X6_gift_f26 : Cond.fieldLink RX6 26 (TX6 2).1 (TX6 2).2.1 (TX6 2).2.2.1 ∈ wsX6_gift := by decide +kernel
theorem lk_X6_gift_f111 : Cond.fieldLink RX6 111 (TX1 6).1 (TX1 6).2.1 (TX1 6).2.2.1 ∈ wsX6_gift := by decide +kernel
theorem lk_X6_gift_f93 : Cond.fieldLink RX6 93 (TX1 0).1 (TX1 0).2.1 (TX1 0).2.2.1 ∈ wsX6_gift := by decide +kernel
theorem lk_X6_gift_f37 : Cond.fieldLink RX6 37 (TX6 4).1 (TX6 4).2.1 (TX6 4).2.2.1 ∈ wsX6_gift := by decide +kernel
theorem lk_X6_gift_f19 : Cond.fieldLink RX6 19 (TX6 1).1 (TX6 1).2.1 (TX6 1).2.2.1 ∈ wsX6_gift := by decide +kernel
set_option maxHeartbeats 4000000 in
set_option maxRecDepth 100000 in
theorem w_X6_gift_38 (M : z_M) (V : z_V) (hs : z_isX V) (hX : z_Cx M V cX6_gift 7 (some .int) wsX6_gift RX6) : ∀ (n : Nat) (x1 : Int32) (x2 : Int32) (x3 : Int32) (x4 : Int32) (x5 : Int32) (σ : z_St), z_Go M rm_X6_gift 7 V (z_QI V) σ 38 [(0, .ref (z_ad V 0)), (1, .int x1), (2, .int x2), (3, .int x3), (4, .int x4), (5, .int x5)] [] (f_X6_gift_38 n x1 x2 x3 x4 x5 σ) := by
  intro n
  induction n with
  | zero => intro x1 x2 x3 x4 x5 σ; exact z_none
  | succ n ih =>
    intro x1 x2 x3 x4 x5 σ
    rw [f_X6_gift_38]
    refine z_iload hX dX6_gift_38 5 rfl ?_
    refine z_aload_n hX dX6_gift_40 rfl 0 rfl ?_
    refine z_getR (k := 2) hX (z_bnk0 hs) rfl rfl in_X6_gift_X6 (by decide) lk_X6_gift_f26 dX6_gift_41 ?_
    refine z_getI (k := 0) hX (z_led0 hs z_isled11) rfl rfl in_X6_gift_X1 (by decide) lk_X6_gift_f93 dX6_gift_44 ?_
    refine z_icmp_ge (tgt := 103) hX dX6_gift_47 (by decide) ?_ ?_
    · refine z_iload hX dX6_gift_103 4 rfl ?_
      refine z_bipush (v := -4) hX dX6_gift_105 (by decide) ?_
      refine z_icmp_eq (tgt := 114) hX dX6_gift_107 (by decide) ?_ ?_
      · refine z_iload hX dX6_gift_114 4 rfl ?_
        refine z_goto (tgt := 120) hX dX6_gift_116 (by decide) ?_
        exact z_iret hX dX6_gift_120
      · refine z_iload_n hX dX6_gift_110 rfl 2 rfl ?_
        refine z_if_ne (tgt := 119) hX dX6_gift_111 (by decide) ?_ ?_
        · refine z_iload_n hX dX6_gift_119 rfl 3 rfl ?_
          exact z_iret hX dX6_gift_120
        · refine z_iload hX dX6_gift_114 4 rfl ?_
          refine z_goto (tgt := 120) hX dX6_gift_116 (by decide) ?_
          exact z_iret hX dX6_gift_120
    · refine z_aload_n hX dX6_gift_50 rfl 0 rfl ?_
      refine z_getR (k := 4) hX (z_bnk0 hs) rfl rfl in_X6_gift_X6 (by decide) lk_X6_gift_f37 dX6_gift_51 ?_
      refine z_aload_n hX dX6_gift_54 rfl 0 rfl ?_
      refine z_getR (k := 2) hX (z_bnk0 hs) rfl rfl in_X6_gift_X6 (by decide) lk_X6_gift_f26 dX6_gift_55 ?_
      refine z_callVV (n := 1) hX (c_X1_copyFrom M.2.1 V hX.2.2.2.2.2 hs 17 z_isled17 11 z_isled11 σ) gX6_gift_X1_copyFrom rfl (by decide +kernel) ⟨by decide, by decide⟩ rfl rfl (z_led0 hs z_isled17) rfl rfl rfl rfl (Nat.le_of_ble_eq_true rfl) dX6_gift_58 (fun r4 _ => ?_)
      refine z_aload_n hX dX6_gift_61 rfl 0 rfl ?_
      refine z_getR (k := 4) hX (z_bnk0 hs) rfl rfl in_X6_gift_X6 (by decide) lk_X6_gift_f37 dX6_gift_62 ?_
      refine z_iload hX dX6_gift_65 5 rfl ?_
      refine z_iload_n hX dX6_gift_67 rfl 1 rfl ?_
      refine z_callVV (n := 2) hX (c_X1_putInHand M.2.1 V hX.2.2.2.2.2 hs 17 z_isled17 x5 x1 r4.2) gX6_gift_X1_putInHand rfl (by decide +kernel) ⟨by decide, by decide⟩ rfl rfl (z_led0 hs z_isled17) rfl rfl rfl rfl (Nat.le_of_ble_eq_true rfl) dX6_gift_68 (fun r5 _ => ?_)
      refine z_aload_n hX dX6_gift_71 rfl 0 rfl ?_
      refine z_getR (k := 4) hX (z_bnk0 hs) rfl rfl in_X6_gift_X6 (by decide) lk_X6_gift_f37 dX6_gift_72 ?_
      refine z_aload_n hX dX6_gift_75 rfl 0 rfl ?_
      refine z_getR (k := 1) hX (z_bnk0 hs) rfl rfl in_X6_gift_X6 (by decide) lk_X6_gift_f19 dX6_gift_76 ?_
      refine z_callVI (n := 1) hX (c_X1_passToLastWeek M.2.1 V hX.2.2.2.2.2 hs 17 z_isled17 4 z_issto4 r5.2) gX6_gift_X1_passToLastWeek rfl (by decide +kernel) ⟨by decide, by decide⟩ rfl rfl (z_led0 hs z_isled17) rfl rfl rfl rfl (Nat.le_of_ble_eq_true rfl) dX6_gift_79 (fun r6 _ => ?_)
      refine z_istore (lv' := [(6, .int r6.1), (0, .ref (z_ad V 0)), (1, .int x1), (2, .int x2), (3, .int x3), (4, .int x4), (5, .int x5)]) hX dX6_gift_82 (by decide) rfl ?_
      refine z_iload hX dX6_gift_84 0 rfl ?_
      refine z_iload_n hX dX6_gift_86 rfl 4 rfl ?_
      refine z_icmp_ge (tgt := 97) hX dX6_gift_87 (by decide) ?_ ?_
      · refine z_iinc (v := (x5 + 1)) (lv' := [(5, .int (x5 + 1)), (6, .int r6.1), (0, .ref (z_ad V 0)), (1, .int x1), (2, .int x2), (3, .int x3), (4, .int x4)]) hX dX6_gift_97 6 rfl rfl (by decide) rfl ?_
        refine z_goto (tgt := 38) hX dX6_gift_100 (by decide) ?_
        refine z_sub [2, 3, 4, 5, 6, 0] rfl ?_
        exact ih x1 x2 x3 x4 (x5 + 1) r6.2
      · refine z_iload hX dX6_gift_90 0 rfl ?_
        refine z_istore_n (lv' := [(3, .int r6.1), (6, .int r6.1), (0, .ref (z_ad V 0)), (1, .int x1), (2, .int x2), (4, .int x4), (5, .int x5)]) hX dX6_gift_92 rfl (by decide) rfl ?_
        refine z_iload hX dX6_gift_93 6 rfl ?_
        refine z_istore (lv' := [(4, .int x5), (3, .int r6.1), (6, .int r6.1), (0, .ref (z_ad V 0)), (1, .int x1), (2, .int x2), (5, .int x5)]) hX dX6_gift_95 (by decide) rfl ?_
        refine z_iinc (v := (x5 + 1)) (lv' := [(5, .int (x5 + 1)), (4, .int x5), (3, .int r6.1), (6, .int r6.1), (0, .ref (z_ad V 0)), (1, .int x1), (2, .int x2)]) hX dX6_gift_97 6 rfl rfl (by decide) rfl ?_
        refine z_goto (tgt := 38) hX dX6_gift_100 (by decide) ?_
        refine z_sub [4, 5, 6, 2, 1, 0] rfl ?_
        exact ih x1 x2 r6.1 x5 (x5 + 1) r6.2
set_option maxHeartbeats 4000000 in
set_option maxRecDepth 100000 in
theorem c_X6_gift (l : Launch) (V : z_V) (hV : z_ok V) (hs : z_isX V) (x1 : Int32) (x2 : Int32) (σ : z_St) : z_CtI l V yX6_gift wsX6_gift rm_X6_gift [.ref (z_ad V 0), .int x1, .int x2] σ (f_X6_gift x1 x2 σ) := by
  refine z_startI (lv := [(0, .ref (z_ad V 0)), (1, .int x1), (2, .int x2)]) hV (by decide) rfl (Nat.le_of_ble_eq_true rfl) rfl ?_
  intro M hM hX
  have hX : z_Cx M V cX6_gift 7 (some .int) wsX6_gift RX6 := hX
  unfold f_X6_gift
  refine z_iload_n hX dX6_gift_0 rfl 1 rfl ?_
  refine z_bipush (v := 99) hX dX6_gift_1 (by decide) ?_
  refine z_callSI (n := 2) hX (c_X6_isWithin M.2.1 V hX.2.2.2.2.2 hs x1 (99 : Int32) σ) gX6_gift_X6_isWithin rfl (by decide +kernel) ⟨by decide, by decide⟩ rfl rfl rfl rfl (Nat.le_of_ble_eq_true rfl) dX6_gift_3 (fun r1 _ => ?_)
  refine z_if_eq (tgt := 17) hX dX6_gift_6 (by decide) ?_ ?_
  · refine z_iconst (v := -1) hX dX6_gift_17 (by decide) ?_
    exact z_iret hX dX6_gift_18
  · refine z_iload_n hX dX6_gift_9 rfl 2 rfl ?_
    refine z_iconst (v := 1) hX dX6_gift_10 (by decide) ?_
    refine z_callSI (n := 2) hX (c_X6_isWithin M.2.1 V hX.2.2.2.2.2 hs x2 (1 : Int32) r1.2) gX6_gift_X6_isWithin rfl (by decide +kernel) ⟨by decide, by decide⟩ rfl rfl rfl rfl (Nat.le_of_ble_eq_true rfl) dX6_gift_11 (fun r2 _ => ?_)
    refine z_if_ne (tgt := 19) hX dX6_gift_14 (by decide) ?_ ?_
    · refine z_aload_n hX dX6_gift_19 rfl 0 rfl ?_
      refine z_aload_n hX dX6_gift_20 rfl 0 rfl ?_
      refine z_getR (k := 2) hX (z_bnk0 hs) rfl rfl in_X6_gift_X6 (by decide) lk_X6_gift_f26 dX6_gift_21 ?_
      refine z_getI (k := 6) hX (z_led0 hs z_isled11) rfl rfl in_X6_gift_X1 (by decide) lk_X6_gift_f111 dX6_gift_24 ?_
      refine z_callVI (n := 1) hX (c_X6_timesByPlan M.2.1 V hX.2.2.2.2.2 hs (r2.2 11 6) r2.2) gX6_gift_X6_timesByPlan rfl (by decide +kernel) ⟨by decide, by decide⟩ rfl rfl (z_bnk0 hs) rfl rfl rfl rfl (Nat.le_of_ble_eq_true rfl) dX6_gift_27 (fun r3 _ => ?_)
      refine z_istore_n (lv' := [(3, .int r3.1), (0, .ref (z_ad V 0)), (1, .int x1), (2, .int x2)]) hX dX6_gift_30 rfl (by decide) rfl ?_
      refine z_bipush (v := -4) hX dX6_gift_31 (by decide) ?_
      refine z_istore (lv' := [(4, .int (-4 : Int32)), (3, .int r3.1), (0, .ref (z_ad V 0)), (1, .int x1), (2, .int x2)]) hX dX6_gift_33 (by decide) rfl ?_
      refine z_iconst (v := 0) hX dX6_gift_35 (by decide) ?_
      refine z_istore (lv' := [(5, .int (0 : Int32)), (4, .int (-4 : Int32)), (3, .int r3.1), (0, .ref (z_ad V 0)), (1, .int x1), (2, .int x2)]) hX dX6_gift_36 (by decide) rfl ?_
      refine z_sub [3, 4, 5, 2, 1, 0] rfl ?_
      exact w_X6_gift_38 M V hs hX 200 x1 x2 r3.1 (-4 : Int32) (0 : Int32) r3.2
    · refine z_iconst (v := -1) hX dX6_gift_17 (by decide) ?_
      exact z_iret hX dX6_gift_18

abbrev rm_X6_told : Room := { frames := 6, cells := 0, slots := 0, locals := 136 }
theorem in_X6_told_X1 : ∀ w ∈ wsX10, w ∈ wsX6_told := fun w h => List.mem_cons_of_mem _ (List.mem_append_left _ (List.mem_append_right _ h))
theorem in_X6_told_X6 : ∀ w ∈ wsX60, w ∈ wsX6_told := fun w h => List.mem_cons_of_mem _ (List.mem_append_left _ (List.mem_append_left _ (List.mem_append_right _ h)))
theorem lk_X6_told_f37 : Cond.fieldLink RX6 37 (TX6 4).1 (TX6 4).2.1 (TX6 4).2.2.1 ∈ wsX6_told := by decide +kernel
theorem lk_X6_told_f26 : Cond.fieldLink RX6 26 (TX6 2).1 (TX6 2).2.1 (TX6 2).2.2.1 ∈ wsX6_told := by decide +kernel
theorem lk_X6_told_f19 : Cond.fieldLink RX6 19 (TX6 1).1 (TX6 1).2.1 (TX6 1).2.2.1 ∈ wsX6_told := by decide +kernel
theorem lk_X6_told_f127 : Cond.fieldLink RX6 127 (TX1 4).1 (TX1 4).2.1 (TX1 4).2.2.1 ∈ wsX6_told := by decide +kernel
theorem lk_X6_told_f40 : Cond.fieldLink RX6 40 (TX6 5).1 (TX6 5).2.1 (TX6 5).2.2.1 ∈ wsX6_told := by decide +kernel
theorem lk_X6_told_m209 : Cond.methodLink RX6 209 arraycopyName ∈ wsX6_told := by decide +kernel
theorem lk_X6_told_yN : Cond.native arraycopyName ∈ wsX6_told := by decide +kernel
theorem lk_X6_told_yS : Cond.static arraycopyName ∈ wsX6_told := by decide +kernel
theorem lk_X6_told_yI : Cond.initialized "java/lang/System" ∈ wsX6_told := by decide +kernel
theorem lk_X6_told_f93 : Cond.fieldLink RX6 93 (TX1 0).1 (TX1 0).2.1 (TX1 0).2.2.1 ∈ wsX6_told := by decide +kernel
set_option maxHeartbeats 4000000 in
set_option maxRecDepth 100000 in
theorem w_X6_told_118 (M : z_M) (V : z_V) (hs : z_isX V) (hX : z_Cx M V cX6_told 6 (some .int) wsX6_told RX6) (K69 : Int32 → Int32 → Int32 → z_St → Option (Int32 × z_St)) (hK69 : ∀ (x2 : Int32) (x3 : Int32) (x4 : Int32) (σ : z_St), z_Go M rm_X6_told 6 V (z_QI V) σ 69 [(0, .ref (z_ad V 0)), (2, .int x2), (3, .int x3), (4, .int x4)] [] (K69 x2 x3 x4 σ)) (x2 : Int32) (x3 : Int32) (x4 : Int32) (σ : z_St) : z_Go M rm_X6_told 6 V (z_QI V) σ 118 [(0, .ref (z_ad V 0)), (2, .int x2), (3, .int x3), (4, .int x4)] [] (f_X6_told_118 K69 x2 x3 x4 σ) := by
  unfold f_X6_told_118
  refine z_iload_n hX dX6_told_118 rfl 2 rfl ?_
  refine z_iconst (v := 1) hX dX6_told_119 (by decide) ?_
  refine z_iload hX dX6_told_120 3 rfl ?_
  refine z_ishl hX dX6_told_122 ?_
  refine z_ior hX dX6_told_123 ?_
  refine z_top (fun v8 => ?_)
  refine z_istore_n (lv' := [(3, .int v8), (0, .ref (z_ad V 0)), (2, .int x2), (4, .int x4)]) hX dX6_told_124 rfl (by decide) rfl ?_
  refine z_iinc (v := (x4 + 1)) (lv' := [(4, .int (x4 + 1)), (3, .int v8), (0, .ref (z_ad V 0)), (2, .int x2)]) hX dX6_told_125 3 rfl rfl (by decide) rfl ?_
  refine z_goto (tgt := 69) hX dX6_told_128 (by decide) ?_
  refine z_sub [2, 3, 1, 0] rfl ?_
  exact hK69 x2 v8 (x4 + 1) σ
set_option maxHeartbeats 4000000 in
set_option maxRecDepth 100000 in
theorem w_X6_told_69 (M : z_M) (V : z_V) (hs : z_isX V) (hX : z_Cx M V cX6_told 6 (some .int) wsX6_told RX6) : ∀ (n : Nat) (x2 : Int32) (x3 : Int32) (x4 : Int32) (σ : z_St), z_Go M rm_X6_told 6 V (z_QI V) σ 69 [(0, .ref (z_ad V 0)), (2, .int x2), (3, .int x3), (4, .int x4)] [] (f_X6_told_69 n x2 x3 x4 σ) := by
  intro n
  induction n with
  | zero => intro x2 x3 x4 σ; exact z_none
  | succ n ih =>
    intro x2 x3 x4 σ
    rw [f_X6_told_69]
    refine z_iload hX dX6_told_69 3 rfl ?_
    refine z_aload_n hX dX6_told_71 rfl 0 rfl ?_
    refine z_getR (k := 2) hX (z_bnk0 hs) rfl rfl in_X6_told_X6 (by decide) lk_X6_told_f26 dX6_told_72 ?_
    refine z_getI (k := 0) hX (z_led0 hs z_isled11) rfl rfl in_X6_told_X1 (by decide) lk_X6_told_f93 dX6_told_75 ?_
    refine z_icmp_ge (tgt := 131) hX dX6_told_78 (by decide) ?_ ?_
    · refine z_iload_n hX dX6_told_131 rfl 2 rfl ?_
      exact z_iret hX dX6_told_132
    · refine z_aload_n hX dX6_told_81 rfl 0 rfl ?_
      refine z_getR (k := 4) hX (z_bnk0 hs) rfl rfl in_X6_told_X6 (by decide) lk_X6_told_f37 dX6_told_82 ?_
      refine z_getR (k := 4) hX (z_led0 hs z_isled17) rfl rfl in_X6_told_X1 (by decide) lk_X6_told_f127 dX6_told_85 ?_
      refine z_iload hX dX6_told_88 3 rfl ?_
      refine z_iald hX (z_led4 hs z_isled17) dX6_told_90 ?_
      refine z_aload_n hX dX6_told_91 rfl 0 rfl ?_
      refine z_getR (k := 5) hX (z_bnk0 hs) rfl rfl in_X6_told_X6 (by decide) lk_X6_told_f40 dX6_told_92 ?_
      refine z_iload hX dX6_told_95 3 rfl ?_
      refine z_iald hX (z_bnk1 hs) dX6_told_97 ?_
      refine z_isub hX dX6_told_98 ?_
      refine z_top (fun v7 => ?_)
      refine z_istore (lv' := [(5, .int v7), (0, .ref (z_ad V 0)), (2, .int x2), (3, .int x3), (4, .int x4)]) hX dX6_told_99 (by decide) rfl ?_
      refine z_iload_n hX dX6_told_101 rfl 2 rfl ?_
      refine z_if_ne (tgt := 113) hX dX6_told_102 (by decide) ?_ ?_
      · refine z_iload hX dX6_told_113 0 rfl ?_
        refine z_if_ge (tgt := 125) hX dX6_told_115 (by decide) ?_ ?_
        · refine z_iinc (v := (x4 + 1)) (lv' := [(4, .int (x4 + 1)), (5, .int v7), (0, .ref (z_ad V 0)), (2, .int x2), (3, .int x3)]) hX dX6_told_125 4 rfl rfl (by decide) rfl ?_
          refine z_goto (tgt := 69) hX dX6_told_128 (by decide) ?_
          refine z_sub [2, 3, 4, 0] rfl ?_
          exact ih x2 x3 (x4 + 1) σ
        · refine z_sub [1, 2, 3, 4] rfl ?_
          exact w_X6_told_118 M V hs hX (fun x2 x3 x4 σ => f_X6_told_69 n x2 x3 x4 σ) ih x2 x3 x4 σ
      · refine z_iload hX dX6_told_105 0 rfl ?_
        refine z_if_le (tgt := 125) hX dX6_told_107 (by decide) ?_ ?_
        · refine z_iinc (v := (x4 + 1)) (lv' := [(4, .int (x4 + 1)), (5, .int v7), (0, .ref (z_ad V 0)), (2, .int x2), (3, .int x3)]) hX dX6_told_125 4 rfl rfl (by decide) rfl ?_
          refine z_goto (tgt := 69) hX dX6_told_128 (by decide) ?_
          refine z_sub [2, 3, 4, 0] rfl ?_
          exact ih x2 x3 (x4 + 1) σ
        · refine z_goto (tgt := 118) hX dX6_told_110 (by decide) ?_
          refine z_sub [1, 2, 3, 4] rfl ?_
          exact w_X6_told_118 M V hs hX (fun x2 x3 x4 σ => f_X6_told_69 n x2 x3 x4 σ) ih x2 x3 x4 σ
set_option maxHeartbeats 4000000 in
set_option maxRecDepth 100000 in
theorem c_X6_told (l : Launch) (V : z_V) (hV : z_ok V) (hs : z_isX V) (x1 : Int32) (x2 : Int32) (σ : z_St) : z_CtI l V yX6_told wsX6_told rm_X6_told [.ref (z_ad V 0), .int x1, .int x2] σ (f_X6_told x1 x2 σ) := by
  refine z_startI (lv := [(0, .ref (z_ad V 0)), (1, .int x1), (2, .int x2)]) hV (by decide) rfl (Nat.le_of_ble_eq_true rfl) rfl ?_
  intro M hM hX
  have hX : z_Cx M V cX6_told 6 (some .int) wsX6_told RX6 := hX
  unfold f_X6_told
  refine z_aload_n hX dX6_told_0 rfl 0 rfl ?_
  refine z_iload_n hX dX6_told_1 rfl 1 rfl ?_
  refine z_callVI (n := 1) hX (c_X6_isOne M.2.1 V hX.2.2.2.2.2 hs x1 σ) gX6_told_X6_isOne rfl (by decide +kernel) ⟨by decide, by decide⟩ rfl rfl (z_bnk0 hs) rfl rfl rfl rfl (Nat.le_of_ble_eq_true rfl) dX6_told_2 (fun r1 _ => ?_)
  refine z_if_eq (tgt := 16) hX dX6_told_5 (by decide) ?_ ?_
  · refine z_iconst (v := -1) hX dX6_told_16 (by decide) ?_
    exact z_iret hX dX6_told_17
  · refine z_iload_n hX dX6_told_8 rfl 2 rfl ?_
    refine z_iconst (v := 1) hX dX6_told_9 (by decide) ?_
    refine z_callSI (n := 2) hX (c_X6_isWithin M.2.1 V hX.2.2.2.2.2 hs x2 (1 : Int32) r1.2) gX6_told_X6_isWithin rfl (by decide +kernel) ⟨by decide, by decide⟩ rfl rfl rfl rfl (Nat.le_of_ble_eq_true rfl) dX6_told_10 (fun r2 _ => ?_)
    refine z_if_ne (tgt := 18) hX dX6_told_13 (by decide) ?_ ?_
    · refine z_aload_n hX dX6_told_18 rfl 0 rfl ?_
      refine z_getR (k := 4) hX (z_bnk0 hs) rfl rfl in_X6_told_X6 (by decide) lk_X6_told_f37 dX6_told_19 ?_
      refine z_aload_n hX dX6_told_22 rfl 0 rfl ?_
      refine z_getR (k := 2) hX (z_bnk0 hs) rfl rfl in_X6_told_X6 (by decide) lk_X6_told_f26 dX6_told_23 ?_
      refine z_callVV (n := 1) hX (c_X1_copyFrom M.2.1 V hX.2.2.2.2.2 hs 17 z_isled17 11 z_isled11 r2.2) gX6_told_X1_copyFrom rfl (by decide +kernel) ⟨by decide, by decide⟩ rfl rfl (z_led0 hs z_isled17) rfl rfl rfl rfl (Nat.le_of_ble_eq_true rfl) dX6_told_26 (fun r3 _ => ?_)
      refine z_aload_n hX dX6_told_29 rfl 0 rfl ?_
      refine z_getR (k := 4) hX (z_bnk0 hs) rfl rfl in_X6_told_X6 (by decide) lk_X6_told_f37 dX6_told_30 ?_
      refine z_aload_n hX dX6_told_33 rfl 0 rfl ?_
      refine z_getR (k := 1) hX (z_bnk0 hs) rfl rfl in_X6_told_X6 (by decide) lk_X6_told_f19 dX6_told_34 ?_
      refine z_callVI (n := 1) hX (c_X1_passToLastWeek M.2.1 V hX.2.2.2.2.2 hs 17 z_isled17 4 z_issto4 r3.2) gX6_told_X1_passToLastWeek rfl (by decide +kernel) ⟨by decide, by decide⟩ rfl rfl (z_led0 hs z_isled17) rfl rfl rfl rfl (Nat.le_of_ble_eq_true rfl) dX6_told_37 (fun r4 _ => ?_)
      refine z_pop hX dX6_told_40 rfl ?_
      refine z_aload_n hX dX6_told_41 rfl 0 rfl ?_
      refine z_getR (k := 4) hX (z_bnk0 hs) rfl rfl in_X6_told_X6 (by decide) lk_X6_told_f37 dX6_told_42 ?_
      refine z_getR (k := 4) hX (z_led0 hs z_isled17) rfl rfl in_X6_told_X1 (by decide) lk_X6_told_f127 dX6_told_45 ?_
      refine z_iconst (v := 0) hX dX6_told_48 (by decide) ?_
      refine z_aload_n hX dX6_told_49 rfl 0 rfl ?_
      refine z_getR (k := 5) hX (z_bnk0 hs) rfl rfl in_X6_told_X6 (by decide) lk_X6_told_f40 dX6_told_50 ?_
      refine z_iconst (v := 0) hX dX6_told_53 (by decide) ?_
      refine z_iconst (v := 4) hX dX6_told_54 (by decide) ?_
      refine z_copy (k := 4) hX lk_X6_told_m209 lk_X6_told_yN lk_X6_told_yS lk_X6_told_yI (z_led4 hs z_isled17) (z_bnk1 hs) (by decide) rfl (by decide) (by decide) (by decide) (Nat.le_of_ble_eq_true rfl) dX6_told_55 (z_bs fun s5 => ?_)
      refine z_aload_n hX dX6_told_58 rfl 0 rfl ?_
      refine z_iload_n hX dX6_told_59 rfl 1 rfl ?_
      refine z_callVI (n := 1) hX (c_X6_timesByRumour M.2.1 V hX.2.2.2.2.2 hs x1 s5) gX6_told_X6_timesByRumour rfl (by decide +kernel) ⟨by decide, by decide⟩ rfl rfl (z_bnk0 hs) rfl rfl rfl rfl (Nat.le_of_ble_eq_true rfl) dX6_told_60 (fun r6 _ => ?_)
      refine z_pop hX dX6_told_63 rfl ?_
      refine z_iconst (v := 0) hX dX6_told_64 (by decide) ?_
      refine z_istore_n (lv' := [(3, .int (0 : Int32)), (0, .ref (z_ad V 0)), (1, .int x1), (2, .int x2)]) hX dX6_told_65 rfl (by decide) rfl ?_
      refine z_iconst (v := 0) hX dX6_told_66 (by decide) ?_
      refine z_istore (lv' := [(4, .int (0 : Int32)), (3, .int (0 : Int32)), (0, .ref (z_ad V 0)), (1, .int x1), (2, .int x2)]) hX dX6_told_67 (by decide) rfl ?_
      refine z_sub [2, 4, 1, 0] rfl ?_
      exact w_X6_told_69 M V hs hX 200 x2 (0 : Int32) (0 : Int32) r6.2
    · refine z_iconst (v := -1) hX dX6_told_16 (by decide) ?_
      exact z_iret hX dX6_told_17

abbrev rm_X6_whisper : Room := { frames := 6, cells := 0, slots := 0, locals := 136 }
theorem in_X6_whisper_X1 : ∀ w ∈ wsX10, w ∈ wsX6_whisper := fun w h => List.mem_cons_of_mem _ (List.mem_append_left _ (List.mem_append_right _ h))
theorem in_X6_whisper_X6 : ∀ w ∈ wsX60, w ∈ wsX6_whisper := fun w h => List.mem_cons_of_mem _ (List.mem_append_left _ (List.mem_append_left _ (List.mem_append_right _ h)))
theorem lk_X6_whisper_f26 : Cond.fieldLink RX6 26 (TX6 2).1 (TX6 2).2.1 (TX6 2).2.2.1 ∈ wsX6_whisper := by decide +kernel
theorem lk_X6_whisper_f111 : Cond.fieldLink RX6 111 (TX1 6).1 (TX1 6).2.1 (TX1 6).2.2.1 ∈ wsX6_whisper := by decide +kernel
theorem lk_X6_whisper_f93 : Cond.fieldLink RX6 93 (TX1 0).1 (TX1 0).2.1 (TX1 0).2.2.1 ∈ wsX6_whisper := by decide +kernel
set_option maxHeartbeats 4000000 in
set_option maxRecDepth 100000 in
theorem w_X6_whisper_28 (M : z_M) (V : z_V) (hs : z_isX V) (hX : z_Cx M V cX6_whisper 6 (some .int) wsX6_whisper RX6) : ∀ (n : Nat) (x1 : Int32) (x2 : Int32) (x3 : Int32) (x4 : Int32) (σ : z_St), z_Go M rm_X6_whisper 6 V (z_QI V) σ 28 [(0, .ref (z_ad V 0)), (1, .int x1), (2, .int x2), (3, .int x3), (4, .int x4)] [] (f_X6_whisper_28 n x1 x2 x3 x4 σ) := by
  intro n
  induction n with
  | zero => intro x1 x2 x3 x4 σ; exact z_none
  | succ n ih =>
    intro x1 x2 x3 x4 σ
    rw [f_X6_whisper_28]
    refine z_iload hX dX6_whisper_28 4 rfl ?_
    refine z_aload_n hX dX6_whisper_30 rfl 0 rfl ?_
    refine z_getR (k := 2) hX (z_bnk0 hs) rfl rfl in_X6_whisper_X6 (by decide) lk_X6_whisper_f26 dX6_whisper_31 ?_
    refine z_getI (k := 0) hX (z_led0 hs z_isled11) rfl rfl in_X6_whisper_X1 (by decide) lk_X6_whisper_f93 dX6_whisper_34 ?_
    refine z_icmp_ge (tgt := 66) hX dX6_whisper_37 (by decide) ?_ ?_
    · refine z_iload_n hX dX6_whisper_66 rfl 3 rfl ?_
      refine z_bipush (v := -4) hX dX6_whisper_67 (by decide) ?_
      refine z_icmp_eq (tgt := 76) hX dX6_whisper_69 (by decide) ?_ ?_
      · refine z_iload_n hX dX6_whisper_76 rfl 3 rfl ?_
        refine z_goto (tgt := 81) hX dX6_whisper_77 (by decide) ?_
        exact z_iret hX dX6_whisper_81
      · refine z_iload_n hX dX6_whisper_72 rfl 1 rfl ?_
        refine z_if_ne (tgt := 80) hX dX6_whisper_73 (by decide) ?_ ?_
        · refine z_iload_n hX dX6_whisper_80 rfl 2 rfl ?_
          exact z_iret hX dX6_whisper_81
        · refine z_iload_n hX dX6_whisper_76 rfl 3 rfl ?_
          refine z_goto (tgt := 81) hX dX6_whisper_77 (by decide) ?_
          exact z_iret hX dX6_whisper_81
    · refine z_aload_n hX dX6_whisper_40 rfl 0 rfl ?_
      refine z_iload hX dX6_whisper_41 4 rfl ?_
      refine z_callVI (n := 1) hX (c_X6_timesByRumour M.2.1 V hX.2.2.2.2.2 hs x4 σ) gX6_whisper_X6_timesByRumour rfl (by decide +kernel) ⟨by decide, by decide⟩ rfl rfl (z_bnk0 hs) rfl rfl rfl rfl (Nat.le_of_ble_eq_true rfl) dX6_whisper_43 (fun r3 _ => ?_)
      refine z_istore (lv' := [(5, .int r3.1), (0, .ref (z_ad V 0)), (1, .int x1), (2, .int x2), (3, .int x3), (4, .int x4)]) hX dX6_whisper_46 (by decide) rfl ?_
      refine z_iload hX dX6_whisper_48 0 rfl ?_
      refine z_iload_n hX dX6_whisper_50 rfl 3 rfl ?_
      refine z_icmp_ge (tgt := 60) hX dX6_whisper_51 (by decide) ?_ ?_
      · refine z_iinc (v := (x4 + 1)) (lv' := [(4, .int (x4 + 1)), (5, .int r3.1), (0, .ref (z_ad V 0)), (1, .int x1), (2, .int x2), (3, .int x3)]) hX dX6_whisper_60 5 rfl rfl (by decide) rfl ?_
        refine z_goto (tgt := 28) hX dX6_whisper_63 (by decide) ?_
        refine z_sub [2, 3, 4, 5, 0] rfl ?_
        exact ih x1 x2 x3 (x4 + 1) r3.2
      · refine z_iload hX dX6_whisper_54 0 rfl ?_
        refine z_istore_n (lv' := [(2, .int r3.1), (5, .int r3.1), (0, .ref (z_ad V 0)), (1, .int x1), (3, .int x3), (4, .int x4)]) hX dX6_whisper_56 rfl (by decide) rfl ?_
        refine z_iload hX dX6_whisper_57 5 rfl ?_
        refine z_istore_n (lv' := [(3, .int x4), (2, .int r3.1), (5, .int r3.1), (0, .ref (z_ad V 0)), (1, .int x1), (4, .int x4)]) hX dX6_whisper_59 rfl (by decide) rfl ?_
        refine z_iinc (v := (x4 + 1)) (lv' := [(4, .int (x4 + 1)), (3, .int x4), (2, .int r3.1), (5, .int r3.1), (0, .ref (z_ad V 0)), (1, .int x1)]) hX dX6_whisper_60 5 rfl rfl (by decide) rfl ?_
        refine z_goto (tgt := 28) hX dX6_whisper_63 (by decide) ?_
        refine z_sub [4, 5, 2, 1, 0] rfl ?_
        exact ih x1 r3.1 x4 (x4 + 1) r3.2
set_option maxHeartbeats 4000000 in
set_option maxRecDepth 100000 in
theorem c_X6_whisper (l : Launch) (V : z_V) (hV : z_ok V) (hs : z_isX V) (x1 : Int32) (σ : z_St) : z_CtI l V yX6_whisper wsX6_whisper rm_X6_whisper [.ref (z_ad V 0), .int x1] σ (f_X6_whisper x1 σ) := by
  refine z_startI (lv := [(0, .ref (z_ad V 0)), (1, .int x1)]) hV (by decide) rfl (Nat.le_of_ble_eq_true rfl) rfl ?_
  intro M hM hX
  have hX : z_Cx M V cX6_whisper 6 (some .int) wsX6_whisper RX6 := hX
  unfold f_X6_whisper
  refine z_iload_n hX dX6_whisper_0 rfl 1 rfl ?_
  refine z_iconst (v := 1) hX dX6_whisper_1 (by decide) ?_
  refine z_callSI (n := 2) hX (c_X6_isWithin M.2.1 V hX.2.2.2.2.2 hs x1 (1 : Int32) σ) gX6_whisper_X6_isWithin rfl (by decide +kernel) ⟨by decide, by decide⟩ rfl rfl rfl rfl (Nat.le_of_ble_eq_true rfl) dX6_whisper_2 (fun r1 _ => ?_)
  refine z_if_ne (tgt := 10) hX dX6_whisper_5 (by decide) ?_ ?_
  · refine z_aload_n hX dX6_whisper_10 rfl 0 rfl ?_
    refine z_aload_n hX dX6_whisper_11 rfl 0 rfl ?_
    refine z_getR (k := 2) hX (z_bnk0 hs) rfl rfl in_X6_whisper_X6 (by decide) lk_X6_whisper_f26 dX6_whisper_12 ?_
    refine z_getI (k := 6) hX (z_led0 hs z_isled11) rfl rfl in_X6_whisper_X1 (by decide) lk_X6_whisper_f111 dX6_whisper_15 ?_
    refine z_callVI (n := 1) hX (c_X6_timesByPlan M.2.1 V hX.2.2.2.2.2 hs (r1.2 11 6) r1.2) gX6_whisper_X6_timesByPlan rfl (by decide +kernel) ⟨by decide, by decide⟩ rfl rfl (z_bnk0 hs) rfl rfl rfl rfl (Nat.le_of_ble_eq_true rfl) dX6_whisper_18 (fun r2 _ => ?_)
    refine z_istore_n (lv' := [(2, .int r2.1), (0, .ref (z_ad V 0)), (1, .int x1)]) hX dX6_whisper_21 rfl (by decide) rfl ?_
    refine z_bipush (v := -4) hX dX6_whisper_22 (by decide) ?_
    refine z_istore_n (lv' := [(3, .int (-4 : Int32)), (2, .int r2.1), (0, .ref (z_ad V 0)), (1, .int x1)]) hX dX6_whisper_24 rfl (by decide) rfl ?_
    refine z_iconst (v := 0) hX dX6_whisper_25 (by decide) ?_
    refine z_istore (lv' := [(4, .int (0 : Int32)), (3, .int (-4 : Int32)), (2, .int r2.1), (0, .ref (z_ad V 0)), (1, .int x1)]) hX dX6_whisper_26 (by decide) rfl ?_
    refine z_sub [3, 4, 2, 1, 0] rfl ?_
    exact w_X6_whisper_28 M V hs hX 200 x1 r2.1 (-4 : Int32) (0 : Int32) r2.2
  · refine z_iconst (v := -1) hX dX6_whisper_8 (by decide) ?_
    exact z_iret hX dX6_whisper_9

abbrev rm_X6_note : Room := { frames := 1, cells := 0, slots := 0, locals := 23 }
theorem in_X6_note_X1 : ∀ w ∈ wsX10, w ∈ wsX6_note := fun w h => List.mem_cons_of_mem _ (List.mem_append_left _ (List.mem_append_right _ h))
theorem in_X6_note_X6 : ∀ w ∈ wsX60, w ∈ wsX6_note := fun w h => List.mem_cons_of_mem _ (List.mem_append_left _ (List.mem_append_left _ (List.mem_append_right _ h)))
theorem lk_X6_note_f26 : Cond.fieldLink RX6 26 (TX6 2).1 (TX6 2).2.1 (TX6 2).2.2.1 ∈ wsX6_note := by decide +kernel
theorem lk_X6_note_f108 : Cond.fieldLink RX6 108 (TX1 9).1 (TX1 9).2.1 (TX1 9).2.2.1 ∈ wsX6_note := by decide +kernel
theorem lk_X6_note_f33 : Cond.fieldLink RX6 33 (TX6 3).1 (TX6 3).2.1 (TX6 3).2.2.1 ∈ wsX6_note := by decide +kernel
set_option maxHeartbeats 4000000 in
set_option maxRecDepth 100000 in
theorem c_X6_note (l : Launch) (V : z_V) (hV : z_ok V) (hs : z_isX V) (x1 : Int32) (x2 : Int32) (x3 : Int32) (σ : z_St) : z_CtI l V yX6_note wsX6_note rm_X6_note [.ref (z_ad V 0), .int x1, .int x2, .int x3] σ (f_X6_note x1 x2 x3 σ) := by
  refine z_startI (lv := [(0, .ref (z_ad V 0)), (1, .int x1), (2, .int x2), (3, .int x3)]) hV (by decide) rfl (Nat.le_of_ble_eq_true rfl) rfl ?_
  intro M hM hX
  have hX : z_Cx M V cX6_note 4 (some .int) wsX6_note RX6 := hX
  unfold f_X6_note
  refine z_aload_n hX dX6_note_0 rfl 0 rfl ?_
  refine z_iload_n hX dX6_note_1 rfl 1 rfl ?_
  refine z_callVI (n := 1) hX (c_X6_isOne M.2.1 V hX.2.2.2.2.2 hs x1 σ) gX6_note_X6_isOne rfl (by decide +kernel) ⟨by decide, by decide⟩ rfl rfl (z_bnk0 hs) rfl rfl rfl rfl (Nat.le_of_ble_eq_true rfl) dX6_note_2 (fun r1 _ => ?_)
  refine z_if_eq (tgt := 17) hX dX6_note_5 (by decide) ?_ ?_
  · refine z_iconst (v := -1) hX dX6_note_17 (by decide) ?_
    exact z_iret hX dX6_note_18
  · refine z_iload_n hX dX6_note_8 rfl 2 rfl ?_
    refine z_bipush (v := 9) hX dX6_note_9 (by decide) ?_
    refine z_callSI (n := 2) hX (c_X6_isWithin M.2.1 V hX.2.2.2.2.2 hs x2 (9 : Int32) r1.2) gX6_note_X6_isWithin rfl (by decide +kernel) ⟨by decide, by decide⟩ rfl rfl rfl rfl (Nat.le_of_ble_eq_true rfl) dX6_note_11 (fun r2 _ => ?_)
    refine z_if_ne (tgt := 19) hX dX6_note_14 (by decide) ?_ ?_
    · refine z_iload_n hX dX6_note_19 rfl 2 rfl ?_
      refine z_aload_n hX dX6_note_20 rfl 0 rfl ?_
      refine z_getR (k := 2) hX (z_bnk0 hs) rfl rfl in_X6_note_X6 (by decide) lk_X6_note_f26 dX6_note_21 ?_
      refine z_getI (k := 9) hX (z_led0 hs z_isled11) rfl rfl in_X6_note_X1 (by decide) lk_X6_note_f108 dX6_note_24 ?_
      refine z_icmp_ge (tgt := 33) hX dX6_note_27 (by decide) ?_ ?_
      · refine z_aload_n hX dX6_note_33 rfl 0 rfl ?_
        refine z_getR (k := 3) hX (z_bnk0 hs) rfl rfl in_X6_note_X6 (by decide) lk_X6_note_f33 dX6_note_34 ?_
        refine z_iload_n hX dX6_note_37 rfl 1 rfl ?_
        refine z_iload_n hX dX6_note_38 rfl 2 rfl ?_
        refine z_iload_n hX dX6_note_39 rfl 3 rfl ?_
        refine z_callVI (n := 3) hX (c_X2_append M.2.1 V hX.2.2.2.2.2 hs 23 z_isnts23 x1 x2 x3 r2.2) gX6_note_X2_append rfl (by decide +kernel) ⟨by decide, by decide⟩ rfl rfl (z_nts0 hs z_isnts23) rfl rfl rfl rfl (Nat.le_of_ble_eq_true rfl) dX6_note_40 (fun r3 _ => ?_)
        exact z_iret hX dX6_note_43
      · refine z_bipush (v := -2) hX dX6_note_30 (by decide) ?_
        exact z_iret hX dX6_note_32
    · refine z_iconst (v := -1) hX dX6_note_17 (by decide) ?_
      exact z_iret hX dX6_note_18

abbrev rm_X6_forget : Room := { frames := 1, cells := 0, slots := 0, locals := 21 }
theorem in_X6_forget_X2 : ∀ w ∈ wsX20, w ∈ wsX6_forget := fun w h => List.mem_cons_of_mem _ (List.mem_append_right _ h)
theorem in_X6_forget_X6 : ∀ w ∈ wsX60, w ∈ wsX6_forget := fun w h => List.mem_cons_of_mem _ (List.mem_append_left _ (List.mem_append_right _ h))
theorem lk_X6_forget_f33 : Cond.fieldLink RX6 33 (TX6 3).1 (TX6 3).2.1 (TX6 3).2.2.1 ∈ wsX6_forget := by decide +kernel
theorem lk_X6_forget_f86 : Cond.fieldLink RX6 86 (TX2 0).1 (TX2 0).2.1 (TX2 0).2.2.1 ∈ wsX6_forget := by decide +kernel
set_option maxHeartbeats 4000000 in
set_option maxRecDepth 100000 in
theorem c_X6_forget (l : Launch) (V : z_V) (hV : z_ok V) (hs : z_isX V) (x1 : Int32) (σ : z_St) : z_CtI l V yX6_forget wsX6_forget rm_X6_forget [.ref (z_ad V 0), .int x1] σ (f_X6_forget x1 σ) := by
  refine z_startI (lv := [(0, .ref (z_ad V 0)), (1, .int x1)]) hV (by decide) rfl (Nat.le_of_ble_eq_true rfl) rfl ?_
  intro M hM hX
  have hX : z_Cx M V cX6_forget 3 (some .int) wsX6_forget RX6 := hX
  unfold f_X6_forget
  refine z_iload_n hX dX6_forget_0 rfl 1 rfl ?_
  refine z_aload_n hX dX6_forget_1 rfl 0 rfl ?_
  refine z_getR (k := 3) hX (z_bnk0 hs) rfl rfl in_X6_forget_X6 (by decide) lk_X6_forget_f33 dX6_forget_2 ?_
  refine z_getI (k := 0) hX (z_nts0 hs z_isnts23) rfl rfl in_X6_forget_X2 (by decide) lk_X6_forget_f86 dX6_forget_5 ?_
  refine z_callSI (n := 2) hX (c_X6_isWithin M.2.1 V hX.2.2.2.2.2 hs x1 (σ 23 0) σ) gX6_forget_X6_isWithin rfl (by decide +kernel) ⟨by decide, by decide⟩ rfl rfl rfl rfl (Nat.le_of_ble_eq_true rfl) dX6_forget_8 (fun r1 _ => ?_)
  refine z_if_ne (tgt := 16) hX dX6_forget_11 (by decide) ?_ ?_
  · refine z_aload_n hX dX6_forget_16 rfl 0 rfl ?_
    refine z_getR (k := 3) hX (z_bnk0 hs) rfl rfl in_X6_forget_X6 (by decide) lk_X6_forget_f33 dX6_forget_17 ?_
    refine z_getI (k := 0) hX (z_nts0 hs z_isnts23) rfl rfl in_X6_forget_X2 (by decide) lk_X6_forget_f86 dX6_forget_20 ?_
    refine z_istore_n (lv' := [(2, .int (r1.2 23 0)), (0, .ref (z_ad V 0)), (1, .int x1)]) hX dX6_forget_23 rfl (by decide) rfl ?_
    refine z_aload_n hX dX6_forget_24 rfl 1 rfl ?_
    refine z_getR (k := 3) hX (z_bnk0 hs) rfl rfl in_X6_forget_X6 (by decide) lk_X6_forget_f33 dX6_forget_25 ?_
    refine z_iload_n hX dX6_forget_28 rfl 2 rfl ?_
    refine z_put1 (k := 0) hX (z_nts0 hs z_isnts23) rfl rfl in_X6_forget_X2 (by decide) lk_X6_forget_f86 tyX2 tyX2_ok nmX2 rfl rfl rfl dX6_forget_29 (z_bs fun s2 => ?_)
    refine z_iload_n hX dX6_forget_32 rfl 0 rfl ?_
    exact z_iret hX dX6_forget_33
  · refine z_iconst (v := -1) hX dX6_forget_14 (by decide) ?_
    exact z_iret hX dX6_forget_15

abbrev rm_X6_fits : Room := { frames := 5, cells := 0, slots := 0, locals := 114 }
set_option maxHeartbeats 4000000 in
set_option maxRecDepth 100000 in
theorem w_X6_fits_64 (M : z_M) (V : z_V) (hs : z_isX V) (hX : z_Cx M V cX6_fits 7 (some .int) wsX6_fits RX6) (K27 : Int32 → Int32 → Int32 → Int32 → Int32 → Int32 → z_St → Option (Int32 × z_St)) (hK27 : ∀ (x1 : Int32) (x2 : Int32) (x3 : Int32) (x4 : Int32) (x5 : Int32) (x6 : Int32) (σ : z_St), z_Go M rm_X6_fits 7 V (z_QI V) σ 27 [(0, .ref (z_ad V 0)), (1, .int x1), (2, .int x2), (3, .int x3), (4, .int x4), (5, .int x5), (6, .int x6)] [] (K27 x1 x2 x3 x4 x5 x6 σ)) (x1 : Int32) (x2 : Int32) (x4 : Int32) (x5 : Int32) (x6 : Int32) (y0 : Int32) (σ : z_St) : z_Go M rm_X6_fits 7 V (z_QI V) σ 64 [(0, .ref (z_ad V 0)), (1, .int x1), (2, .int x2), (4, .int x4), (5, .int x5), (6, .int x6)] [.int y0] (f_X6_fits_64 K27 x1 x2 x4 x5 x6 y0 σ) := by
  unfold f_X6_fits_64
  refine z_istore_n (lv' := [(3, .int y0), (0, .ref (z_ad V 0)), (1, .int x1), (2, .int x2), (4, .int x4), (5, .int x5), (6, .int x6)]) hX dX6_fits_64 rfl (by decide) rfl ?_
  refine z_iinc (v := (x2 + 1)) (lv' := [(2, .int (x2 + 1)), (3, .int y0), (0, .ref (z_ad V 0)), (1, .int x1), (4, .int x4), (5, .int x5), (6, .int x6)]) hX dX6_fits_65 3 rfl rfl (by decide) rfl ?_
  refine z_iload hX dX6_fits_68 4 rfl ?_
  refine z_iload hX dX6_fits_70 6 rfl ?_
  refine z_iand hX dX6_fits_72 ?_
  refine z_istore (lv' := [(4, .int (x4 &&& x6)), (2, .int (x2 + 1)), (3, .int y0), (0, .ref (z_ad V 0)), (1, .int x1), (5, .int x5), (6, .int x6)]) hX dX6_fits_73 (by decide) rfl ?_
  refine z_iload hX dX6_fits_75 5 rfl ?_
  refine z_iload hX dX6_fits_77 6 rfl ?_
  refine z_ior hX dX6_fits_79 ?_
  refine z_istore (lv' := [(5, .int (x5 ||| x6)), (4, .int (x4 &&& x6)), (2, .int (x2 + 1)), (3, .int y0), (0, .ref (z_ad V 0)), (1, .int x1), (6, .int x6)]) hX dX6_fits_80 (by decide) rfl ?_
  refine z_iinc (v := (x6 + 1)) (lv' := [(6, .int (x6 + 1)), (5, .int (x5 ||| x6)), (4, .int (x4 &&& x6)), (2, .int (x2 + 1)), (3, .int y0), (0, .ref (z_ad V 0)), (1, .int x1)]) hX dX6_fits_82 6 rfl rfl (by decide) rfl ?_
  refine z_goto (tgt := 27) hX dX6_fits_85 (by decide) ?_
  refine z_sub [5, 6, 3, 4, 2, 1, 0] rfl ?_
  exact hK27 x1 (x2 + 1) y0 (x4 &&& x6) (x5 ||| x6) (x6 + 1) σ
set_option maxHeartbeats 4000000 in
set_option maxRecDepth 100000 in
theorem w_X6_fits_27 (M : z_M) (V : z_V) (hs : z_isX V) (hX : z_Cx M V cX6_fits 7 (some .int) wsX6_fits RX6) : ∀ (n : Nat) (x1 : Int32) (x2 : Int32) (x3 : Int32) (x4 : Int32) (x5 : Int32) (x6 : Int32) (σ : z_St), z_Go M rm_X6_fits 7 V (z_QI V) σ 27 [(0, .ref (z_ad V 0)), (1, .int x1), (2, .int x2), (3, .int x3), (4, .int x4), (5, .int x5), (6, .int x6)] [] (f_X6_fits_27 n x1 x2 x3 x4 x5 x6 σ) := by
  intro n
  induction n with
  | zero => intro x1 x2 x3 x4 x5 x6 σ; exact z_none
  | succ n ih =>
    intro x1 x2 x3 x4 x5 x6 σ
    rw [f_X6_fits_27]
    refine z_iload hX dX6_fits_27 6 rfl ?_
    refine z_aload_n hX dX6_fits_29 rfl 0 rfl ?_
    refine z_callVI (n := 0) hX (c_X6_allIncidents M.2.1 V hX.2.2.2.2.2 hs σ) gX6_fits_X6_allIncidents rfl (by decide +kernel) ⟨by decide, by decide⟩ rfl rfl (z_bnk0 hs) rfl rfl rfl rfl (Nat.le_of_ble_eq_true rfl) dX6_fits_30 (fun r3 _ => ?_)
    refine z_icmp_gt (tgt := 88) hX dX6_fits_33 (by decide) ?_ ?_
    · refine z_iload_n hX dX6_fits_88 rfl 1 rfl ?_
      refine z_if_ne (tgt := 94) hX dX6_fits_89 (by decide) ?_ ?_
      · refine z_iload_n hX dX6_fits_94 rfl 1 rfl ?_
        refine z_iconst (v := 1) hX dX6_fits_95 (by decide) ?_
        refine z_icmp_eq (tgt := 103) hX dX6_fits_96 (by decide) ?_ ?_
        · refine z_iload_n hX dX6_fits_103 rfl 3 rfl ?_
          exact z_iret hX dX6_fits_104
        · refine z_iload_n hX dX6_fits_99 rfl 2 rfl ?_
          refine z_if_ne (tgt := 105) hX dX6_fits_100 (by decide) ?_ ?_
          · refine z_iload_n hX dX6_fits_105 rfl 1 rfl ?_
            refine z_iconst (v := 2) hX dX6_fits_106 (by decide) ?_
            refine z_icmp_ne (tgt := 115) hX dX6_fits_107 (by decide) ?_ ?_
            · refine z_aload_n hX dX6_fits_115 rfl 0 rfl ?_
              refine z_callVI (n := 0) hX (c_X6_allIncidents M.2.1 V hX.2.2.2.2.2 hs r3.2) gX6_fits_X6_allIncidents rfl (by decide +kernel) ⟨by decide, by decide⟩ rfl rfl (z_bnk0 hs) rfl rfl rfl rfl (Nat.le_of_ble_eq_true rfl) dX6_fits_116 (fun r4 _ => ?_)
              refine z_iload hX dX6_fits_119 5 rfl ?_
              refine z_iconst (v := -1) hX dX6_fits_121 (by decide) ?_
              refine z_ixor hX dX6_fits_122 ?_
              refine z_iand hX dX6_fits_123 ?_
              exact z_iret hX dX6_fits_124
            · refine z_iload hX dX6_fits_110 4 rfl ?_
              refine z_goto (tgt := 124) hX dX6_fits_112 (by decide) ?_
              exact z_iret hX dX6_fits_124
          · refine z_iload_n hX dX6_fits_103 rfl 3 rfl ?_
            exact z_iret hX dX6_fits_104
      · refine z_iload_n hX dX6_fits_92 rfl 2 rfl ?_
        exact z_iret hX dX6_fits_93
    · refine z_aload_n hX dX6_fits_36 rfl 0 rfl ?_
      refine z_iload hX dX6_fits_37 6 rfl ?_
      refine z_callVI (n := 1) hX (c_X6_keepsThePast M.2.1 V hX.2.2.2.2.2 hs x6 r3.2) gX6_fits_X6_keepsThePast rfl (by decide +kernel) ⟨by decide, by decide⟩ rfl rfl (z_bnk0 hs) rfl rfl rfl rfl (Nat.le_of_ble_eq_true rfl) dX6_fits_39 (fun r5 _ => ?_)
      refine z_if_eq (tgt := 82) hX dX6_fits_42 (by decide) ?_ ?_
      · refine z_iinc (v := (x6 + 1)) (lv' := [(6, .int (x6 + 1)), (0, .ref (z_ad V 0)), (1, .int x1), (2, .int x2), (3, .int x3), (4, .int x4), (5, .int x5)]) hX dX6_fits_82 6 rfl rfl (by decide) rfl ?_
        refine z_goto (tgt := 27) hX dX6_fits_85 (by decide) ?_
        refine z_sub [1, 2, 3, 4, 5, 6, 0] rfl ?_
        exact ih x1 x2 x3 x4 x5 (x6 + 1) r5.2
      · refine z_aload_n hX dX6_fits_45 rfl 0 rfl ?_
        refine z_iload hX dX6_fits_46 6 rfl ?_
        refine z_callVI (n := 1) hX (c_X6_isAsNoted M.2.1 V hX.2.2.2.2.2 hs x6 r5.2) gX6_fits_X6_isAsNoted rfl (by decide +kernel) ⟨by decide, by decide⟩ rfl rfl (z_bnk0 hs) rfl rfl rfl rfl (Nat.le_of_ble_eq_true rfl) dX6_fits_48 (fun r6 _ => ?_)
        refine z_if_eq (tgt := 82) hX dX6_fits_51 (by decide) ?_ ?_
        · refine z_iinc (v := (x6 + 1)) (lv' := [(6, .int (x6 + 1)), (0, .ref (z_ad V 0)), (1, .int x1), (2, .int x2), (3, .int x3), (4, .int x4), (5, .int x5)]) hX dX6_fits_82 6 rfl rfl (by decide) rfl ?_
          refine z_goto (tgt := 27) hX dX6_fits_85 (by decide) ?_
          refine z_sub [1, 2, 3, 4, 5, 6, 0] rfl ?_
          exact ih x1 x2 x3 x4 x5 (x6 + 1) r6.2
        · refine z_iload_n hX dX6_fits_54 rfl 2 rfl ?_
          refine z_if_ne (tgt := 63) hX dX6_fits_55 (by decide) ?_ ?_
          · refine z_iload_n hX dX6_fits_63 rfl 3 rfl ?_
            refine z_sub [0, 1, 2, 4, 5, 6] rfl ?_
            exact w_X6_fits_64 M V hs hX (fun x1 x2 x3 x4 x5 x6 σ => f_X6_fits_27 n x1 x2 x3 x4 x5 x6 σ) ih x1 x2 x4 x5 x6 x3 r6.2
          · refine z_iload hX dX6_fits_58 6 rfl ?_
            refine z_goto (tgt := 64) hX dX6_fits_60 (by decide) ?_
            refine z_sub [0, 1, 2, 4, 5, 6] rfl ?_
            exact w_X6_fits_64 M V hs hX (fun x1 x2 x3 x4 x5 x6 σ => f_X6_fits_27 n x1 x2 x3 x4 x5 x6 σ) ih x1 x2 x4 x5 x6 x6 r6.2
set_option maxHeartbeats 4000000 in
set_option maxRecDepth 100000 in
theorem c_X6_fits (l : Launch) (V : z_V) (hV : z_ok V) (hs : z_isX V) (x1 : Int32) (σ : z_St) : z_CtI l V yX6_fits wsX6_fits rm_X6_fits [.ref (z_ad V 0), .int x1] σ (f_X6_fits x1 σ) := by
  refine z_startI (lv := [(0, .ref (z_ad V 0)), (1, .int x1)]) hV (by decide) rfl (Nat.le_of_ble_eq_true rfl) rfl ?_
  intro M hM hX
  have hX : z_Cx M V cX6_fits 7 (some .int) wsX6_fits RX6 := hX
  unfold f_X6_fits
  refine z_iload_n hX dX6_fits_0 rfl 1 rfl ?_
  refine z_iconst (v := 3) hX dX6_fits_1 (by decide) ?_
  refine z_callSI (n := 2) hX (c_X6_isWithin M.2.1 V hX.2.2.2.2.2 hs x1 (3 : Int32) σ) gX6_fits_X6_isWithin rfl (by decide +kernel) ⟨by decide, by decide⟩ rfl rfl rfl rfl (Nat.le_of_ble_eq_true rfl) dX6_fits_2 (fun r1 _ => ?_)
  refine z_if_ne (tgt := 10) hX dX6_fits_5 (by decide) ?_ ?_
  · refine z_iconst (v := 0) hX dX6_fits_10 (by decide) ?_
    refine z_istore_n (lv' := [(2, .int (0 : Int32)), (0, .ref (z_ad V 0)), (1, .int x1)]) hX dX6_fits_11 rfl (by decide) rfl ?_
    refine z_bipush (v := -4) hX dX6_fits_12 (by decide) ?_
    refine z_istore_n (lv' := [(3, .int (-4 : Int32)), (2, .int (0 : Int32)), (0, .ref (z_ad V 0)), (1, .int x1)]) hX dX6_fits_14 rfl (by decide) rfl ?_
    refine z_aload_n hX dX6_fits_15 rfl 2 rfl ?_
    refine z_callVI (n := 0) hX (c_X6_allIncidents M.2.1 V hX.2.2.2.2.2 hs r1.2) gX6_fits_X6_allIncidents rfl (by decide +kernel) ⟨by decide, by decide⟩ rfl rfl (z_bnk0 hs) rfl rfl rfl rfl (Nat.le_of_ble_eq_true rfl) dX6_fits_16 (fun r2 _ => ?_)
    refine z_istore (lv' := [(4, .int r2.1), (3, .int (-4 : Int32)), (2, .int (0 : Int32)), (0, .ref (z_ad V 0)), (1, .int x1)]) hX dX6_fits_19 (by decide) rfl ?_
    refine z_iconst (v := 0) hX dX6_fits_21 (by decide) ?_
    refine z_istore (lv' := [(5, .int (0 : Int32)), (4, .int r2.1), (3, .int (-4 : Int32)), (2, .int (0 : Int32)), (0, .ref (z_ad V 0)), (1, .int x1)]) hX dX6_fits_22 (by decide) rfl ?_
    refine z_iconst (v := 0) hX dX6_fits_24 (by decide) ?_
    refine z_istore (lv' := [(6, .int (0 : Int32)), (5, .int (0 : Int32)), (4, .int r2.1), (3, .int (-4 : Int32)), (2, .int (0 : Int32)), (0, .ref (z_ad V 0)), (1, .int x1)]) hX dX6_fits_25 (by decide) rfl ?_
    refine z_sub [5, 6, 4, 3, 2, 1, 0] rfl ?_
    exact w_X6_fits_27 M V hs hX 200 x1 (0 : Int32) (-4 : Int32) r2.1 (0 : Int32) (0 : Int32) r2.2
  · refine z_iconst (v := -1) hX dX6_fits_8 (by decide) ?_
    exact z_iret hX dX6_fits_9

abbrev rm_X6_drift : Room := { frames := 4, cells := 0, slots := 0, locals := 92 }
theorem in_X6_drift_X1 : ∀ w ∈ wsX10, w ∈ wsX6_drift := fun w h => List.mem_cons_of_mem _ (List.mem_append_left _ (List.mem_append_right _ h))
theorem in_X6_drift_X6 : ∀ w ∈ wsX60, w ∈ wsX6_drift := fun w h => List.mem_cons_of_mem _ (List.mem_append_left _ (List.mem_append_left _ (List.mem_append_right _ h)))
theorem lk_X6_drift_f26 : Cond.fieldLink RX6 26 (TX6 2).1 (TX6 2).2.1 (TX6 2).2.2.1 ∈ wsX6_drift := by decide +kernel
theorem lk_X6_drift_f93 : Cond.fieldLink RX6 93 (TX1 0).1 (TX1 0).2.1 (TX1 0).2.2.1 ∈ wsX6_drift := by decide +kernel
theorem lk_X6_drift_f37 : Cond.fieldLink RX6 37 (TX6 4).1 (TX6 4).2.1 (TX6 4).2.2.1 ∈ wsX6_drift := by decide +kernel
theorem lk_X6_drift_c224 : Cond.constant RX6 224 1103515245 ∈ wsX6_drift := by decide +kernel
theorem lk_X6_drift_f19 : Cond.fieldLink RX6 19 (TX6 1).1 (TX6 1).2.1 (TX6 1).2.2.1 ∈ wsX6_drift := by decide +kernel
set_option maxHeartbeats 4000000 in
set_option maxRecDepth 100000 in
theorem w_X6_drift_54 (M : z_M) (V : z_V) (hs : z_isX V) (hX : z_Cx M V cX6_drift 8 (some .int) wsX6_drift RX6) : ∀ (n : Nat) (x2 : Int32) (x3 : Int32) (x4 : Int32) (x5 : Int32) (x6 : Int32) (σ : z_St), z_Go M rm_X6_drift 8 V (z_QI V) σ 54 [(0, .ref (z_ad V 0)), (2, .int x2), (3, .int x3), (4, .int x4), (5, .int x5), (6, .int x6)] [] (f_X6_drift_54 n x2 x3 x4 x5 x6 σ) := by
  intro n
  induction n with
  | zero => intro x2 x3 x4 x5 x6 σ; exact z_none
  | succ n ih =>
    intro x2 x3 x4 x5 x6 σ
    rw [f_X6_drift_54]
    refine z_iload hX dX6_drift_54 5 rfl ?_
    refine z_iload_n hX dX6_drift_56 rfl 1 rfl ?_
    refine z_icmp_ge (tgt := 126) hX dX6_drift_57 (by decide) ?_ ?_
    · refine z_iload_n hX dX6_drift_126 rfl 2 rfl ?_
      refine z_if_ne (tgt := 135) hX dX6_drift_127 (by decide) ?_ ?_
      · refine z_aload_n hX dX6_drift_135 rfl 0 rfl ?_
        refine z_getR (k := 4) hX (z_bnk0 hs) rfl rfl in_X6_drift_X6 (by decide) lk_X6_drift_f37 dX6_drift_136 ?_
        refine z_callVI (n := 0) hX (c_X1_sumInHand M.2.1 V hX.2.2.2.2.2 hs 17 z_isled17 σ) gX6_drift_X1_sumInHand rfl (by decide +kernel) ⟨by decide, by decide⟩ rfl rfl (z_led0 hs z_isled17) rfl rfl rfl rfl (Nat.le_of_ble_eq_true rfl) dX6_drift_139 (fun r3 _ => ?_)
        exact z_iret hX dX6_drift_142
      · refine z_iload hX dX6_drift_130 3 rfl ?_
        refine z_goto (tgt := 142) hX dX6_drift_132 (by decide) ?_
        exact z_iret hX dX6_drift_142
    · refine z_iload hX dX6_drift_60 4 rfl ?_
      refine z_ldc (v := 1103515245) hX lk_X6_drift_c224 dX6_drift_62 ?_
      refine z_imul hX dX6_drift_64 ?_
      refine z_sipush (v := 12345) hX dX6_drift_65 (by decide) ?_
      refine z_iadd hX dX6_drift_68 ?_
      refine z_top (fun v4 => ?_)
      refine z_istore (lv' := [(5, .int v4), (0, .ref (z_ad V 0)), (2, .int x2), (3, .int x3), (4, .int x4), (6, .int x6)]) hX dX6_drift_69 (by decide) rfl ?_
      refine z_iload hX dX6_drift_71 0 rfl ?_
      refine z_bipush (v := 16) hX dX6_drift_73 (by decide) ?_
      refine z_iushr hX dX6_drift_75 ?_
      refine z_sipush (v := 32767) hX dX6_drift_76 (by decide) ?_
      refine z_iand hX dX6_drift_79 ?_
      refine z_top (fun v5 => ?_)
      refine z_istore (lv' := [(7, .int v5), (5, .int v4), (0, .ref (z_ad V 0)), (2, .int x2), (3, .int x3), (4, .int x4), (6, .int x6)]) hX dX6_drift_80 (by decide) rfl ?_
      refine z_aload_n hX dX6_drift_82 rfl 2 rfl ?_
      refine z_getR (k := 4) hX (z_bnk0 hs) rfl rfl in_X6_drift_X6 (by decide) lk_X6_drift_f37 dX6_drift_83 ?_
      refine z_iload hX dX6_drift_86 0 rfl ?_
      refine z_aload_n hX dX6_drift_88 rfl 2 rfl ?_
      refine z_getR (k := 2) hX (z_bnk0 hs) rfl rfl in_X6_drift_X6 (by decide) lk_X6_drift_f26 dX6_drift_89 ?_
      refine z_getI (k := 0) hX (z_led0 hs z_isled11) rfl rfl in_X6_drift_X1 (by decide) lk_X6_drift_f93 dX6_drift_92 ?_
      refine z_irem hX dX6_drift_95 ?_
      refine z_iload hX dX6_drift_96 0 rfl ?_
      refine z_bipush (v := 10) hX dX6_drift_98 (by decide) ?_
      refine z_iremc hX dX6_drift_100 (by decide) ?_
      refine z_callVV (n := 2) hX (c_X1_putInHand M.2.1 V hX.2.2.2.2.2 hs 17 z_isled17 (v5 - v5 / (σ 11 0) * (σ 11 0)) (v5 - v5 / (10 : Int32) * (10 : Int32)) σ) gX6_drift_X1_putInHand rfl (by decide +kernel) ⟨by decide, by decide⟩ rfl rfl (z_led0 hs z_isled17) rfl rfl rfl rfl (Nat.le_of_ble_eq_true rfl) dX6_drift_101 (fun r6 _ => ?_)
      refine z_iload hX dX6_drift_104 5 rfl ?_
      refine z_aload_n hX dX6_drift_106 rfl 2 rfl ?_
      refine z_getR (k := 4) hX (z_bnk0 hs) rfl rfl in_X6_drift_X6 (by decide) lk_X6_drift_f37 dX6_drift_107 ?_
      refine z_aload_n hX dX6_drift_110 rfl 2 rfl ?_
      refine z_getR (k := 1) hX (z_bnk0 hs) rfl rfl in_X6_drift_X6 (by decide) lk_X6_drift_f19 dX6_drift_111 ?_
      refine z_callVI (n := 1) hX (c_X1_passWeek M.2.1 V hX.2.2.2.2.2 hs 17 z_isled17 4 z_issto4 r6.2) gX6_drift_X1_passWeek rfl (by decide +kernel) ⟨by decide, by decide⟩ rfl rfl (z_led0 hs z_isled17) rfl rfl rfl rfl (Nat.le_of_ble_eq_true rfl) dX6_drift_114 (fun r7 _ => ?_)
      refine z_iadd hX dX6_drift_117 ?_
      refine z_istore (lv' := [(4, .int (x4 + r7.1)), (7, .int v5), (5, .int v4), (0, .ref (z_ad V 0)), (2, .int x2), (3, .int x3), (6, .int x6)]) hX dX6_drift_118 (by decide) rfl ?_
      refine z_iinc (v := (x6 + 1)) (lv' := [(6, .int (x6 + 1)), (4, .int (x4 + r7.1)), (7, .int v5), (5, .int v4), (0, .ref (z_ad V 0)), (2, .int x2), (3, .int x3)]) hX dX6_drift_120 6 rfl rfl (by decide) rfl ?_
      refine z_goto (tgt := 54) hX dX6_drift_123 (by decide) ?_
      refine z_sub [4, 5, 6, 1, 3, 0] rfl ?_
      exact ih x2 x3 (x4 + r7.1) v4 (x6 + 1) r7.2
set_option maxHeartbeats 4000000 in
set_option maxRecDepth 100000 in
theorem c_X6_drift (l : Launch) (V : z_V) (hV : z_ok V) (hs : z_isX V) (x1 : Int32) (x2 : Int32) (x3 : Int32) (σ : z_St) : z_CtI l V yX6_drift wsX6_drift rm_X6_drift [.ref (z_ad V 0), .int x1, .int x2, .int x3] σ (f_X6_drift x1 x2 x3 σ) := by
  refine z_startI (lv := [(0, .ref (z_ad V 0)), (1, .int x1), (2, .int x2), (3, .int x3)]) hV (by decide) rfl (Nat.le_of_ble_eq_true rfl) rfl ?_
  intro M hM hX
  have hX : z_Cx M V cX6_drift 8 (some .int) wsX6_drift RX6 := hX
  unfold f_X6_drift
  refine z_iload_n hX dX6_drift_0 rfl 2 rfl ?_
  refine z_iconst (v := 1) hX dX6_drift_1 (by decide) ?_
  refine z_icmp_lt (tgt := 19) hX dX6_drift_2 (by decide) ?_ ?_
  · refine z_iconst (v := -1) hX dX6_drift_19 (by decide) ?_
    exact z_iret hX dX6_drift_20
  · refine z_iload_n hX dX6_drift_5 rfl 2 rfl ?_
    refine z_bipush (v := 20) hX dX6_drift_6 (by decide) ?_
    refine z_icmp_gt (tgt := 19) hX dX6_drift_8 (by decide) ?_ ?_
    · refine z_iconst (v := -1) hX dX6_drift_19 (by decide) ?_
      exact z_iret hX dX6_drift_20
    · refine z_iload_n hX dX6_drift_11 rfl 3 rfl ?_
      refine z_iconst (v := 1) hX dX6_drift_12 (by decide) ?_
      refine z_callSI (n := 2) hX (c_X6_isWithin M.2.1 V hX.2.2.2.2.2 hs x3 (1 : Int32) σ) gX6_drift_X6_isWithin rfl (by decide +kernel) ⟨by decide, by decide⟩ rfl rfl rfl rfl (Nat.le_of_ble_eq_true rfl) dX6_drift_13 (fun r1 _ => ?_)
      refine z_if_ne (tgt := 21) hX dX6_drift_16 (by decide) ?_ ?_
      · refine z_aload_n hX dX6_drift_21 rfl 0 rfl ?_
        refine z_getR (k := 2) hX (z_bnk0 hs) rfl rfl in_X6_drift_X6 (by decide) lk_X6_drift_f26 dX6_drift_22 ?_
        refine z_getI (k := 0) hX (z_led0 hs z_isled11) rfl rfl in_X6_drift_X1 (by decide) lk_X6_drift_f93 dX6_drift_25 ?_
        refine z_if_ne (tgt := 34) hX dX6_drift_28 (by decide) ?_ ?_
        · refine z_aload_n hX dX6_drift_34 rfl 0 rfl ?_
          refine z_getR (k := 4) hX (z_bnk0 hs) rfl rfl in_X6_drift_X6 (by decide) lk_X6_drift_f37 dX6_drift_35 ?_
          refine z_aload_n hX dX6_drift_38 rfl 0 rfl ?_
          refine z_getR (k := 2) hX (z_bnk0 hs) rfl rfl in_X6_drift_X6 (by decide) lk_X6_drift_f26 dX6_drift_39 ?_
          refine z_callVV (n := 1) hX (c_X1_copyFrom M.2.1 V hX.2.2.2.2.2 hs 17 z_isled17 11 z_isled11 r1.2) gX6_drift_X1_copyFrom rfl (by decide +kernel) ⟨by decide, by decide⟩ rfl rfl (z_led0 hs z_isled17) rfl rfl rfl rfl (Nat.le_of_ble_eq_true rfl) dX6_drift_42 (fun r2 _ => ?_)
          refine z_iconst (v := 0) hX dX6_drift_45 (by decide) ?_
          refine z_istore (lv' := [(4, .int (0 : Int32)), (0, .ref (z_ad V 0)), (1, .int x1), (2, .int x2), (3, .int x3)]) hX dX6_drift_46 (by decide) rfl ?_
          refine z_iload_n hX dX6_drift_48 rfl 2 rfl ?_
          refine z_istore (lv' := [(5, .int x1), (4, .int (0 : Int32)), (0, .ref (z_ad V 0)), (1, .int x1), (2, .int x2), (3, .int x3)]) hX dX6_drift_49 (by decide) rfl ?_
          refine z_iconst (v := 0) hX dX6_drift_51 (by decide) ?_
          refine z_istore (lv' := [(6, .int (0 : Int32)), (5, .int x1), (4, .int (0 : Int32)), (0, .ref (z_ad V 0)), (1, .int x1), (2, .int x2), (3, .int x3)]) hX dX6_drift_52 (by decide) rfl ?_
          refine z_sub [3, 5, 6, 2, 1, 0] rfl ?_
          exact w_X6_drift_54 M V hs hX 200 x2 x3 (0 : Int32) x1 (0 : Int32) r2.2
        · refine z_bipush (v := -2) hX dX6_drift_31 (by decide) ?_
          exact z_iret hX dX6_drift_33
      · refine z_iconst (v := -1) hX dX6_drift_19 (by decide) ?_
        exact z_iret hX dX6_drift_20

abbrev rm_X6_keep : Room := { frames := 2, cells := 0, slots := 0, locals := 61 }
theorem in_X6_keep_X0 : ∀ w ∈ wsX00, w ∈ wsX6_keep := fun w h => List.mem_cons_of_mem _ (List.mem_append_left _ (List.mem_append_left _ (List.mem_append_right _ h)))
theorem in_X6_keep_X6 : ∀ w ∈ wsX60, w ∈ wsX6_keep := fun w h => List.mem_cons_of_mem _ (List.mem_append_left _ (List.mem_append_left _ (List.mem_append_left _ (List.mem_append_right _ h))))
theorem lk_X6_keep_f46 : Cond.fieldLink RX6 46 (TX6 6).1 (TX6 6).2.1 (TX6 6).2.2.1 ∈ wsX6_keep := by decide +kernel
theorem lk_X6_keep_f89 : Cond.fieldLink RX6 89 (TX0 0).1 (TX0 0).2.1 (TX0 0).2.2.1 ∈ wsX6_keep := by decide +kernel
theorem lk_X6_keep_f228 : Cond.fieldLink RX6 228 (TX0 1).1 (TX0 1).2.1 (TX0 1).2.2.1 ∈ wsX6_keep := by decide +kernel
theorem lk_X6_keep_f26 : Cond.fieldLink RX6 26 (TX6 2).1 (TX6 2).2.1 (TX6 2).2.2.1 ∈ wsX6_keep := by decide +kernel
theorem lk_X6_keep_f229 : Cond.fieldLink RX6 229 (TX0 2).1 (TX0 2).2.1 (TX0 2).2.2.1 ∈ wsX6_keep := by decide +kernel
theorem lk_X6_keep_f33 : Cond.fieldLink RX6 33 (TX6 3).1 (TX6 3).2.1 (TX6 3).2.2.1 ∈ wsX6_keep := by decide +kernel
set_option maxHeartbeats 4000000 in
set_option maxRecDepth 100000 in
theorem w_X6_keep_29 (M : z_M) (V : z_V) (hs : z_isX V) (hX : z_Cx M V cX6_keep 4 (some .int) wsX6_keep RX6) (x2 : Nat) (hx2 : z_Img x2) (y0 : Int32) (σ : z_St) : z_Go M rm_X6_keep 4 V (z_QI V) σ 29 [(0, .ref (z_ad V 0)), (2, .ref (z_ad V x2))] [.int y0] (f_X6_keep_29 x2 y0 σ) := by
  unfold f_X6_keep_29
  refine z_istore_n (lv' := [(3, .int y0), (0, .ref (z_ad V 0)), (2, .ref (z_ad V x2))]) hX dX6_keep_29 rfl (by decide) rfl ?_
  refine z_aload_n hX dX6_keep_30 rfl 2 rfl ?_
  refine z_getR (k := 1) hX (z_img0 hs hx2) rfl rfl in_X6_keep_X0 (by decide) lk_X6_keep_f228 dX6_keep_31 ?_
  refine z_aload_n hX dX6_keep_34 rfl 1 rfl ?_
  refine z_getR (k := 2) hX (z_bnk0 hs) rfl rfl in_X6_keep_X6 (by decide) lk_X6_keep_f26 dX6_keep_35 ?_
  refine z_callVV (n := 1) hX (c_X1_copyFrom M.2.1 V hX.2.2.2.2.2 hs (x2 + 1) (z_imgled hx2) 11 z_isled11 σ) gX6_keep_X1_copyFrom rfl (by decide +kernel) ⟨by decide, by decide⟩ rfl rfl (z_led0 hs (z_imgled hx2)) rfl rfl rfl rfl (Nat.le_of_ble_eq_true rfl) dX6_keep_38 (fun r3 _ => ?_)
  refine z_aload_n hX dX6_keep_41 rfl 2 rfl ?_
  refine z_getR (k := 2) hX (z_img0 hs hx2) rfl rfl in_X6_keep_X0 (by decide) lk_X6_keep_f229 dX6_keep_42 ?_
  refine z_aload_n hX dX6_keep_45 rfl 1 rfl ?_
  refine z_getR (k := 3) hX (z_bnk0 hs) rfl rfl in_X6_keep_X6 (by decide) lk_X6_keep_f33 dX6_keep_46 ?_
  refine z_callVV (n := 1) hX (c_X2_copyFrom M.2.1 V hX.2.2.2.2.2 hs (x2 + 7) (z_imgnts hx2) 23 z_isnts23 r3.2) gX6_keep_X2_copyFrom rfl (by decide +kernel) ⟨by decide, by decide⟩ rfl rfl (z_nts0 hs (z_imgnts hx2)) rfl rfl rfl rfl (Nat.le_of_ble_eq_true rfl) dX6_keep_49 (fun r4 _ => ?_)
  refine z_aload_n hX dX6_keep_52 rfl 2 rfl ?_
  refine z_iconst (v := 1) hX dX6_keep_53 (by decide) ?_
  refine z_put1 (k := 0) hX (z_img0 hs hx2) rfl rfl in_X6_keep_X0 (by decide) lk_X6_keep_f89 tyX0 tyX0_ok nmX0 rfl rfl rfl dX6_keep_54 (z_bs fun s5 => ?_)
  refine z_iload_n hX dX6_keep_57 rfl 0 rfl ?_
  exact z_iret hX dX6_keep_58
set_option maxHeartbeats 4000000 in
set_option maxRecDepth 100000 in
theorem c_X6_keep (l : Launch) (V : z_V) (hV : z_ok V) (hs : z_isX V) (x1 : Int32) (σ : z_St) : z_CtI l V yX6_keep wsX6_keep rm_X6_keep [.ref (z_ad V 0), .int x1] σ (f_X6_keep x1 σ) := by
  refine z_startI (lv := [(0, .ref (z_ad V 0)), (1, .int x1)]) hV (by decide) rfl (Nat.le_of_ble_eq_true rfl) rfl ?_
  intro M hM hX
  have hX : z_Cx M V cX6_keep 4 (some .int) wsX6_keep RX6 := hX
  unfold f_X6_keep
  refine z_iload_n hX dX6_keep_0 rfl 1 rfl ?_
  refine z_iconst (v := 1) hX dX6_keep_1 (by decide) ?_
  refine z_callSI (n := 2) hX (c_X6_isWithin M.2.1 V hX.2.2.2.2.2 hs x1 (1 : Int32) σ) gX6_keep_X6_isWithin rfl (by decide +kernel) ⟨by decide, by decide⟩ rfl rfl rfl rfl (Nat.le_of_ble_eq_true rfl) dX6_keep_2 (fun r1 _ => ?_)
  refine z_if_ne (tgt := 10) hX dX6_keep_5 (by decide) ?_ ?_
  · refine z_aload_n hX dX6_keep_10 rfl 0 rfl ?_
    refine z_getR (k := 6) hX (z_bnk0 hs) rfl rfl in_X6_keep_X6 (by decide) lk_X6_keep_f46 dX6_keep_11 ?_
    refine z_iload_n hX dX6_keep_14 rfl 1 rfl ?_
    refine z_aald3 hX (z_bnk2 hs) dX6_keep_15 (fun h2 => ?_)
    refine z_astore_n (lv' := [(2, .ref (z_ad V (43 + 11 * x1.toNatClampNeg))), (0, .ref (z_ad V 0)), (1, .int x1)]) hX dX6_keep_16 rfl (by decide) rfl ?_
    refine z_aload_n hX dX6_keep_17 rfl 0 rfl ?_
    refine z_getI (k := 0) hX (z_img0 hs (z_imgin h2)) rfl rfl in_X6_keep_X0 (by decide) lk_X6_keep_f89 dX6_keep_18 ?_
    refine z_if_eq (tgt := 28) hX dX6_keep_21 (by decide) ?_ ?_
    · refine z_iconst (v := 0) hX dX6_keep_28 (by decide) ?_
      refine z_sub [1, 0] rfl ?_
      exact w_X6_keep_29 M V hs hX (43 + 11 * x1.toNatClampNeg) (z_imgin h2) (0 : Int32) r1.2
    · refine z_iconst (v := 1) hX dX6_keep_24 (by decide) ?_
      refine z_goto (tgt := 29) hX dX6_keep_25 (by decide) ?_
      refine z_sub [1, 0] rfl ?_
      exact w_X6_keep_29 M V hs hX (43 + 11 * x1.toNatClampNeg) (z_imgin h2) (1 : Int32) r1.2
  · refine z_iconst (v := -1) hX dX6_keep_8 (by decide) ?_
    exact z_iret hX dX6_keep_9

abbrev rm_X6_back : Room := { frames := 2, cells := 0, slots := 0, locals := 61 }
theorem in_X6_back_X0 : ∀ w ∈ wsX00, w ∈ wsX6_back := fun w h => List.mem_cons_of_mem _ (List.mem_append_left _ (List.mem_append_left _ (List.mem_append_right _ h)))
theorem in_X6_back_X1 : ∀ w ∈ wsX10, w ∈ wsX6_back := fun w h => List.mem_cons_of_mem _ (List.mem_append_left _ (List.mem_append_right _ h))
theorem in_X6_back_X6 : ∀ w ∈ wsX60, w ∈ wsX6_back := fun w h => List.mem_cons_of_mem _ (List.mem_append_left _ (List.mem_append_left _ (List.mem_append_left _ (List.mem_append_right _ h))))
theorem lk_X6_back_f46 : Cond.fieldLink RX6 46 (TX6 6).1 (TX6 6).2.1 (TX6 6).2.2.1 ∈ wsX6_back := by decide +kernel
theorem lk_X6_back_f89 : Cond.fieldLink RX6 89 (TX0 0).1 (TX0 0).2.1 (TX0 0).2.2.1 ∈ wsX6_back := by decide +kernel
theorem lk_X6_back_f26 : Cond.fieldLink RX6 26 (TX6 2).1 (TX6 2).2.1 (TX6 2).2.2.1 ∈ wsX6_back := by decide +kernel
theorem lk_X6_back_f228 : Cond.fieldLink RX6 228 (TX0 1).1 (TX0 1).2.1 (TX0 1).2.2.1 ∈ wsX6_back := by decide +kernel
theorem lk_X6_back_f33 : Cond.fieldLink RX6 33 (TX6 3).1 (TX6 3).2.1 (TX6 3).2.2.1 ∈ wsX6_back := by decide +kernel
theorem lk_X6_back_f229 : Cond.fieldLink RX6 229 (TX0 2).1 (TX0 2).2.1 (TX0 2).2.2.1 ∈ wsX6_back := by decide +kernel
theorem lk_X6_back_f108 : Cond.fieldLink RX6 108 (TX1 9).1 (TX1 9).2.1 (TX1 9).2.2.1 ∈ wsX6_back := by decide +kernel
set_option maxHeartbeats 4000000 in
set_option maxRecDepth 100000 in
theorem c_X6_back (l : Launch) (V : z_V) (hV : z_ok V) (hs : z_isX V) (x1 : Int32) (σ : z_St) : z_CtI l V yX6_back wsX6_back rm_X6_back [.ref (z_ad V 0), .int x1] σ (f_X6_back x1 σ) := by
  refine z_startI (lv := [(0, .ref (z_ad V 0)), (1, .int x1)]) hV (by decide) rfl (Nat.le_of_ble_eq_true rfl) rfl ?_
  intro M hM hX
  have hX : z_Cx M V cX6_back 3 (some .int) wsX6_back RX6 := hX
  unfold f_X6_back
  refine z_iload_n hX dX6_back_0 rfl 1 rfl ?_
  refine z_iconst (v := 1) hX dX6_back_1 (by decide) ?_
  refine z_callSI (n := 2) hX (c_X6_isWithin M.2.1 V hX.2.2.2.2.2 hs x1 (1 : Int32) σ) gX6_back_X6_isWithin rfl (by decide +kernel) ⟨by decide, by decide⟩ rfl rfl rfl rfl (Nat.le_of_ble_eq_true rfl) dX6_back_2 (fun r1 _ => ?_)
  refine z_if_ne (tgt := 10) hX dX6_back_5 (by decide) ?_ ?_
  · refine z_aload_n hX dX6_back_10 rfl 0 rfl ?_
    refine z_getR (k := 6) hX (z_bnk0 hs) rfl rfl in_X6_back_X6 (by decide) lk_X6_back_f46 dX6_back_11 ?_
    refine z_iload_n hX dX6_back_14 rfl 1 rfl ?_
    refine z_aald3 hX (z_bnk2 hs) dX6_back_15 (fun h2 => ?_)
    refine z_astore_n (lv' := [(2, .ref (z_ad V (43 + 11 * x1.toNatClampNeg))), (0, .ref (z_ad V 0)), (1, .int x1)]) hX dX6_back_16 rfl (by decide) rfl ?_
    refine z_aload_n hX dX6_back_17 rfl 0 rfl ?_
    refine z_getI (k := 0) hX (z_img0 hs (z_imgin h2)) rfl rfl in_X6_back_X0 (by decide) lk_X6_back_f89 dX6_back_18 ?_
    refine z_if_ne (tgt := 27) hX dX6_back_21 (by decide) ?_ ?_
    · refine z_aload_n hX dX6_back_27 rfl 1 rfl ?_
      refine z_getR (k := 2) hX (z_bnk0 hs) rfl rfl in_X6_back_X6 (by decide) lk_X6_back_f26 dX6_back_28 ?_
      refine z_aload_n hX dX6_back_31 rfl 0 rfl ?_
      refine z_getR (k := 1) hX (z_img0 hs (z_imgin h2)) rfl rfl in_X6_back_X0 (by decide) lk_X6_back_f228 dX6_back_32 ?_
      refine z_callVV (n := 1) hX (c_X1_copyFrom M.2.1 V hX.2.2.2.2.2 hs 11 z_isled11 ((43 + 11 * x1.toNatClampNeg) + 1) (z_imgled (z_imgin h2)) r1.2) gX6_back_X1_copyFrom rfl (by decide +kernel) ⟨by decide, by decide⟩ rfl rfl (z_led0 hs z_isled11) rfl rfl rfl rfl (Nat.le_of_ble_eq_true rfl) dX6_back_35 (fun r3 _ => ?_)
      refine z_aload_n hX dX6_back_38 rfl 1 rfl ?_
      refine z_getR (k := 3) hX (z_bnk0 hs) rfl rfl in_X6_back_X6 (by decide) lk_X6_back_f33 dX6_back_39 ?_
      refine z_aload_n hX dX6_back_42 rfl 0 rfl ?_
      refine z_getR (k := 2) hX (z_img0 hs (z_imgin h2)) rfl rfl in_X6_back_X0 (by decide) lk_X6_back_f229 dX6_back_43 ?_
      refine z_callVV (n := 1) hX (c_X2_copyFrom M.2.1 V hX.2.2.2.2.2 hs 23 z_isnts23 ((43 + 11 * x1.toNatClampNeg) + 7) (z_imgnts (z_imgin h2)) r3.2) gX6_back_X2_copyFrom rfl (by decide +kernel) ⟨by decide, by decide⟩ rfl rfl (z_nts0 hs z_isnts23) rfl rfl rfl rfl (Nat.le_of_ble_eq_true rfl) dX6_back_46 (fun r4 _ => ?_)
      refine z_aload_n hX dX6_back_49 rfl 1 rfl ?_
      refine z_getR (k := 2) hX (z_bnk0 hs) rfl rfl in_X6_back_X6 (by decide) lk_X6_back_f26 dX6_back_50 ?_
      refine z_getI (k := 9) hX (z_led0 hs z_isled11) rfl rfl in_X6_back_X1 (by decide) lk_X6_back_f108 dX6_back_53 ?_
      exact z_iret hX dX6_back_56
    · refine z_bipush (v := -2) hX dX6_back_24 (by decide) ?_
      exact z_iret hX dX6_back_26
  · refine z_iconst (v := -1) hX dX6_back_8 (by decide) ?_
    exact z_iret hX dX6_back_9

abbrev rm_X6_sheet : Room := { frames := 2, cells := 0, slots := 0, locals := 45 }
theorem in_X6_sheet_X6 : ∀ w ∈ wsX60, w ∈ wsX6_sheet := fun w h => List.mem_cons_of_mem _ (List.mem_append_left _ (List.mem_append_right _ h))
theorem lk_X6_sheet_f52 : Cond.fieldLink RX6 52 (TX6 7).1 (TX6 7).2.1 (TX6 7).2.2.1 ∈ wsX6_sheet := by decide +kernel
set_option maxHeartbeats 4000000 in
set_option maxRecDepth 100000 in
theorem c_X6_sheet (l : Launch) (V : z_V) (hV : z_ok V) (hs : z_isX V) (x1 : Int32) (x2 : Int32) (x3 : Int32) (σ : z_St) : z_CtI l V yX6_sheet wsX6_sheet rm_X6_sheet [.ref (z_ad V 0), .int x1, .int x2, .int x3] σ (f_X6_sheet x1 x2 x3 σ) := by
  refine z_startI (lv := [(0, .ref (z_ad V 0)), (1, .int x1), (2, .int x2), (3, .int x3)]) hV (by decide) rfl (Nat.le_of_ble_eq_true rfl) rfl ?_
  intro M hM hX
  have hX : z_Cx M V cX6_sheet 4 (some .int) wsX6_sheet RX6 := hX
  unfold f_X6_sheet
  refine z_iload_n hX dX6_sheet_0 rfl 1 rfl ?_
  refine z_iconst (v := 3) hX dX6_sheet_1 (by decide) ?_
  refine z_callSI (n := 2) hX (c_X6_isWithin M.2.1 V hX.2.2.2.2.2 hs x1 (3 : Int32) σ) gX6_sheet_X6_isWithin rfl (by decide +kernel) ⟨by decide, by decide⟩ rfl rfl rfl rfl (Nat.le_of_ble_eq_true rfl) dX6_sheet_2 (fun r1 _ => ?_)
  refine z_if_eq (tgt := 22) hX dX6_sheet_5 (by decide) ?_ ?_
  · refine z_iconst (v := -1) hX dX6_sheet_22 (by decide) ?_
    exact z_iret hX dX6_sheet_23
  · refine z_iload_n hX dX6_sheet_8 rfl 2 rfl ?_
    refine z_iconst (v := 2) hX dX6_sheet_9 (by decide) ?_
    refine z_callSI (n := 2) hX (c_X6_isWithin M.2.1 V hX.2.2.2.2.2 hs x2 (2 : Int32) r1.2) gX6_sheet_X6_isWithin rfl (by decide +kernel) ⟨by decide, by decide⟩ rfl rfl rfl rfl (Nat.le_of_ble_eq_true rfl) dX6_sheet_10 (fun r2 _ => ?_)
    refine z_if_eq (tgt := 22) hX dX6_sheet_13 (by decide) ?_ ?_
    · refine z_iconst (v := -1) hX dX6_sheet_22 (by decide) ?_
      exact z_iret hX dX6_sheet_23
    · refine z_iload_n hX dX6_sheet_16 rfl 3 rfl ?_
      refine z_bipush (v := 40) hX dX6_sheet_17 (by decide) ?_
      refine z_icmp_le (tgt := 24) hX dX6_sheet_19 (by decide) ?_ ?_
      · refine z_iload_n hX dX6_sheet_24 rfl 3 rfl ?_
        refine z_if_ge (tgt := 31) hX dX6_sheet_25 (by decide) ?_ ?_
        · refine z_aload_n hX dX6_sheet_31 rfl 0 rfl ?_
          refine z_getR (k := 7) hX (z_bnk0 hs) rfl rfl in_X6_sheet_X6 (by decide) lk_X6_sheet_f52 dX6_sheet_32 ?_
          refine z_iload_n hX dX6_sheet_35 rfl 1 rfl ?_
          refine z_aald4 hX (z_bnk3 hs) dX6_sheet_36 (fun h3 => ?_)
          refine z_iload_n hX dX6_sheet_37 rfl 2 rfl ?_
          refine z_iload_n hX dX6_sheet_38 rfl 3 rfl ?_
          refine z_callVV (n := 2) hX (c_X4_renew M.2.1 V hX.2.2.2.2.2 hs (65 + 2 * x1.toNatClampNeg) (z_shein h3) x2 x3 r2.2) gX6_sheet_X4_renew rfl (by decide +kernel) ⟨by decide, by decide⟩ rfl rfl (z_she0 hs (z_shein h3)) rfl rfl rfl rfl (Nat.le_of_ble_eq_true rfl) dX6_sheet_39 (fun r4 _ => ?_)
          refine z_iconst (v := 1) hX dX6_sheet_42 (by decide) ?_
          exact z_iret hX dX6_sheet_43
        · refine z_bipush (v := -14) hX dX6_sheet_28 (by decide) ?_
          exact z_iret hX dX6_sheet_30
      · refine z_iconst (v := -1) hX dX6_sheet_22 (by decide) ?_
        exact z_iret hX dX6_sheet_23

abbrev rm_X6_lay : Room := { frames := 1, cells := 0, slots := 0, locals := 22 }
theorem in_X6_lay_X4 : ∀ w ∈ wsX40, w ∈ wsX6_lay := fun w h => List.mem_cons_of_mem _ (List.mem_append_right _ h)
theorem in_X6_lay_X6 : ∀ w ∈ wsX60, w ∈ wsX6_lay := fun w h => List.mem_cons_of_mem _ (List.mem_append_left _ (List.mem_append_right _ h))
theorem lk_X6_lay_f52 : Cond.fieldLink RX6 52 (TX6 7).1 (TX6 7).2.1 (TX6 7).2.2.1 ∈ wsX6_lay := by decide +kernel
theorem lk_X6_lay_f236 : Cond.fieldLink RX6 236 (TX4 0).1 (TX4 0).2.1 (TX4 0).2.2.1 ∈ wsX6_lay := by decide +kernel
set_option maxHeartbeats 4000000 in
set_option maxRecDepth 100000 in
theorem c_X6_lay (l : Launch) (V : z_V) (hV : z_ok V) (hs : z_isX V) (x1 : Int32) (x2 : Int32) (x3 : Int32) (σ : z_St) : z_CtI l V yX6_lay wsX6_lay rm_X6_lay [.ref (z_ad V 0), .int x1, .int x2, .int x3] σ (f_X6_lay x1 x2 x3 σ) := by
  refine z_startI (lv := [(0, .ref (z_ad V 0)), (1, .int x1), (2, .int x2), (3, .int x3)]) hV (by decide) rfl (Nat.le_of_ble_eq_true rfl) rfl ?_
  intro M hM hX
  have hX : z_Cx M V cX6_lay 6 (some .int) wsX6_lay RX6 := hX
  unfold f_X6_lay
  refine z_iload_n hX dX6_lay_0 rfl 1 rfl ?_
  refine z_iconst (v := 3) hX dX6_lay_1 (by decide) ?_
  refine z_callSI (n := 2) hX (c_X6_isWithin M.2.1 V hX.2.2.2.2.2 hs x1 (3 : Int32) σ) gX6_lay_X6_isWithin rfl (by decide +kernel) ⟨by decide, by decide⟩ rfl rfl rfl rfl (Nat.le_of_ble_eq_true rfl) dX6_lay_2 (fun r1 _ => ?_)
  refine z_if_ne (tgt := 10) hX dX6_lay_5 (by decide) ?_ ?_
  · refine z_aload_n hX dX6_lay_10 rfl 0 rfl ?_
    refine z_getR (k := 7) hX (z_bnk0 hs) rfl rfl in_X6_lay_X6 (by decide) lk_X6_lay_f52 dX6_lay_11 ?_
    refine z_iload_n hX dX6_lay_14 rfl 1 rfl ?_
    refine z_aald4 hX (z_bnk3 hs) dX6_lay_15 (fun h2 => ?_)
    refine z_astore (lv' := [(4, .ref (z_ad V (65 + 2 * x1.toNatClampNeg))), (0, .ref (z_ad V 0)), (1, .int x1), (2, .int x2), (3, .int x3)]) hX dX6_lay_16 (by decide) rfl ?_
    refine z_aload hX dX6_lay_18 0 rfl ?_
    refine z_aload hX dX6_lay_20 0 rfl ?_
    refine z_getI (k := 0) hX (z_she0 hs (z_shein h2)) rfl rfl in_X6_lay_X4 (by decide) lk_X6_lay_f236 dX6_lay_22 ?_
    refine z_iload_n hX dX6_lay_25 rfl 3 rfl ?_
    refine z_callVI (n := 2) hX (c_X4_faultAt M.2.1 V hX.2.2.2.2.2 hs (65 + 2 * x1.toNatClampNeg) (z_shein h2) (r1.2 (65 + 2 * x1.toNatClampNeg) 0) x2 r1.2) gX6_lay_X4_faultAt rfl (by decide +kernel) ⟨by decide, by decide⟩ rfl rfl (z_she0 hs (z_shein h2)) rfl rfl rfl rfl (Nat.le_of_ble_eq_true rfl) dX6_lay_26 (fun r3 _ => ?_)
    refine z_istore (lv' := [(5, .int r3.1), (4, .ref (z_ad V (65 + 2 * x1.toNatClampNeg))), (0, .ref (z_ad V 0)), (1, .int x1), (2, .int x2), (3, .int x3)]) hX dX6_lay_29 (by decide) rfl ?_
    refine z_iload hX dX6_lay_31 0 rfl ?_
    refine z_if_eq (tgt := 42) hX dX6_lay_33 (by decide) ?_ ?_
    · refine z_aload hX dX6_lay_42 1 rfl ?_
      refine z_iload_n hX dX6_lay_44 rfl 4 rfl ?_
      refine z_iload_n hX dX6_lay_45 rfl 5 rfl ?_
      refine z_callVV (n := 2) hX (c_X4_put M.2.1 V hX.2.2.2.2.2 hs (65 + 2 * x1.toNatClampNeg) (z_shein h2) x2 x3 r3.2) gX6_lay_X4_put rfl (by decide +kernel) ⟨by decide, by decide⟩ rfl rfl (z_she0 hs (z_shein h2)) rfl rfl rfl rfl (Nat.le_of_ble_eq_true rfl) dX6_lay_46 (fun r4 _ => ?_)
      refine z_iconst (v := 1) hX dX6_lay_49 (by decide) ?_
      exact z_iret hX dX6_lay_50
    · refine z_bipush (v := -10) hX dX6_lay_36 (by decide) ?_
      refine z_iload hX dX6_lay_38 0 rfl ?_
      refine z_isub hX dX6_lay_40 ?_
      exact z_iret hX dX6_lay_41
  · refine z_iconst (v := -1) hX dX6_lay_8 (by decide) ?_
    exact z_iret hX dX6_lay_9

abbrev rm_X6_read : Room := { frames := 2, cells := 0, slots := 0, locals := 61 }
theorem in_X6_read_X4 : ∀ w ∈ wsX40, w ∈ wsX6_read := fun w h => List.mem_cons_of_mem _ (List.mem_append_left _ (List.mem_append_right _ h))
theorem in_X6_read_X6 : ∀ w ∈ wsX60, w ∈ wsX6_read := fun w h => List.mem_cons_of_mem _ (List.mem_append_left _ (List.mem_append_left _ (List.mem_append_right _ h)))
theorem lk_X6_read_f52 : Cond.fieldLink RX6 52 (TX6 7).1 (TX6 7).2.1 (TX6 7).2.2.1 ∈ wsX6_read := by decide +kernel
theorem lk_X6_read_f37 : Cond.fieldLink RX6 37 (TX6 4).1 (TX6 4).2.1 (TX6 4).2.2.1 ∈ wsX6_read := by decide +kernel
theorem lk_X6_read_f26 : Cond.fieldLink RX6 26 (TX6 2).1 (TX6 2).2.1 (TX6 2).2.2.1 ∈ wsX6_read := by decide +kernel
theorem lk_X6_read_f251 : Cond.fieldLink RX6 251 (TX6 8).1 (TX6 8).2.1 (TX6 8).2.2.1 ∈ wsX6_read := by decide +kernel
theorem lk_X6_read_f248 : Cond.fieldLink RX6 248 (TX4 2).1 (TX4 2).2.1 (TX4 2).2.2.1 ∈ wsX6_read := by decide +kernel
set_option maxHeartbeats 4000000 in
set_option maxRecDepth 100000 in
theorem w_X6_read_134 (M : z_M) (V : z_V) (hs : z_isX V) (hX : z_Cx M V cX6_read 10 (some .int) wsX6_read RX6) (x6 : Int32) (x7 : Int32) (σ : z_St) : z_Go M rm_X6_read 10 V (z_QI V) σ 134 [(0, .ref (z_ad V 0)), (6, .int x6), (7, .int x7)] [] (f_X6_read_134 x6 x7 σ) := by
  unfold f_X6_read_134
  refine z_aload_n hX dX6_read_134 rfl 0 rfl ?_
  refine z_getR (k := 2) hX (z_bnk0 hs) rfl rfl in_X6_read_X6 (by decide) lk_X6_read_f26 dX6_read_135 ?_
  refine z_aload_n hX dX6_read_138 rfl 0 rfl ?_
  refine z_getR (k := 4) hX (z_bnk0 hs) rfl rfl in_X6_read_X6 (by decide) lk_X6_read_f37 dX6_read_139 ?_
  refine z_callVV (n := 1) hX (c_X1_copyFrom M.2.1 V hX.2.2.2.2.2 hs 11 z_isled11 17 z_isled17 σ) gX6_read_X1_copyFrom rfl (by decide +kernel) ⟨by decide, by decide⟩ rfl rfl (z_led0 hs z_isled11) rfl rfl rfl rfl (Nat.le_of_ble_eq_true rfl) dX6_read_142 (fun r6 _ => ?_)
  refine z_aload_n hX dX6_read_145 rfl 0 rfl ?_
  refine z_iload hX dX6_read_146 2 rfl ?_
  refine z_put1 (k := 8) hX (z_bnk0 hs) rfl rfl in_X6_read_X6 (by decide) lk_X6_read_f251 tyX6 tyX6_ok nmX6 rfl rfl rfl dX6_read_148 (z_bs fun s7 => ?_)
  refine z_iload hX dX6_read_151 1 rfl ?_
  exact z_iret hX dX6_read_153
set_option maxHeartbeats 4000000 in
set_option maxRecDepth 100000 in
theorem w_X6_read_56 (M : z_M) (V : z_V) (hs : z_isX V) (hX : z_Cx M V cX6_read 10 (some .int) wsX6_read RX6) : ∀ (n : Nat) (x2 : Int32) (x3 : Int32) (x4 : Int32) (x5 : Nat) (hx5 : z_She x5) (x6 : Int32) (x7 : Int32) (x8 : Int32) (σ : z_St), z_Go M rm_X6_read 10 V (z_QI V) σ 56 [(0, .ref (z_ad V 0)), (2, .int x2), (3, .int x3), (4, .int x4), (5, .ref (z_ad V x5)), (6, .int x6), (7, .int x7), (8, .int x8)] [] (f_X6_read_56 n x2 x3 x4 x5 x6 x7 x8 σ) := by
  intro n
  induction n with
  | zero => intro x2 x3 x4 x5 hx5 x6 x7 x8 σ; exact z_none
  | succ n ih =>
    intro x2 x3 x4 x5 hx5 x6 x7 x8 σ
    rw [f_X6_read_56]
    refine z_iload hX dX6_read_56 7 rfl ?_
    refine z_iload hX dX6_read_58 3 rfl ?_
    refine z_icmp_ge (tgt := 134) hX dX6_read_60 (by decide) ?_ ?_
    · refine z_sub [0, 5, 6] rfl ?_
      exact w_X6_read_134 M V hs hX x6 x7 σ
    · refine z_iload hX dX6_read_63 6 rfl ?_
      refine z_if_ne (tgt := 134) hX dX6_read_65 (by decide) ?_ ?_
      · refine z_sub [0, 5, 6] rfl ?_
        exact w_X6_read_134 M V hs hX x6 x7 σ
      · refine z_iload_n hX dX6_read_68 rfl 2 rfl ?_
        refine z_iconst (v := 2) hX dX6_read_69 (by decide) ?_
        refine z_iload hX dX6_read_70 7 rfl ?_
        refine z_imul hX dX6_read_72 ?_
        refine z_iadd hX dX6_read_73 ?_
        refine z_top (fun v8 => ?_)
        refine z_istore (lv' := [(9, .int v8), (0, .ref (z_ad V 0)), (2, .int x2), (3, .int x3), (4, .int x4), (5, .ref (z_ad V x5)), (6, .int x6), (7, .int x7), (8, .int x8)]) hX dX6_read_74 (by decide) rfl ?_
        refine z_aload hX dX6_read_76 5 rfl ?_
        refine z_iload_n hX dX6_read_78 rfl 2 rfl ?_
        refine z_iload hX dX6_read_79 0 rfl ?_
        refine z_callVI (n := 2) hX (c_X4_faultOfPair M.2.1 V hX.2.2.2.2.2 hs x5 hx5 x2 v8 σ) gX6_read_X4_faultOfPair rfl (by decide +kernel) ⟨by decide, by decide⟩ rfl rfl (z_she0 hs hx5) rfl rfl rfl rfl (Nat.le_of_ble_eq_true rfl) dX6_read_81 (fun r9 _ => ?_)
        refine z_istore (lv' := [(7, .int r9.1), (9, .int v8), (0, .ref (z_ad V 0)), (2, .int x2), (3, .int x3), (4, .int x4), (5, .ref (z_ad V x5)), (6, .int x6), (8, .int x8)]) hX dX6_read_84 (by decide) rfl ?_
        refine z_iload hX dX6_read_86 0 rfl ?_
        refine z_if_ne (tgt := 128) hX dX6_read_88 (by decide) ?_ ?_
        · refine z_iinc (v := (x8 + 1)) (lv' := [(8, .int (x8 + 1)), (7, .int r9.1), (9, .int v8), (0, .ref (z_ad V 0)), (2, .int x2), (3, .int x3), (4, .int x4), (5, .ref (z_ad V x5)), (6, .int x6)]) hX dX6_read_128 8 rfl rfl (by decide) rfl ?_
          refine z_goto (tgt := 56) hX dX6_read_131 (by decide) ?_
          refine z_sub [3, 4, 5, 6, 7, 8, 1, 0] rfl ?_
          exact ih x2 x3 x4 x5 hx5 x6 r9.1 (x8 + 1) r9.2
        · refine z_aload_n hX dX6_read_91 rfl 2 rfl ?_
          refine z_getR (k := 4) hX (z_bnk0 hs) rfl rfl in_X6_read_X6 (by decide) lk_X6_read_f37 dX6_read_92 ?_
          refine z_aload hX dX6_read_95 6 rfl ?_
          refine z_getR (k := 2) hX (z_she0 hs hx5) rfl rfl in_X6_read_X4 (by decide) lk_X6_read_f248 dX6_read_97 ?_
          refine z_iload hX dX6_read_100 1 rfl ?_
          refine z_iald hX (z_she1 hs hx5) dX6_read_102 ?_
          refine z_aload hX dX6_read_103 6 rfl ?_
          refine z_getR (k := 2) hX (z_she0 hs hx5) rfl rfl in_X6_read_X4 (by decide) lk_X6_read_f248 dX6_read_105 ?_
          refine z_iload hX dX6_read_108 1 rfl ?_
          refine z_iconst (v := 1) hX dX6_read_110 (by decide) ?_
          refine z_iadd hX dX6_read_111 ?_
          refine z_iald hX (z_she1 hs hx5) dX6_read_112 ?_
          refine z_callVI (n := 2) hX (c_X1_takeOut M.2.1 V hX.2.2.2.2.2 hs 17 z_isled17 (r9.2 (x5 + 1) v8.toNatClampNeg) (r9.2 (x5 + 1) (v8 + (1 : Int32)).toNatClampNeg) r9.2) gX6_read_X1_takeOut rfl (by decide +kernel) ⟨by decide, by decide⟩ rfl rfl (z_led0 hs z_isled17) rfl rfl rfl rfl (Nat.le_of_ble_eq_true rfl) dX6_read_113 (fun r10 _ => ?_)
          refine z_if_ge (tgt := 125) hX dX6_read_116 (by decide) ?_ ?_
          · refine z_iinc (v := (x6 + 1)) (lv' := [(6, .int (x6 + 1)), (7, .int r9.1), (9, .int v8), (0, .ref (z_ad V 0)), (2, .int x2), (3, .int x3), (4, .int x4), (5, .ref (z_ad V x5)), (8, .int x8)]) hX dX6_read_125 7 rfl rfl (by decide) rfl ?_
            refine z_iinc (v := (x8 + 1)) (lv' := [(8, .int (x8 + 1)), (6, .int (x6 + 1)), (7, .int r9.1), (9, .int v8), (0, .ref (z_ad V 0)), (2, .int x2), (3, .int x3), (4, .int x4), (5, .ref (z_ad V x5))]) hX dX6_read_128 8 rfl rfl (by decide) rfl ?_
            refine z_goto (tgt := 56) hX dX6_read_131 (by decide) ?_
            refine z_sub [4, 5, 6, 7, 8, 1, 2, 0] rfl ?_
            exact ih x2 x3 x4 x5 hx5 (x6 + 1) r9.1 (x8 + 1) r10.2
          · refine z_bipush (v := -20) hX dX6_read_119 (by decide) ?_
            refine z_iload hX dX6_read_121 8 rfl ?_
            refine z_isub hX dX6_read_123 ?_
            exact z_iret hX dX6_read_124
set_option maxHeartbeats 4000000 in
set_option maxRecDepth 100000 in
theorem c_X6_read (l : Launch) (V : z_V) (hV : z_ok V) (hs : z_isX V) (x1 : Int32) (x2 : Int32) (x3 : Int32) (x4 : Int32) (σ : z_St) : z_CtI l V yX6_read wsX6_read rm_X6_read [.ref (z_ad V 0), .int x1, .int x2, .int x3, .int x4] σ (f_X6_read x1 x2 x3 x4 σ) := by
  refine z_startI (lv := [(0, .ref (z_ad V 0)), (1, .int x1), (2, .int x2), (3, .int x3), (4, .int x4)]) hV (by decide) rfl (Nat.le_of_ble_eq_true rfl) rfl ?_
  intro M hM hX
  have hX : z_Cx M V cX6_read 10 (some .int) wsX6_read RX6 := hX
  unfold f_X6_read
  refine z_iload_n hX dX6_read_0 rfl 1 rfl ?_
  refine z_iconst (v := 3) hX dX6_read_1 (by decide) ?_
  refine z_callSI (n := 2) hX (c_X6_isWithin M.2.1 V hX.2.2.2.2.2 hs x1 (3 : Int32) σ) gX6_read_X6_isWithin rfl (by decide +kernel) ⟨by decide, by decide⟩ rfl rfl rfl rfl (Nat.le_of_ble_eq_true rfl) dX6_read_2 (fun r1 _ => ?_)
  refine z_if_eq (tgt := 26) hX dX6_read_5 (by decide) ?_ ?_
  · refine z_iconst (v := -1) hX dX6_read_26 (by decide) ?_
    exact z_iret hX dX6_read_27
  · refine z_iload_n hX dX6_read_8 rfl 2 rfl ?_
    refine z_iconst (v := 2) hX dX6_read_9 (by decide) ?_
    refine z_callSI (n := 2) hX (c_X6_isWithin M.2.1 V hX.2.2.2.2.2 hs x2 (2 : Int32) r1.2) gX6_read_X6_isWithin rfl (by decide +kernel) ⟨by decide, by decide⟩ rfl rfl rfl rfl (Nat.le_of_ble_eq_true rfl) dX6_read_10 (fun r2 _ => ?_)
    refine z_if_eq (tgt := 26) hX dX6_read_13 (by decide) ?_ ?_
    · refine z_iconst (v := -1) hX dX6_read_26 (by decide) ?_
      exact z_iret hX dX6_read_27
    · refine z_iload hX dX6_read_16 4 rfl ?_
      refine z_bipush (v := 20) hX dX6_read_18 (by decide) ?_
      refine z_callSI (n := 2) hX (c_X6_isWithin M.2.1 V hX.2.2.2.2.2 hs x4 (20 : Int32) r2.2) gX6_read_X6_isWithin rfl (by decide +kernel) ⟨by decide, by decide⟩ rfl rfl rfl rfl (Nat.le_of_ble_eq_true rfl) dX6_read_20 (fun r3 _ => ?_)
      refine z_if_ne (tgt := 28) hX dX6_read_23 (by decide) ?_ ?_
      · refine z_aload_n hX dX6_read_28 rfl 0 rfl ?_
        refine z_getR (k := 7) hX (z_bnk0 hs) rfl rfl in_X6_read_X6 (by decide) lk_X6_read_f52 dX6_read_29 ?_
        refine z_iload_n hX dX6_read_32 rfl 1 rfl ?_
        refine z_aald4 hX (z_bnk3 hs) dX6_read_33 (fun h4 => ?_)
        refine z_astore (lv' := [(5, .ref (z_ad V (65 + 2 * x1.toNatClampNeg))), (0, .ref (z_ad V 0)), (1, .int x1), (2, .int x2), (3, .int x3), (4, .int x4)]) hX dX6_read_34 (by decide) rfl ?_
        refine z_aload_n hX dX6_read_36 rfl 1 rfl ?_
        refine z_getR (k := 4) hX (z_bnk0 hs) rfl rfl in_X6_read_X6 (by decide) lk_X6_read_f37 dX6_read_37 ?_
        refine z_aload_n hX dX6_read_40 rfl 1 rfl ?_
        refine z_getR (k := 2) hX (z_bnk0 hs) rfl rfl in_X6_read_X6 (by decide) lk_X6_read_f26 dX6_read_41 ?_
        refine z_callVV (n := 1) hX (c_X1_copyFrom M.2.1 V hX.2.2.2.2.2 hs 17 z_isled17 11 z_isled11 r3.2) gX6_read_X1_copyFrom rfl (by decide +kernel) ⟨by decide, by decide⟩ rfl rfl (z_led0 hs z_isled17) rfl rfl rfl rfl (Nat.le_of_ble_eq_true rfl) dX6_read_44 (fun r5 _ => ?_)
        refine z_iconst (v := 0) hX dX6_read_47 (by decide) ?_
        refine z_istore (lv' := [(6, .int (0 : Int32)), (5, .ref (z_ad V (65 + 2 * x1.toNatClampNeg))), (0, .ref (z_ad V 0)), (1, .int x1), (2, .int x2), (3, .int x3), (4, .int x4)]) hX dX6_read_48 (by decide) rfl ?_
        refine z_iconst (v := 0) hX dX6_read_50 (by decide) ?_
        refine z_istore (lv' := [(7, .int (0 : Int32)), (6, .int (0 : Int32)), (5, .ref (z_ad V (65 + 2 * x1.toNatClampNeg))), (0, .ref (z_ad V 0)), (1, .int x1), (2, .int x2), (3, .int x3), (4, .int x4)]) hX dX6_read_51 (by decide) rfl ?_
        refine z_iconst (v := 0) hX dX6_read_53 (by decide) ?_
        refine z_istore (lv' := [(8, .int (0 : Int32)), (7, .int (0 : Int32)), (6, .int (0 : Int32)), (5, .ref (z_ad V (65 + 2 * x1.toNatClampNeg))), (0, .ref (z_ad V 0)), (1, .int x1), (2, .int x2), (3, .int x3), (4, .int x4)]) hX dX6_read_54 (by decide) rfl ?_
        refine z_sub [4, 6, 7, 8, 3, 2, 1, 0] rfl ?_
        exact w_X6_read_56 M V hs hX 200 x2 x3 x4 (65 + 2 * x1.toNatClampNeg) (z_shein h4) (0 : Int32) (0 : Int32) (0 : Int32) r5.2
      · refine z_iconst (v := -1) hX dX6_read_26 (by decide) ?_
        exact z_iret hX dX6_read_27

abbrev rm_X6_torn : Room := { frames := 0, cells := 0, slots := 0, locals := 0 }
theorem in_X6_torn_X6 : ∀ w ∈ wsX60, w ∈ wsX6_torn := fun w h => List.mem_cons_of_mem _ (List.mem_append_right _ h)
theorem lk_X6_torn_f251 : Cond.fieldLink RX6 251 (TX6 8).1 (TX6 8).2.1 (TX6 8).2.2.1 ∈ wsX6_torn := by decide +kernel
set_option maxHeartbeats 4000000 in
set_option maxRecDepth 100000 in
theorem c_X6_torn (l : Launch) (V : z_V) (hV : z_ok V) (hs : z_isX V) (σ : z_St) : z_CtI l V yX6_torn wsX6_torn rm_X6_torn [.ref (z_ad V 0)] σ (f_X6_torn σ) := by
  refine z_startI (lv := [(0, .ref (z_ad V 0))]) hV (by decide) rfl (Nat.le_of_ble_eq_true rfl) rfl ?_
  intro M hM hX
  have hX : z_Cx M V cX6_torn 1 (some .int) wsX6_torn RX6 := hX
  unfold f_X6_torn
  refine z_aload_n hX dX6_torn_0 rfl 0 rfl ?_
  refine z_getI (k := 8) hX (z_bnk0 hs) rfl rfl in_X6_torn_X6 (by decide) lk_X6_torn_f251 dX6_torn_1 ?_
  exact z_iret hX dX6_torn_4

abbrev rm_X6_count : Room := { frames := 1, cells := 0, slots := 0, locals := 22 }
theorem in_X6_count_X0 : ∀ w ∈ wsX00, w ∈ wsX6_count := fun w h => List.mem_cons_of_mem _ (List.mem_append_left _ (List.mem_append_left _ (List.mem_append_left _ (List.mem_append_right _ h))))
theorem in_X6_count_X2 : ∀ w ∈ wsX20, w ∈ wsX6_count := fun w h => List.mem_cons_of_mem _ (List.mem_append_left _ (List.mem_append_left _ (List.mem_append_left _ (List.mem_append_left _ (List.mem_append_right _ h)))))
theorem in_X6_count_X3 : ∀ w ∈ wsX30, w ∈ wsX6_count := fun w h => List.mem_cons_of_mem _ (List.mem_append_left _ (List.mem_append_left _ (List.mem_append_right _ h)))
theorem in_X6_count_X4 : ∀ w ∈ wsX40, w ∈ wsX6_count := fun w h => List.mem_cons_of_mem _ (List.mem_append_left _ (List.mem_append_right _ h))
theorem in_X6_count_X6 : ∀ w ∈ wsX60, w ∈ wsX6_count := fun w h => List.mem_cons_of_mem _ (List.mem_append_left _ (List.mem_append_left _ (List.mem_append_left _ (List.mem_append_left _ (List.mem_append_left _ (List.mem_append_right _ h))))))
theorem lk_X6_count_f26 : Cond.fieldLink RX6 26 (TX6 2).1 (TX6 2).2.1 (TX6 2).2.2.1 ∈ wsX6_count := by decide +kernel
theorem lk_X6_count_f33 : Cond.fieldLink RX6 33 (TX6 3).1 (TX6 3).2.1 (TX6 3).2.2.1 ∈ wsX6_count := by decide +kernel
theorem lk_X6_count_f86 : Cond.fieldLink RX6 86 (TX2 0).1 (TX2 0).2.1 (TX2 0).2.2.1 ∈ wsX6_count := by decide +kernel
theorem lk_X6_count_f46 : Cond.fieldLink RX6 46 (TX6 6).1 (TX6 6).2.1 (TX6 6).2.2.1 ∈ wsX6_count := by decide +kernel
theorem lk_X6_count_f89 : Cond.fieldLink RX6 89 (TX0 0).1 (TX0 0).2.1 (TX0 0).2.2.1 ∈ wsX6_count := by decide +kernel
theorem lk_X6_count_f10 : Cond.fieldLink RX6 10 (TX6 0).1 (TX6 0).2.1 (TX6 0).2.2.1 ∈ wsX6_count := by decide +kernel
theorem lk_X6_count_f66 : Cond.fieldLink RX6 66 (TX3 2).1 (TX3 2).2.1 (TX3 2).2.2.1 ∈ wsX6_count := by decide +kernel
theorem lk_X6_count_f52 : Cond.fieldLink RX6 52 (TX6 7).1 (TX6 7).2.1 (TX6 7).2.2.1 ∈ wsX6_count := by decide +kernel
theorem lk_X6_count_f236 : Cond.fieldLink RX6 236 (TX4 0).1 (TX4 0).2.1 (TX4 0).2.2.1 ∈ wsX6_count := by decide +kernel
theorem lk_X6_count_f254 : Cond.fieldLink RX6 254 (TX4 1).1 (TX4 1).2.1 (TX4 1).2.2.1 ∈ wsX6_count := by decide +kernel
set_option maxHeartbeats 4000000 in
set_option maxRecDepth 100000 in
theorem w_X6_count_81 (M : z_M) (V : z_V) (hs : z_isX V) (hX : z_Cx M V cX6_count 2 (some .int) wsX6_count RX6) (y0 : Int32) (σ : z_St) : z_Go M rm_X6_count 2 V (z_QI V) σ 81 [(0, .ref (z_ad V 0))] [.int y0] (f_X6_count_81 y0 σ) := by
  unfold f_X6_count_81
  refine z_aload_n hX dX6_count_81 rfl 0 rfl ?_
  refine z_getR (k := 6) hX (z_bnk0 hs) rfl rfl in_X6_count_X6 (by decide) lk_X6_count_f46 dX6_count_82 ?_
  refine z_iconst (v := 1) hX dX6_count_85 (by decide) ?_
  refine z_aald3c (j := 1) (d := 54) hX (z_bnk2 hs) (by decide) rfl dX6_count_86 ?_
  refine z_getI (k := 0) hX (z_img0 hs z_isimg54) rfl rfl in_X6_count_X0 (by decide) lk_X6_count_f89 dX6_count_87 ?_
  refine z_if_eq (tgt := 97) hX dX6_count_90 (by decide) ?_ ?_
  · refine z_iconst (v := 0) hX dX6_count_97 (by decide) ?_
    refine z_iadd hX dX6_count_98 ?_
    exact z_iret hX dX6_count_99
  · refine z_iconst (v := 1) hX dX6_count_93 (by decide) ?_
    refine z_goto (tgt := 98) hX dX6_count_94 (by decide) ?_
    refine z_iadd hX dX6_count_98 ?_
    exact z_iret hX dX6_count_99
set_option maxHeartbeats 4000000 in
set_option maxRecDepth 100000 in
theorem c_X6_count (l : Launch) (V : z_V) (hV : z_ok V) (hs : z_isX V) (x1 : Int32) (σ : z_St) : z_CtI l V yX6_count wsX6_count rm_X6_count [.ref (z_ad V 0), .int x1] σ (f_X6_count x1 σ) := by
  refine z_startI (lv := [(0, .ref (z_ad V 0)), (1, .int x1)]) hV (by decide) rfl (Nat.le_of_ble_eq_true rfl) rfl ?_
  intro M hM hX
  have hX : z_Cx M V cX6_count 2 (some .int) wsX6_count RX6 := hX
  unfold f_X6_count
  refine z_iload_n hX dX6_count_0 rfl 1 rfl ?_
  refine z_case (fun h1 => ?_) (fun h1 => ?_)
  · refine z_tabIn (tgt := 40) hX dX6_count_1 (0 : Int32) h1 (by decide) (by decide) rfl (by decide) ?_
    refine z_aload_n hX dX6_count_40 rfl 0 rfl ?_
    refine z_getR (k := 2) hX (z_bnk0 hs) rfl rfl in_X6_count_X6 (by decide) lk_X6_count_f26 dX6_count_41 ?_
    refine z_callVI (n := 0) hX (c_X1_sumInHand M.2.1 V hX.2.2.2.2.2 hs 11 z_isled11 σ) gX6_count_X1_sumInHand rfl (by decide +kernel) ⟨by decide, by decide⟩ rfl rfl (z_led0 hs z_isled11) rfl rfl rfl rfl (Nat.le_of_ble_eq_true rfl) dX6_count_44 (fun r2 _ => ?_)
    exact z_iret hX dX6_count_47
  · skip
    refine z_case (fun h3 => ?_) (fun h3 => ?_)
    · refine z_tabIn (tgt := 48) hX dX6_count_1 (1 : Int32) h3 (by decide) (by decide) rfl (by decide) ?_
      refine z_aload_n hX dX6_count_48 rfl 0 rfl ?_
      refine z_getR (k := 2) hX (z_bnk0 hs) rfl rfl in_X6_count_X6 (by decide) lk_X6_count_f26 dX6_count_49 ?_
      refine z_callVI (n := 0) hX (c_X1_sumAtBank M.2.1 V hX.2.2.2.2.2 hs 11 z_isled11 σ) gX6_count_X1_sumAtBank rfl (by decide +kernel) ⟨by decide, by decide⟩ rfl rfl (z_led0 hs z_isled11) rfl rfl rfl rfl (Nat.le_of_ble_eq_true rfl) dX6_count_52 (fun r4 _ => ?_)
      exact z_iret hX dX6_count_55
    · skip
      refine z_case (fun h5 => ?_) (fun h5 => ?_)
      · refine z_tabIn (tgt := 56) hX dX6_count_1 (2 : Int32) h5 (by decide) (by decide) rfl (by decide) ?_
        refine z_aload_n hX dX6_count_56 rfl 0 rfl ?_
        refine z_getR (k := 3) hX (z_bnk0 hs) rfl rfl in_X6_count_X6 (by decide) lk_X6_count_f33 dX6_count_57 ?_
        refine z_getI (k := 0) hX (z_nts0 hs z_isnts23) rfl rfl in_X6_count_X2 (by decide) lk_X6_count_f86 dX6_count_60 ?_
        exact z_iret hX dX6_count_63
      · skip
        refine z_case (fun h6 => ?_) (fun h6 => ?_)
        · refine z_tabIn (tgt := 64) hX dX6_count_1 (3 : Int32) h6 (by decide) (by decide) rfl (by decide) ?_
          refine z_aload_n hX dX6_count_64 rfl 0 rfl ?_
          refine z_getR (k := 6) hX (z_bnk0 hs) rfl rfl in_X6_count_X6 (by decide) lk_X6_count_f46 dX6_count_65 ?_
          refine z_iconst (v := 0) hX dX6_count_68 (by decide) ?_
          refine z_aald3c (j := 0) (d := 43) hX (z_bnk2 hs) (by decide) rfl dX6_count_69 ?_
          refine z_getI (k := 0) hX (z_img0 hs z_isimg43) rfl rfl in_X6_count_X0 (by decide) lk_X6_count_f89 dX6_count_70 ?_
          refine z_if_eq (tgt := 80) hX dX6_count_73 (by decide) ?_ ?_
          · refine z_iconst (v := 0) hX dX6_count_80 (by decide) ?_
            refine z_sub [0] rfl ?_
            exact w_X6_count_81 M V hs hX (0 : Int32) σ
          · refine z_iconst (v := 1) hX dX6_count_76 (by decide) ?_
            refine z_goto (tgt := 81) hX dX6_count_77 (by decide) ?_
            refine z_sub [0] rfl ?_
            exact w_X6_count_81 M V hs hX (1 : Int32) σ
        · skip
          refine z_case (fun h7 => ?_) (fun h7 => ?_)
          · refine z_tabIn (tgt := 100) hX dX6_count_1 (4 : Int32) h7 (by decide) (by decide) rfl (by decide) ?_
            refine z_aload_n hX dX6_count_100 rfl 0 rfl ?_
            refine z_getR (k := 0) hX (z_bnk0 hs) rfl rfl in_X6_count_X6 (by decide) lk_X6_count_f10 dX6_count_101 ?_
            refine z_getI (k := 2) hX (z_scr0 hs) rfl rfl in_X6_count_X3 (by decide) lk_X6_count_f66 dX6_count_104 ?_
            exact z_iret hX dX6_count_107
          · skip
            refine z_case (fun h8 => ?_) (fun h8 => ?_)
            · refine z_tabIn (tgt := 108) hX dX6_count_1 (5 : Int32) h8 (by decide) (by decide) rfl (by decide) ?_
              refine z_aload_n hX dX6_count_108 rfl 0 rfl ?_
              refine z_getR (k := 7) hX (z_bnk0 hs) rfl rfl in_X6_count_X6 (by decide) lk_X6_count_f52 dX6_count_109 ?_
              refine z_iconst (v := 0) hX dX6_count_112 (by decide) ?_
              refine z_aald4c (j := 0) (d := 65) hX (z_bnk3 hs) (by decide) rfl dX6_count_113 ?_
              refine z_getI (k := 0) hX (z_she0 hs z_isshe65) rfl rfl in_X6_count_X4 (by decide) lk_X6_count_f236 dX6_count_114 ?_
              refine z_iconst (v := -1) hX dX6_count_117 (by decide) ?_
              refine z_icmp_ne (tgt := 126) hX dX6_count_118 (by decide) ?_ ?_
              · refine z_aload_n hX dX6_count_126 rfl 0 rfl ?_
                refine z_getR (k := 7) hX (z_bnk0 hs) rfl rfl in_X6_count_X6 (by decide) lk_X6_count_f52 dX6_count_127 ?_
                refine z_iconst (v := 0) hX dX6_count_130 (by decide) ?_
                refine z_aald4c (j := 0) (d := 65) hX (z_bnk3 hs) (by decide) rfl dX6_count_131 ?_
                refine z_getI (k := 1) hX (z_she0 hs z_isshe65) rfl rfl in_X6_count_X4 (by decide) lk_X6_count_f254 dX6_count_132 ?_
                exact z_iret hX dX6_count_135
              · refine z_bipush (v := -4) hX dX6_count_121 (by decide) ?_
                refine z_goto (tgt := 135) hX dX6_count_123 (by decide) ?_
                exact z_iret hX dX6_count_135
            · skip
              refine z_tabOut (tgt := 136) hX dX6_count_1 (by have qh1 := lv_neT (a := 0) h1 (by decide); have qh3 := lv_neT (a := 1) h3 (by decide); have qh5 := lv_neT (a := 2) h5 (by decide); have qh6 := lv_neT (a := 3) h6 (by decide); have qh7 := lv_neT (a := 4) h7 (by decide); have qh8 := lv_neT (a := 5) h8 (by decide); omega) (by decide) ?_
              refine z_iconst (v := -1) hX dX6_count_136 (by decide) ?_
              exact z_iret hX dX6_count_137
