abbrev rm_X6_isOne : Room := { frames := 0, cells := 0, slots := 0, locals := 0 }
theorem in_X6_isOne_X1 : ∀ w ∈ wsX10, w ∈ wsX6_isOne := fun w h => List.mem_cons_of_mem _ (List.mem_append_right _ h)
theorem in_X6_isOne_X6 : ∀ w ∈ wsX60, w ∈ wsX6_isOne := fun w h => List.mem_cons_of_mem _ (List.mem_append_left _ (List.mem_append_right _ h))
theorem lk_X6_isOne_f26 : Cond.fieldLink RX6 26 (TX6 2).1 (TX6 2).2.1 (TX6 2).2.2.1 ∈ wsX6_isOne := by decide +kernel
theorem lk_X6_isOne_f93 : Cond.fieldLink RX6 93 (TX1 0).1 (TX1 0).2.1 (TX1 0).2.2.1 ∈ wsX6_isOne := by decide +kernel
set_option maxHeartbeats 4000000 in
set_option maxRecDepth 100000 in
theorem c_X6_isOne (l : Launch) (V : z_V) (hV : z_ok V) (hs : z_isX V) (x1 : Int32) (σ : z_St) : z_CtI l V yX6_isOne wsX6_isOne rm_X6_isOne [.ref (z_ad V 0), .int x1] σ (f_X6_isOne x1 σ) := by
  refine z_startI (lv := [(0, .ref (z_ad V 0)), (1, .int x1)]) hV (by decide) rfl (Nat.le_of_ble_eq_true rfl) rfl ?_
  intro M hM hX
  have hX : z_Cx M V cX6_isOne 2 (some .boolean) wsX6_isOne RX6 := hX
  unfold f_X6_isOne
  refine z_iload_n hX dX6_isOne_0 rfl 1 rfl ?_
  refine z_if_lt (tgt := 19) hX dX6_isOne_1 (by decide) ?_ ?_
  · refine z_iconst (v := 0) hX dX6_isOne_19 (by decide) ?_
    exact z_zret hX dX6_isOne_20 rfl
  · refine z_iload_n hX dX6_isOne_4 rfl 1 rfl ?_
    refine z_aload_n hX dX6_isOne_5 rfl 0 rfl ?_
    refine z_getR (k := 2) hX (z_bnk0 hs) rfl rfl in_X6_isOne_X6 (by decide) lk_X6_isOne_f26 dX6_isOne_6 ?_
    refine z_getI (k := 0) hX (z_led0 hs z_isled11) rfl rfl in_X6_isOne_X1 (by decide) lk_X6_isOne_f93 dX6_isOne_9 ?_
    refine z_icmp_ge (tgt := 19) hX dX6_isOne_12 (by decide) ?_ ?_
    · refine z_iconst (v := 0) hX dX6_isOne_19 (by decide) ?_
      exact z_zret hX dX6_isOne_20 rfl
    · refine z_iconst (v := 1) hX dX6_isOne_15 (by decide) ?_
      refine z_goto (tgt := 20) hX dX6_isOne_16 (by decide) ?_
      exact z_zret hX dX6_isOne_20 rfl

abbrev rm_X6_isIncident : Room := { frames := 0, cells := 0, slots := 0, locals := 0 }
theorem in_X6_isIncident_X5 : ∀ w ∈ wsX50, w ∈ wsX6_isIncident := fun w h => List.mem_cons_of_mem _ (List.mem_append_right _ h)
theorem in_X6_isIncident_X6 : ∀ w ∈ wsX60, w ∈ wsX6_isIncident := fun w h => List.mem_cons_of_mem _ (List.mem_append_left _ (List.mem_append_right _ h))
theorem lk_X6_isIncident_f19 : Cond.fieldLink RX6 19 (TX6 1).1 (TX6 1).2.1 (TX6 1).2.2.1 ∈ wsX6_isIncident := by decide +kernel
theorem lk_X6_isIncident_f96 : Cond.fieldLink RX6 96 (TX5 0).1 (TX5 0).2.1 (TX5 0).2.2.1 ∈ wsX6_isIncident := by decide +kernel
set_option maxHeartbeats 4000000 in
set_option maxRecDepth 100000 in
theorem c_X6_isIncident (l : Launch) (V : z_V) (hV : z_ok V) (hs : z_isX V) (x1 : Int32) (σ : z_St) : z_CtI l V yX6_isIncident wsX6_isIncident rm_X6_isIncident [.ref (z_ad V 0), .int x1] σ (f_X6_isIncident x1 σ) := by
  refine z_startI (lv := [(0, .ref (z_ad V 0)), (1, .int x1)]) hV (by decide) rfl (Nat.le_of_ble_eq_true rfl) rfl ?_
  intro M hM hX
  have hX : z_Cx M V cX6_isIncident 2 (some .boolean) wsX6_isIncident RX6 := hX
  unfold f_X6_isIncident
  refine z_iload_n hX dX6_isIncident_0 rfl 1 rfl ?_
  refine z_if_lt (tgt := 19) hX dX6_isIncident_1 (by decide) ?_ ?_
  · refine z_iconst (v := 0) hX dX6_isIncident_19 (by decide) ?_
    exact z_zret hX dX6_isIncident_20 rfl
  · refine z_iload_n hX dX6_isIncident_4 rfl 1 rfl ?_
    refine z_aload_n hX dX6_isIncident_5 rfl 0 rfl ?_
    refine z_getR (k := 1) hX (z_bnk0 hs) rfl rfl in_X6_isIncident_X6 (by decide) lk_X6_isIncident_f19 dX6_isIncident_6 ?_
    refine z_getI (k := 0) hX (z_sto0 hs z_issto4) rfl rfl in_X6_isIncident_X5 (by decide) lk_X6_isIncident_f96 dX6_isIncident_9 ?_
    refine z_icmp_ge (tgt := 19) hX dX6_isIncident_12 (by decide) ?_ ?_
    · refine z_iconst (v := 0) hX dX6_isIncident_19 (by decide) ?_
      exact z_zret hX dX6_isIncident_20 rfl
    · refine z_iconst (v := 1) hX dX6_isIncident_15 (by decide) ?_
      refine z_goto (tgt := 20) hX dX6_isIncident_16 (by decide) ?_
      exact z_zret hX dX6_isIncident_20 rfl

abbrev rm_X6_allIncidents : Room := { frames := 0, cells := 0, slots := 0, locals := 0 }
theorem in_X6_allIncidents_X5 : ∀ w ∈ wsX50, w ∈ wsX6_allIncidents := fun w h => List.mem_cons_of_mem _ (List.mem_append_right _ h)
theorem in_X6_allIncidents_X6 : ∀ w ∈ wsX60, w ∈ wsX6_allIncidents := fun w h => List.mem_cons_of_mem _ (List.mem_append_left _ (List.mem_append_right _ h))
theorem lk_X6_allIncidents_f19 : Cond.fieldLink RX6 19 (TX6 1).1 (TX6 1).2.1 (TX6 1).2.2.1 ∈ wsX6_allIncidents := by decide +kernel
theorem lk_X6_allIncidents_f96 : Cond.fieldLink RX6 96 (TX5 0).1 (TX5 0).2.1 (TX5 0).2.2.1 ∈ wsX6_allIncidents := by decide +kernel
set_option maxHeartbeats 4000000 in
set_option maxRecDepth 100000 in
theorem c_X6_allIncidents (l : Launch) (V : z_V) (hV : z_ok V) (hs : z_isX V) (σ : z_St) : z_CtI l V yX6_allIncidents wsX6_allIncidents rm_X6_allIncidents [.ref (z_ad V 0)] σ (f_X6_allIncidents σ) := by
  refine z_startI (lv := [(0, .ref (z_ad V 0))]) hV (by decide) rfl (Nat.le_of_ble_eq_true rfl) rfl ?_
  intro M hM hX
  have hX : z_Cx M V cX6_allIncidents 1 (some .int) wsX6_allIncidents RX6 := hX
  unfold f_X6_allIncidents
  refine z_iconst (v := 1) hX dX6_allIncidents_0 (by decide) ?_
  refine z_aload_n hX dX6_allIncidents_1 rfl 0 rfl ?_
  refine z_getR (k := 1) hX (z_bnk0 hs) rfl rfl in_X6_allIncidents_X6 (by decide) lk_X6_allIncidents_f19 dX6_allIncidents_2 ?_
  refine z_getI (k := 0) hX (z_sto0 hs z_issto4) rfl rfl in_X6_allIncidents_X5 (by decide) lk_X6_allIncidents_f96 dX6_allIncidents_5 ?_
  refine z_ishl hX dX6_allIncidents_8 ?_
  refine z_iconst (v := 1) hX dX6_allIncidents_9 (by decide) ?_
  refine z_isub hX dX6_allIncidents_10 ?_
  exact z_iret hX dX6_allIncidents_11

abbrev rm_X6_keepsThePast : Room := { frames := 0, cells := 0, slots := 0, locals := 0 }
theorem in_X6_keepsThePast_X1 : ∀ w ∈ wsX10, w ∈ wsX6_keepsThePast := fun w h => List.mem_cons_of_mem _ (List.mem_append_left _ (List.mem_append_right _ h))
theorem in_X6_keepsThePast_X5 : ∀ w ∈ wsX50, w ∈ wsX6_keepsThePast := fun w h => List.mem_cons_of_mem _ (List.mem_append_right _ h)
theorem in_X6_keepsThePast_X6 : ∀ w ∈ wsX60, w ∈ wsX6_keepsThePast := fun w h => List.mem_cons_of_mem _ (List.mem_append_left _ (List.mem_append_left _ (List.mem_append_right _ h)))
theorem lk_X6_keepsThePast_f26 : Cond.fieldLink RX6 26 (TX6 2).1 (TX6 2).2.1 (TX6 2).2.2.1 ∈ wsX6_keepsThePast := by decide +kernel
theorem lk_X6_keepsThePast_f111 : Cond.fieldLink RX6 111 (TX1 6).1 (TX1 6).2.1 (TX1 6).2.2.1 ∈ wsX6_keepsThePast := by decide +kernel
theorem lk_X6_keepsThePast_f19 : Cond.fieldLink RX6 19 (TX6 1).1 (TX6 1).2.1 (TX6 1).2.2.1 ∈ wsX6_keepsThePast := by decide +kernel
theorem lk_X6_keepsThePast_f96 : Cond.fieldLink RX6 96 (TX5 0).1 (TX5 0).2.1 (TX5 0).2.2.1 ∈ wsX6_keepsThePast := by decide +kernel
theorem lk_X6_keepsThePast_f136 : Cond.fieldLink RX6 136 (TX5 2).1 (TX5 2).2.1 (TX5 2).2.2.1 ∈ wsX6_keepsThePast := by decide +kernel
theorem lk_X6_keepsThePast_f108 : Cond.fieldLink RX6 108 (TX1 9).1 (TX1 9).2.1 (TX1 9).2.2.1 ∈ wsX6_keepsThePast := by decide +kernel
set_option maxHeartbeats 4000000 in
set_option maxRecDepth 100000 in
theorem w_X6_keepsThePast_12 (M : z_M) (V : z_V) (hs : z_isX V) (hX : z_Cx M V cX6_keepsThePast 4 (some .boolean) wsX6_keepsThePast RX6) : ∀ (n : Nat) (x2 : Int32) (x3 : Int32) (σ : z_St), z_Go M rm_X6_keepsThePast 4 V (z_QI V) σ 12 [(0, .ref (z_ad V 0)), (2, .int x2), (3, .int x3)] [] (f_X6_keepsThePast_12 n x2 x3 σ) := by
  intro n
  induction n with
  | zero => intro x2 x3 σ; exact z_none
  | succ n ih =>
    intro x2 x3 σ
    rw [f_X6_keepsThePast_12]
    refine z_iload_n hX dX6_keepsThePast_12 rfl 2 rfl ?_
    refine z_aload_n hX dX6_keepsThePast_13 rfl 0 rfl ?_
    refine z_getR (k := 1) hX (z_bnk0 hs) rfl rfl in_X6_keepsThePast_X6 (by decide) lk_X6_keepsThePast_f19 dX6_keepsThePast_14 ?_
    refine z_getI (k := 0) hX (z_sto0 hs z_issto4) rfl rfl in_X6_keepsThePast_X5 (by decide) lk_X6_keepsThePast_f96 dX6_keepsThePast_17 ?_
    refine z_icmp_ge (tgt := 59) hX dX6_keepsThePast_20 (by decide) ?_ ?_
    · refine z_iconst (v := 1) hX dX6_keepsThePast_59 (by decide) ?_
      exact z_zret hX dX6_keepsThePast_60 rfl
    · refine z_aload_n hX dX6_keepsThePast_23 rfl 0 rfl ?_
      refine z_getR (k := 1) hX (z_bnk0 hs) rfl rfl in_X6_keepsThePast_X6 (by decide) lk_X6_keepsThePast_f19 dX6_keepsThePast_24 ?_
      refine z_getR (k := 2) hX (z_sto0 hs z_issto4) rfl rfl in_X6_keepsThePast_X5 (by decide) lk_X6_keepsThePast_f136 dX6_keepsThePast_27 ?_
      refine z_iload_n hX dX6_keepsThePast_30 rfl 2 rfl ?_
      refine z_iald hX (z_sto2 hs z_issto4) dX6_keepsThePast_31 ?_
      refine z_aload_n hX dX6_keepsThePast_32 rfl 0 rfl ?_
      refine z_getR (k := 2) hX (z_bnk0 hs) rfl rfl in_X6_keepsThePast_X6 (by decide) lk_X6_keepsThePast_f26 dX6_keepsThePast_33 ?_
      refine z_getI (k := 9) hX (z_led0 hs z_isled11) rfl rfl in_X6_keepsThePast_X1 (by decide) lk_X6_keepsThePast_f108 dX6_keepsThePast_36 ?_
      refine z_icmp_ge (tgt := 53) hX dX6_keepsThePast_39 (by decide) ?_ ?_
      · refine z_iinc (v := (x3 + 1)) (lv' := [(3, .int (x3 + 1)), (0, .ref (z_ad V 0)), (2, .int x2)]) hX dX6_keepsThePast_53 2 rfl rfl (by decide) rfl ?_
        refine z_goto (tgt := 12) hX dX6_keepsThePast_56 (by decide) ?_
        refine z_sub [1, 2, 0] rfl ?_
        exact ih x2 (x3 + 1) σ
      · refine z_iload_n hX dX6_keepsThePast_42 rfl 1 rfl ?_
        refine z_iload_n hX dX6_keepsThePast_43 rfl 2 rfl ?_
        refine z_ishr hX dX6_keepsThePast_44 ?_
        refine z_iconst (v := 1) hX dX6_keepsThePast_45 (by decide) ?_
        refine z_iand hX dX6_keepsThePast_46 ?_
        refine z_iconst (v := 1) hX dX6_keepsThePast_47 (by decide) ?_
        refine z_icmp_ne (tgt := 53) hX dX6_keepsThePast_48 (by decide) ?_ ?_
        · refine z_iinc (v := (x3 + 1)) (lv' := [(3, .int (x3 + 1)), (0, .ref (z_ad V 0)), (2, .int x2)]) hX dX6_keepsThePast_53 2 rfl rfl (by decide) rfl ?_
          refine z_goto (tgt := 12) hX dX6_keepsThePast_56 (by decide) ?_
          refine z_sub [1, 2, 0] rfl ?_
          exact ih x2 (x3 + 1) σ
        · refine z_iconst (v := 0) hX dX6_keepsThePast_51 (by decide) ?_
          exact z_zret hX dX6_keepsThePast_52 rfl
set_option maxHeartbeats 4000000 in
set_option maxRecDepth 100000 in
theorem c_X6_keepsThePast (l : Launch) (V : z_V) (hV : z_ok V) (hs : z_isX V) (x1 : Int32) (σ : z_St) : z_CtI l V yX6_keepsThePast wsX6_keepsThePast rm_X6_keepsThePast [.ref (z_ad V 0), .int x1] σ (f_X6_keepsThePast x1 σ) := by
  refine z_startI (lv := [(0, .ref (z_ad V 0)), (1, .int x1)]) hV (by decide) rfl (Nat.le_of_ble_eq_true rfl) rfl ?_
  intro M hM hX
  have hX : z_Cx M V cX6_keepsThePast 4 (some .boolean) wsX6_keepsThePast RX6 := hX
  unfold f_X6_keepsThePast
  refine z_iload_n hX dX6_keepsThePast_0 rfl 1 rfl ?_
  refine z_aload_n hX dX6_keepsThePast_1 rfl 0 rfl ?_
  refine z_getR (k := 2) hX (z_bnk0 hs) rfl rfl in_X6_keepsThePast_X6 (by decide) lk_X6_keepsThePast_f26 dX6_keepsThePast_2 ?_
  refine z_getI (k := 6) hX (z_led0 hs z_isled11) rfl rfl in_X6_keepsThePast_X1 (by decide) lk_X6_keepsThePast_f111 dX6_keepsThePast_5 ?_
  refine z_ixor hX dX6_keepsThePast_8 ?_
  refine z_istore_n (lv' := [(2, .int (x1 ^^^ (σ 11 6))), (0, .ref (z_ad V 0)), (1, .int x1)]) hX dX6_keepsThePast_9 rfl (by decide) rfl ?_
  refine z_iconst (v := 0) hX dX6_keepsThePast_10 (by decide) ?_
  refine z_istore_n (lv' := [(3, .int (0 : Int32)), (2, .int (x1 ^^^ (σ 11 6))), (0, .ref (z_ad V 0)), (1, .int x1)]) hX dX6_keepsThePast_11 rfl (by decide) rfl ?_
  refine z_sub [2, 1, 0] rfl ?_
  exact w_X6_keepsThePast_12 M V hs hX 200 (x1 ^^^ (σ 11 6)) (0 : Int32) σ

abbrev rm_X6_isSmaller : Room := { frames := 1, cells := 0, slots := 0, locals := 20 }
set_option maxHeartbeats 4000000 in
set_option maxRecDepth 100000 in
theorem c_X6_isSmaller (l : Launch) (V : z_V) (hV : z_ok V) (hs : z_isX V) (x0 : Int32) (x1 : Int32) (σ : z_St) : z_CtI l V yX6_isSmaller wsX6_isSmaller rm_X6_isSmaller [.int x0, .int x1] σ (f_X6_isSmaller x0 x1 σ) := by
  refine z_startI (lv := [(0, .int x0), (1, .int x1)]) hV (by decide) rfl (Nat.le_of_ble_eq_true rfl) rfl ?_
  intro M hM hX
  have hX : z_Cx M V cX6_isSmaller 4 (some .boolean) wsX6_isSmaller RX6 := hX
  unfold f_X6_isSmaller
  refine z_iload_n hX dX6_isSmaller_0 rfl 0 rfl ?_
  refine z_callSI (n := 1) hX (c_J6_bitCount_0f7a4 M.2.1 V hX.2.2.2.2.2 x0 σ) gX6_isSmaller_J6_bitCount_0f7a4 rfl (by decide +kernel) ⟨by decide, by decide⟩ rfl rfl rfl rfl (Nat.le_of_ble_eq_true rfl) dX6_isSmaller_1 (fun r1 _ => ?_)
  refine z_istore_n (lv' := [(2, .int r1.1), (0, .int x0), (1, .int x1)]) hX dX6_isSmaller_4 rfl (by decide) rfl ?_
  refine z_iload_n hX dX6_isSmaller_5 rfl 2 rfl ?_
  refine z_callSI (n := 1) hX (c_J6_bitCount_0f7a4 M.2.1 V hX.2.2.2.2.2 x1 r1.2) gX6_isSmaller_J6_bitCount_0f7a4 rfl (by decide +kernel) ⟨by decide, by decide⟩ rfl rfl rfl rfl (Nat.le_of_ble_eq_true rfl) dX6_isSmaller_6 (fun r2 _ => ?_)
  refine z_istore_n (lv' := [(3, .int r2.1), (2, .int r1.1), (0, .int x0), (1, .int x1)]) hX dX6_isSmaller_9 rfl (by decide) rfl ?_
  refine z_iload_n hX dX6_isSmaller_10 rfl 1 rfl ?_
  refine z_iload_n hX dX6_isSmaller_11 rfl 0 rfl ?_
  refine z_icmp_lt (tgt := 25) hX dX6_isSmaller_12 (by decide) ?_ ?_
  · refine z_iconst (v := 1) hX dX6_isSmaller_25 (by decide) ?_
    refine z_goto (tgt := 30) hX dX6_isSmaller_26 (by decide) ?_
    exact z_zret hX dX6_isSmaller_30 rfl
  · refine z_iload_n hX dX6_isSmaller_15 rfl 1 rfl ?_
    refine z_iload_n hX dX6_isSmaller_16 rfl 0 rfl ?_
    refine z_icmp_ne (tgt := 29) hX dX6_isSmaller_17 (by decide) ?_ ?_
    · refine z_iconst (v := 0) hX dX6_isSmaller_29 (by decide) ?_
      exact z_zret hX dX6_isSmaller_30 rfl
    · refine z_iload_n hX dX6_isSmaller_20 rfl 2 rfl ?_
      refine z_iload_n hX dX6_isSmaller_21 rfl 3 rfl ?_
      refine z_icmp_ge (tgt := 29) hX dX6_isSmaller_22 (by decide) ?_ ?_
      · refine z_iconst (v := 0) hX dX6_isSmaller_29 (by decide) ?_
        exact z_zret hX dX6_isSmaller_30 rfl
      · refine z_iconst (v := 1) hX dX6_isSmaller_25 (by decide) ?_
        refine z_goto (tgt := 30) hX dX6_isSmaller_26 (by decide) ?_
        exact z_zret hX dX6_isSmaller_30 rfl

abbrev rm_X6_timesByPlan : Room := { frames := 5, cells := 0, slots := 0, locals := 115 }
theorem in_X6_timesByPlan_X1 : ∀ w ∈ wsX10, w ∈ wsX6_timesByPlan := fun w h => List.mem_cons_of_mem _ (List.mem_append_left _ (List.mem_append_right _ h))
theorem in_X6_timesByPlan_X6 : ∀ w ∈ wsX60, w ∈ wsX6_timesByPlan := fun w h => List.mem_cons_of_mem _ (List.mem_append_left _ (List.mem_append_left _ (List.mem_append_right _ h)))
theorem lk_X6_timesByPlan_f37 : Cond.fieldLink RX6 37 (TX6 4).1 (TX6 4).2.1 (TX6 4).2.2.1 ∈ wsX6_timesByPlan := by decide +kernel
theorem lk_X6_timesByPlan_f26 : Cond.fieldLink RX6 26 (TX6 2).1 (TX6 2).2.1 (TX6 2).2.2.1 ∈ wsX6_timesByPlan := by decide +kernel
theorem lk_X6_timesByPlan_f111 : Cond.fieldLink RX6 111 (TX1 6).1 (TX1 6).2.1 (TX1 6).2.2.1 ∈ wsX6_timesByPlan := by decide +kernel
theorem lk_X6_timesByPlan_f19 : Cond.fieldLink RX6 19 (TX6 1).1 (TX6 1).2.1 (TX6 1).2.2.1 ∈ wsX6_timesByPlan := by decide +kernel
set_option maxHeartbeats 4000000 in
set_option maxRecDepth 100000 in
theorem c_X6_timesByPlan (l : Launch) (V : z_V) (hV : z_ok V) (hs : z_isX V) (x1 : Int32) (σ : z_St) : z_CtI l V yX6_timesByPlan wsX6_timesByPlan rm_X6_timesByPlan [.ref (z_ad V 0), .int x1] σ (f_X6_timesByPlan x1 σ) := by
  refine z_startI (lv := [(0, .ref (z_ad V 0)), (1, .int x1)]) hV (by decide) rfl (Nat.le_of_ble_eq_true rfl) rfl ?_
  intro M hM hX
  have hX : z_Cx M V cX6_timesByPlan 2 (some .int) wsX6_timesByPlan RX6 := hX
  unfold f_X6_timesByPlan
  refine z_aload_n hX dX6_timesByPlan_0 rfl 0 rfl ?_
  refine z_getR (k := 4) hX (z_bnk0 hs) rfl rfl in_X6_timesByPlan_X6 (by decide) lk_X6_timesByPlan_f37 dX6_timesByPlan_1 ?_
  refine z_aload_n hX dX6_timesByPlan_4 rfl 0 rfl ?_
  refine z_getR (k := 2) hX (z_bnk0 hs) rfl rfl in_X6_timesByPlan_X6 (by decide) lk_X6_timesByPlan_f26 dX6_timesByPlan_5 ?_
  refine z_callVV (n := 1) hX (c_X1_copyFrom M.2.1 V hX.2.2.2.2.2 hs 17 z_isled17 11 z_isled11 σ) gX6_timesByPlan_X1_copyFrom rfl (by decide +kernel) ⟨by decide, by decide⟩ rfl rfl (z_led0 hs z_isled17) rfl rfl rfl rfl (Nat.le_of_ble_eq_true rfl) dX6_timesByPlan_8 (fun r1 _ => ?_)
  refine z_aload_n hX dX6_timesByPlan_11 rfl 0 rfl ?_
  refine z_getR (k := 4) hX (z_bnk0 hs) rfl rfl in_X6_timesByPlan_X6 (by decide) lk_X6_timesByPlan_f37 dX6_timesByPlan_12 ?_
  refine z_iload_n hX dX6_timesByPlan_15 rfl 1 rfl ?_
  refine z_put1 (k := 6) hX (z_led0 hs z_isled17) rfl rfl in_X6_timesByPlan_X1 (by decide) lk_X6_timesByPlan_f111 tyX1 tyX1_ok nmX1 rfl rfl rfl dX6_timesByPlan_16 (z_bs fun s2 => ?_)
  refine z_aload_n hX dX6_timesByPlan_19 rfl 0 rfl ?_
  refine z_getR (k := 4) hX (z_bnk0 hs) rfl rfl in_X6_timesByPlan_X6 (by decide) lk_X6_timesByPlan_f37 dX6_timesByPlan_20 ?_
  refine z_aload_n hX dX6_timesByPlan_23 rfl 0 rfl ?_
  refine z_getR (k := 1) hX (z_bnk0 hs) rfl rfl in_X6_timesByPlan_X6 (by decide) lk_X6_timesByPlan_f19 dX6_timesByPlan_24 ?_
  refine z_callVI (n := 1) hX (c_X1_passToLastWeek M.2.1 V hX.2.2.2.2.2 hs 17 z_isled17 4 z_issto4 s2) gX6_timesByPlan_X1_passToLastWeek rfl (by decide +kernel) ⟨by decide, by decide⟩ rfl rfl (z_led0 hs z_isled17) rfl rfl rfl rfl (Nat.le_of_ble_eq_true rfl) dX6_timesByPlan_27 (fun r3 _ => ?_)
  exact z_iret hX dX6_timesByPlan_30

abbrev rm_X6_timesByRumour : Room := { frames := 5, cells := 0, slots := 0, locals := 115 }
theorem in_X6_timesByRumour_X6 : ∀ w ∈ wsX60, w ∈ wsX6_timesByRumour := fun w h => List.mem_cons_of_mem _ (List.mem_append_left _ (List.mem_append_left _ (List.mem_append_right _ h)))
theorem lk_X6_timesByRumour_f37 : Cond.fieldLink RX6 37 (TX6 4).1 (TX6 4).2.1 (TX6 4).2.2.1 ∈ wsX6_timesByRumour := by decide +kernel
theorem lk_X6_timesByRumour_f26 : Cond.fieldLink RX6 26 (TX6 2).1 (TX6 2).2.1 (TX6 2).2.2.1 ∈ wsX6_timesByRumour := by decide +kernel
theorem lk_X6_timesByRumour_f19 : Cond.fieldLink RX6 19 (TX6 1).1 (TX6 1).2.1 (TX6 1).2.2.1 ∈ wsX6_timesByRumour := by decide +kernel
set_option maxHeartbeats 4000000 in
set_option maxRecDepth 100000 in
theorem c_X6_timesByRumour (l : Launch) (V : z_V) (hV : z_ok V) (hs : z_isX V) (x1 : Int32) (σ : z_St) : z_CtI l V yX6_timesByRumour wsX6_timesByRumour rm_X6_timesByRumour [.ref (z_ad V 0), .int x1] σ (f_X6_timesByRumour x1 σ) := by
  refine z_startI (lv := [(0, .ref (z_ad V 0)), (1, .int x1)]) hV (by decide) rfl (Nat.le_of_ble_eq_true rfl) rfl ?_
  intro M hM hX
  have hX : z_Cx M V cX6_timesByRumour 2 (some .int) wsX6_timesByRumour RX6 := hX
  unfold f_X6_timesByRumour
  refine z_aload_n hX dX6_timesByRumour_0 rfl 0 rfl ?_
  refine z_getR (k := 4) hX (z_bnk0 hs) rfl rfl in_X6_timesByRumour_X6 (by decide) lk_X6_timesByRumour_f37 dX6_timesByRumour_1 ?_
  refine z_aload_n hX dX6_timesByRumour_4 rfl 0 rfl ?_
  refine z_getR (k := 2) hX (z_bnk0 hs) rfl rfl in_X6_timesByRumour_X6 (by decide) lk_X6_timesByRumour_f26 dX6_timesByRumour_5 ?_
  refine z_callVV (n := 1) hX (c_X1_copyFrom M.2.1 V hX.2.2.2.2.2 hs 17 z_isled17 11 z_isled11 σ) gX6_timesByRumour_X1_copyFrom rfl (by decide +kernel) ⟨by decide, by decide⟩ rfl rfl (z_led0 hs z_isled17) rfl rfl rfl rfl (Nat.le_of_ble_eq_true rfl) dX6_timesByRumour_8 (fun r1 _ => ?_)
  refine z_aload_n hX dX6_timesByRumour_11 rfl 0 rfl ?_
  refine z_getR (k := 4) hX (z_bnk0 hs) rfl rfl in_X6_timesByRumour_X6 (by decide) lk_X6_timesByRumour_f37 dX6_timesByRumour_12 ?_
  refine z_aload_n hX dX6_timesByRumour_15 rfl 0 rfl ?_
  refine z_getR (k := 1) hX (z_bnk0 hs) rfl rfl in_X6_timesByRumour_X6 (by decide) lk_X6_timesByRumour_f19 dX6_timesByRumour_16 ?_
  refine z_iload_n hX dX6_timesByRumour_19 rfl 1 rfl ?_
  refine z_callVI (n := 2) hX (c_X1_spreadRumour M.2.1 V hX.2.2.2.2.2 hs 17 z_isled17 4 z_issto4 x1 r1.2) gX6_timesByRumour_X1_spreadRumour rfl (by decide +kernel) ⟨by decide, by decide⟩ rfl rfl (z_led0 hs z_isled17) rfl rfl rfl rfl (Nat.le_of_ble_eq_true rfl) dX6_timesByRumour_20 (fun r2 _ => ?_)
  refine z_pop hX dX6_timesByRumour_23 rfl ?_
  refine z_aload_n hX dX6_timesByRumour_24 rfl 0 rfl ?_
  refine z_getR (k := 4) hX (z_bnk0 hs) rfl rfl in_X6_timesByRumour_X6 (by decide) lk_X6_timesByRumour_f37 dX6_timesByRumour_25 ?_
  refine z_aload_n hX dX6_timesByRumour_28 rfl 0 rfl ?_
  refine z_getR (k := 1) hX (z_bnk0 hs) rfl rfl in_X6_timesByRumour_X6 (by decide) lk_X6_timesByRumour_f19 dX6_timesByRumour_29 ?_
  refine z_callVI (n := 1) hX (c_X1_passToLastWeek M.2.1 V hX.2.2.2.2.2 hs 17 z_isled17 4 z_issto4 r2.2) gX6_timesByRumour_X1_passToLastWeek rfl (by decide +kernel) ⟨by decide, by decide⟩ rfl rfl (z_led0 hs z_isled17) rfl rfl rfl rfl (Nat.le_of_ble_eq_true rfl) dX6_timesByRumour_32 (fun r3 _ => ?_)
  exact z_iret hX dX6_timesByRumour_35

abbrev rm_X6_staysModest : Room := { frames := 4, cells := 0, slots := 0, locals := 92 }
theorem in_X6_staysModest_X1 : ∀ w ∈ wsX10, w ∈ wsX6_staysModest := fun w h => List.mem_cons_of_mem _ (List.mem_append_left _ (List.mem_append_right _ h))
theorem in_X6_staysModest_X6 : ∀ w ∈ wsX60, w ∈ wsX6_staysModest := fun w h => List.mem_cons_of_mem _ (List.mem_append_left _ (List.mem_append_left _ (List.mem_append_right _ h)))
theorem lk_X6_staysModest_f37 : Cond.fieldLink RX6 37 (TX6 4).1 (TX6 4).2.1 (TX6 4).2.2.1 ∈ wsX6_staysModest := by decide +kernel
theorem lk_X6_staysModest_f108 : Cond.fieldLink RX6 108 (TX1 9).1 (TX1 9).2.1 (TX1 9).2.2.1 ∈ wsX6_staysModest := by decide +kernel
theorem lk_X6_staysModest_m262 : Cond.methodLink RX6 262 Lib.Math.min.name ∈ wsX6_staysModest := by decide +kernel
theorem lk_X6_staysModest_mS : Cond.static Lib.Math.min.name ∈ wsX6_staysModest := by decide +kernel
theorem lk_X6_staysModest_mI : Cond.initialized "java/lang/Math" ∈ wsX6_staysModest := by decide +kernel
theorem lk_X6_staysModest_mC : Cond.code Lib.Math.min.name Lib.Math.min.code 2 (some .int) ∈ wsX6_staysModest := by decide +kernel
theorem lk_X6_staysModest_f19 : Cond.fieldLink RX6 19 (TX6 1).1 (TX6 1).2.1 (TX6 1).2.2.1 ∈ wsX6_staysModest := by decide +kernel
set_option maxHeartbeats 4000000 in
set_option maxRecDepth 100000 in
theorem w_X6_staysModest_17 (M : z_M) (V : z_V) (hs : z_isX V) (hX : z_Cx M V cX6_staysModest 4 (some .boolean) wsX6_staysModest RX6) : ∀ (n : Nat) (x2 : Int32) (x3 : Int32) (σ : z_St), z_Go M rm_X6_staysModest 4 V (z_QI V) σ 17 [(0, .ref (z_ad V 0)), (2, .int x2), (3, .int x3)] [] (f_X6_staysModest_17 n x2 x3 σ) := by
  intro n
  induction n with
  | zero => intro x2 x3 σ; exact z_none
  | succ n ih =>
    intro x2 x3 σ
    rw [f_X6_staysModest_17]
    refine z_iload_n hX dX6_staysModest_17 rfl 2 rfl ?_
    refine z_iload_n hX dX6_staysModest_18 rfl 1 rfl ?_
    refine z_icmp_ge (tgt := 44) hX dX6_staysModest_19 (by decide) ?_ ?_
    · refine z_iconst (v := 1) hX dX6_staysModest_44 (by decide) ?_
      exact z_zret hX dX6_staysModest_45 rfl
    · refine z_aload_n hX dX6_staysModest_22 rfl 0 rfl ?_
      refine z_getR (k := 4) hX (z_bnk0 hs) rfl rfl in_X6_staysModest_X6 (by decide) lk_X6_staysModest_f37 dX6_staysModest_23 ?_
      refine z_aload_n hX dX6_staysModest_26 rfl 0 rfl ?_
      refine z_getR (k := 1) hX (z_bnk0 hs) rfl rfl in_X6_staysModest_X6 (by decide) lk_X6_staysModest_f19 dX6_staysModest_27 ?_
      refine z_callVI (n := 1) hX (c_X1_passWeek M.2.1 V hX.2.2.2.2.2 hs 17 z_isled17 4 z_issto4 σ) gX6_staysModest_X1_passWeek rfl (by decide +kernel) ⟨by decide, by decide⟩ rfl rfl (z_led0 hs z_isled17) rfl rfl rfl rfl (Nat.le_of_ble_eq_true rfl) dX6_staysModest_30 (fun r2 _ => ?_)
      refine z_if_le (tgt := 38) hX dX6_staysModest_33 (by decide) ?_ ?_
      · refine z_iinc (v := (x3 + 1)) (lv' := [(3, .int (x3 + 1)), (0, .ref (z_ad V 0)), (2, .int x2)]) hX dX6_staysModest_38 2 rfl rfl (by decide) rfl ?_
        refine z_goto (tgt := 17) hX dX6_staysModest_41 (by decide) ?_
        refine z_sub [1, 2, 0] rfl ?_
        exact ih x2 (x3 + 1) r2.2
      · refine z_iconst (v := 0) hX dX6_staysModest_36 (by decide) ?_
        exact z_zret hX dX6_staysModest_37 rfl
set_option maxHeartbeats 4000000 in
set_option maxRecDepth 100000 in
theorem c_X6_staysModest (l : Launch) (V : z_V) (hV : z_ok V) (hs : z_isX V) (x1 : Int32) (σ : z_St) : z_CtI l V yX6_staysModest wsX6_staysModest rm_X6_staysModest [.ref (z_ad V 0), .int x1] σ (f_X6_staysModest x1 σ) := by
  refine z_startI (lv := [(0, .ref (z_ad V 0)), (1, .int x1)]) hV (by decide) rfl (Nat.le_of_ble_eq_true rfl) rfl ?_
  intro M hM hX
  have hX : z_Cx M V cX6_staysModest 4 (some .boolean) wsX6_staysModest RX6 := hX
  unfold f_X6_staysModest
  refine z_iload_n hX dX6_staysModest_0 rfl 1 rfl ?_
  refine z_bipush (v := 10) hX dX6_staysModest_1 (by decide) ?_
  refine z_aload_n hX dX6_staysModest_3 rfl 0 rfl ?_
  refine z_getR (k := 4) hX (z_bnk0 hs) rfl rfl in_X6_staysModest_X6 (by decide) lk_X6_staysModest_f37 dX6_staysModest_4 ?_
  refine z_getI (k := 9) hX (z_led0 hs z_isled17) rfl rfl in_X6_staysModest_X1 (by decide) lk_X6_staysModest_f108 dX6_staysModest_7 ?_
  refine z_isub hX dX6_staysModest_10 ?_
  refine z_mmin hX lk_X6_staysModest_m262 lk_X6_staysModest_mS lk_X6_staysModest_mI lk_X6_staysModest_mC (by decide) (Nat.le_of_ble_eq_true rfl) dX6_staysModest_11 ?_
  refine z_top (fun v1 => ?_)
  refine z_istore_n (lv' := [(2, .int v1), (0, .ref (z_ad V 0)), (1, .int x1)]) hX dX6_staysModest_14 rfl (by decide) rfl ?_
  refine z_iconst (v := 0) hX dX6_staysModest_15 (by decide) ?_
  refine z_istore_n (lv' := [(3, .int (0 : Int32)), (2, .int v1), (0, .ref (z_ad V 0)), (1, .int x1)]) hX dX6_staysModest_16 rfl (by decide) rfl ?_
  refine z_sub [2, 1, 0] rfl ?_
  exact w_X6_staysModest_17 M V hs hX 200 v1 (0 : Int32) σ

abbrev rm_X6_isAsNoted : Room := { frames := 4, cells := 0, slots := 0, locals := 92 }
theorem in_X6_isAsNoted_X1 : ∀ w ∈ wsX10, w ∈ wsX6_isAsNoted := fun w h => List.mem_cons_of_mem _ (List.mem_append_left _ (List.mem_append_left _ (List.mem_append_right _ h)))
theorem in_X6_isAsNoted_X6 : ∀ w ∈ wsX60, w ∈ wsX6_isAsNoted := fun w h => List.mem_cons_of_mem _ (List.mem_append_left _ (List.mem_append_left _ (List.mem_append_left _ (List.mem_append_right _ h))))
theorem lk_X6_isAsNoted_f37 : Cond.fieldLink RX6 37 (TX6 4).1 (TX6 4).2.1 (TX6 4).2.2.1 ∈ wsX6_isAsNoted := by decide +kernel
theorem lk_X6_isAsNoted_f26 : Cond.fieldLink RX6 26 (TX6 2).1 (TX6 2).2.1 (TX6 2).2.2.1 ∈ wsX6_isAsNoted := by decide +kernel
theorem lk_X6_isAsNoted_f111 : Cond.fieldLink RX6 111 (TX1 6).1 (TX1 6).2.1 (TX1 6).2.2.1 ∈ wsX6_isAsNoted := by decide +kernel
theorem lk_X6_isAsNoted_f108 : Cond.fieldLink RX6 108 (TX1 9).1 (TX1 9).2.1 (TX1 9).2.2.1 ∈ wsX6_isAsNoted := by decide +kernel
theorem lk_X6_isAsNoted_f19 : Cond.fieldLink RX6 19 (TX6 1).1 (TX6 1).2.1 (TX6 1).2.2.1 ∈ wsX6_isAsNoted := by decide +kernel
theorem lk_X6_isAsNoted_f33 : Cond.fieldLink RX6 33 (TX6 3).1 (TX6 3).2.1 (TX6 3).2.2.1 ∈ wsX6_isAsNoted := by decide +kernel
theorem lk_X6_isAsNoted_f175 : Cond.fieldLink RX6 175 (TX1 10).1 (TX1 10).2.1 (TX1 10).2.2.1 ∈ wsX6_isAsNoted := by decide +kernel
set_option maxHeartbeats 4000000 in
set_option maxRecDepth 100000 in
theorem w_X6_isAsNoted_27 (M : z_M) (V : z_V) (hs : z_isX V) (hX : z_Cx M V cX6_isAsNoted 3 (some .boolean) wsX6_isAsNoted RX6) : ∀ (n : Nat) (x2 : Int32) (σ : z_St), z_Go M rm_X6_isAsNoted 3 V (z_QI V) σ 27 [(0, .ref (z_ad V 0)), (2, .int x2)] [] (f_X6_isAsNoted_27 n x2 σ) := by
  intro n
  induction n with
  | zero => intro x2 σ; exact z_none
  | succ n ih =>
    intro x2 σ
    rw [f_X6_isAsNoted_27]
    refine z_iload_n hX dX6_isAsNoted_27 rfl 1 rfl ?_
    refine z_bipush (v := 9) hX dX6_isAsNoted_28 (by decide) ?_
    refine z_icmp_gt (tgt := 71) hX dX6_isAsNoted_30 (by decide) ?_ ?_
    · refine z_iconst (v := 1) hX dX6_isAsNoted_71 (by decide) ?_
      exact z_zret hX dX6_isAsNoted_72 rfl
    · refine z_aload_n hX dX6_isAsNoted_33 rfl 0 rfl ?_
      refine z_getR (k := 4) hX (z_bnk0 hs) rfl rfl in_X6_isAsNoted_X6 (by decide) lk_X6_isAsNoted_f37 dX6_isAsNoted_34 ?_
      refine z_aload_n hX dX6_isAsNoted_37 rfl 0 rfl ?_
      refine z_getR (k := 1) hX (z_bnk0 hs) rfl rfl in_X6_isAsNoted_X6 (by decide) lk_X6_isAsNoted_f19 dX6_isAsNoted_38 ?_
      refine z_callVI (n := 1) hX (c_X1_passWeek M.2.1 V hX.2.2.2.2.2 hs 17 z_isled17 4 z_issto4 σ) gX6_isAsNoted_X1_passWeek rfl (by decide +kernel) ⟨by decide, by decide⟩ rfl rfl (z_led0 hs z_isled17) rfl rfl rfl rfl (Nat.le_of_ble_eq_true rfl) dX6_isAsNoted_41 (fun r3 _ => ?_)
      refine z_pop hX dX6_isAsNoted_44 rfl ?_
      refine z_aload_n hX dX6_isAsNoted_45 rfl 0 rfl ?_
      refine z_getR (k := 3) hX (z_bnk0 hs) rfl rfl in_X6_isAsNoted_X6 (by decide) lk_X6_isAsNoted_f33 dX6_isAsNoted_46 ?_
      refine z_iload_n hX dX6_isAsNoted_49 rfl 1 rfl ?_
      refine z_aload_n hX dX6_isAsNoted_50 rfl 0 rfl ?_
      refine z_getR (k := 4) hX (z_bnk0 hs) rfl rfl in_X6_isAsNoted_X6 (by decide) lk_X6_isAsNoted_f37 dX6_isAsNoted_51 ?_
      refine z_getI (k := 10) hX (z_led0 hs z_isled17) rfl rfl in_X6_isAsNoted_X1 (by decide) lk_X6_isAsNoted_f175 dX6_isAsNoted_54 ?_
      refine z_callVI (n := 2) hX (c_X2_agree M.2.1 V hX.2.2.2.2.2 hs 23 z_isnts23 x2 (r3.2 17 10) r3.2) gX6_isAsNoted_X2_agree rfl (by decide +kernel) ⟨by decide, by decide⟩ rfl rfl (z_nts0 hs z_isnts23) rfl rfl rfl rfl (Nat.le_of_ble_eq_true rfl) dX6_isAsNoted_57 (fun r4 _ => ?_)
      refine z_if_ne (tgt := 65) hX dX6_isAsNoted_60 (by decide) ?_ ?_
      · refine z_iinc (v := (x2 + 1)) (lv' := [(2, .int (x2 + 1)), (0, .ref (z_ad V 0))]) hX dX6_isAsNoted_65 1 rfl rfl (by decide) rfl ?_
        refine z_goto (tgt := 27) hX dX6_isAsNoted_68 (by decide) ?_
        refine z_sub [1, 0] rfl ?_
        exact ih (x2 + 1) r4.2
      · refine z_iconst (v := 0) hX dX6_isAsNoted_63 (by decide) ?_
        exact z_zret hX dX6_isAsNoted_64 rfl
set_option maxHeartbeats 4000000 in
set_option maxRecDepth 100000 in
theorem c_X6_isAsNoted (l : Launch) (V : z_V) (hV : z_ok V) (hs : z_isX V) (x1 : Int32) (σ : z_St) : z_CtI l V yX6_isAsNoted wsX6_isAsNoted rm_X6_isAsNoted [.ref (z_ad V 0), .int x1] σ (f_X6_isAsNoted x1 σ) := by
  refine z_startI (lv := [(0, .ref (z_ad V 0)), (1, .int x1)]) hV (by decide) rfl (Nat.le_of_ble_eq_true rfl) rfl ?_
  intro M hM hX
  have hX : z_Cx M V cX6_isAsNoted 3 (some .boolean) wsX6_isAsNoted RX6 := hX
  unfold f_X6_isAsNoted
  refine z_aload_n hX dX6_isAsNoted_0 rfl 0 rfl ?_
  refine z_getR (k := 4) hX (z_bnk0 hs) rfl rfl in_X6_isAsNoted_X6 (by decide) lk_X6_isAsNoted_f37 dX6_isAsNoted_1 ?_
  refine z_aload_n hX dX6_isAsNoted_4 rfl 0 rfl ?_
  refine z_getR (k := 2) hX (z_bnk0 hs) rfl rfl in_X6_isAsNoted_X6 (by decide) lk_X6_isAsNoted_f26 dX6_isAsNoted_5 ?_
  refine z_callVV (n := 1) hX (c_X1_copyFrom M.2.1 V hX.2.2.2.2.2 hs 17 z_isled17 11 z_isled11 σ) gX6_isAsNoted_X1_copyFrom rfl (by decide +kernel) ⟨by decide, by decide⟩ rfl rfl (z_led0 hs z_isled17) rfl rfl rfl rfl (Nat.le_of_ble_eq_true rfl) dX6_isAsNoted_8 (fun r1 _ => ?_)
  refine z_aload_n hX dX6_isAsNoted_11 rfl 0 rfl ?_
  refine z_getR (k := 4) hX (z_bnk0 hs) rfl rfl in_X6_isAsNoted_X6 (by decide) lk_X6_isAsNoted_f37 dX6_isAsNoted_12 ?_
  refine z_iload_n hX dX6_isAsNoted_15 rfl 1 rfl ?_
  refine z_put1 (k := 6) hX (z_led0 hs z_isled17) rfl rfl in_X6_isAsNoted_X1 (by decide) lk_X6_isAsNoted_f111 tyX1 tyX1_ok nmX1 rfl rfl rfl dX6_isAsNoted_16 (z_bs fun s2 => ?_)
  refine z_aload_n hX dX6_isAsNoted_19 rfl 0 rfl ?_
  refine z_getR (k := 2) hX (z_bnk0 hs) rfl rfl in_X6_isAsNoted_X6 (by decide) lk_X6_isAsNoted_f26 dX6_isAsNoted_20 ?_
  refine z_getI (k := 9) hX (z_led0 hs z_isled11) rfl rfl in_X6_isAsNoted_X1 (by decide) lk_X6_isAsNoted_f108 dX6_isAsNoted_23 ?_
  refine z_istore_n (lv' := [(2, .int (s2 11 9)), (0, .ref (z_ad V 0)), (1, .int x1)]) hX dX6_isAsNoted_26 rfl (by decide) rfl ?_
  refine z_sub [1, 0] rfl ?_
  exact w_X6_isAsNoted_27 M V hs hX 200 (s2 11 9) s2

abbrev rm_X6_feed : Room := { frames := 1, cells := 0, slots := 0, locals := 21 }
theorem in_X6_feed_X6 : ∀ w ∈ wsX60, w ∈ wsX6_feed := fun w h => List.mem_cons_of_mem _ (List.mem_append_left _ (List.mem_append_right _ h))
theorem lk_X6_feed_f10 : Cond.fieldLink RX6 10 (TX6 0).1 (TX6 0).2.1 (TX6 0).2.2.1 ∈ wsX6_feed := by decide +kernel
set_option maxHeartbeats 4000000 in
set_option maxRecDepth 100000 in
theorem c_X6_feed (l : Launch) (V : z_V) (hV : z_ok V) (hs : z_isX V) (x1 : Int32) (σ : z_St) : z_CtI l V yX6_feed wsX6_feed rm_X6_feed [.ref (z_ad V 0), .int x1] σ (f_X6_feed x1 σ) := by
  refine z_startI (lv := [(0, .ref (z_ad V 0)), (1, .int x1)]) hV (by decide) rfl (Nat.le_of_ble_eq_true rfl) rfl ?_
  intro M hM hX
  have hX : z_Cx M V cX6_feed 2 (some .int) wsX6_feed RX6 := hX
  unfold f_X6_feed
  refine z_iload_n hX dX6_feed_0 rfl 1 rfl ?_
  refine z_bipush (v := 127) hX dX6_feed_1 (by decide) ?_
  refine z_callSI (n := 2) hX (c_X6_isWithin M.2.1 V hX.2.2.2.2.2 hs x1 (127 : Int32) σ) gX6_feed_X6_isWithin rfl (by decide +kernel) ⟨by decide, by decide⟩ rfl rfl rfl rfl (Nat.le_of_ble_eq_true rfl) dX6_feed_3 (fun r1 _ => ?_)
  refine z_if_ne (tgt := 11) hX dX6_feed_6 (by decide) ?_ ?_
  · refine z_aload_n hX dX6_feed_11 rfl 0 rfl ?_
    refine z_getR (k := 0) hX (z_bnk0 hs) rfl rfl in_X6_feed_X6 (by decide) lk_X6_feed_f10 dX6_feed_12 ?_
    refine z_iload_n hX dX6_feed_15 rfl 1 rfl ?_
    refine z_callVI (n := 1) hX (c_X3_append M.2.1 V hX.2.2.2.2.2 hs x1 r1.2) gX6_feed_X3_append rfl (by decide +kernel) ⟨by decide, by decide⟩ rfl rfl (z_scr0 hs) rfl rfl rfl rfl (Nat.le_of_ble_eq_true rfl) dX6_feed_16 (fun r2 _ => ?_)
    exact z_iret hX dX6_feed_19
  · refine z_iconst (v := -1) hX dX6_feed_9 (by decide) ?_
    exact z_iret hX dX6_feed_10

abbrev rm_X6_end : Room := { frames := 1, cells := 0, slots := 0, locals := 21 }
theorem in_X6_end_X3 : ∀ w ∈ wsX30, w ∈ wsX6_end := fun w h => List.mem_cons_of_mem _ (List.mem_append_right _ h)
theorem in_X6_end_X6 : ∀ w ∈ wsX60, w ∈ wsX6_end := fun w h => List.mem_cons_of_mem _ (List.mem_append_left _ (List.mem_append_right _ h))
theorem lk_X6_end_f10 : Cond.fieldLink RX6 10 (TX6 0).1 (TX6 0).2.1 (TX6 0).2.2.1 ∈ wsX6_end := by decide +kernel
theorem lk_X6_end_f66 : Cond.fieldLink RX6 66 (TX3 2).1 (TX3 2).2.1 (TX3 2).2.2.1 ∈ wsX6_end := by decide +kernel
set_option maxHeartbeats 4000000 in
set_option maxRecDepth 100000 in
theorem c_X6_end (l : Launch) (V : z_V) (hV : z_ok V) (hs : z_isX V) (x1 : Int32) (σ : z_St) : z_CtI l V yX6_end wsX6_end rm_X6_end [.ref (z_ad V 0), .int x1] σ (f_X6_end x1 σ) := by
  refine z_startI (lv := [(0, .ref (z_ad V 0)), (1, .int x1)]) hV (by decide) rfl (Nat.le_of_ble_eq_true rfl) rfl ?_
  intro M hM hX
  have hX : z_Cx M V cX6_end 3 (some .int) wsX6_end RX6 := hX
  unfold f_X6_end
  refine z_iload_n hX dX6_end_0 rfl 1 rfl ?_
  refine z_aload_n hX dX6_end_1 rfl 0 rfl ?_
  refine z_getR (k := 0) hX (z_bnk0 hs) rfl rfl in_X6_end_X6 (by decide) lk_X6_end_f10 dX6_end_2 ?_
  refine z_getI (k := 2) hX (z_scr0 hs) rfl rfl in_X6_end_X3 (by decide) lk_X6_end_f66 dX6_end_5 ?_
  refine z_callSI (n := 2) hX (c_X6_isWithin M.2.1 V hX.2.2.2.2.2 hs x1 (σ 27 2) σ) gX6_end_X6_isWithin rfl (by decide +kernel) ⟨by decide, by decide⟩ rfl rfl rfl rfl (Nat.le_of_ble_eq_true rfl) dX6_end_8 (fun r1 _ => ?_)
  refine z_if_ne (tgt := 16) hX dX6_end_11 (by decide) ?_ ?_
  · refine z_aload_n hX dX6_end_16 rfl 0 rfl ?_
    refine z_getR (k := 0) hX (z_bnk0 hs) rfl rfl in_X6_end_X6 (by decide) lk_X6_end_f10 dX6_end_17 ?_
    refine z_getI (k := 2) hX (z_scr0 hs) rfl rfl in_X6_end_X3 (by decide) lk_X6_end_f66 dX6_end_20 ?_
    refine z_istore_n (lv' := [(2, .int (r1.2 27 2)), (0, .ref (z_ad V 0)), (1, .int x1)]) hX dX6_end_23 rfl (by decide) rfl ?_
    refine z_aload_n hX dX6_end_24 rfl 1 rfl ?_
    refine z_getR (k := 0) hX (z_bnk0 hs) rfl rfl in_X6_end_X6 (by decide) lk_X6_end_f10 dX6_end_25 ?_
    refine z_iload_n hX dX6_end_28 rfl 2 rfl ?_
    refine z_put1 (k := 2) hX (z_scr0 hs) rfl rfl in_X6_end_X3 (by decide) lk_X6_end_f66 tyX3 tyX3_ok nmX3 rfl rfl rfl dX6_end_29 (z_bs fun s2 => ?_)
    refine z_iload_n hX dX6_end_32 rfl 0 rfl ?_
    exact z_iret hX dX6_end_33
  · refine z_iconst (v := -1) hX dX6_end_14 (by decide) ?_
    exact z_iret hX dX6_end_15

abbrev rm_X6_text : Room := { frames := 8, cells := 0, slots := 0, locals := 172 }
theorem in_X6_text_X0 : ∀ w ∈ wsX00, w ∈ wsX6_text := fun w h => List.mem_cons_of_mem _ (List.mem_append_left _ (List.mem_append_left _ (List.mem_append_right _ h)))
theorem in_X6_text_X2 : ∀ w ∈ wsX20, w ∈ wsX6_text := fun w h => List.mem_cons_of_mem _ (List.mem_append_left _ (List.mem_append_left _ (List.mem_append_left _ (List.mem_append_right _ h))))
theorem in_X6_text_X3 : ∀ w ∈ wsX30, w ∈ wsX6_text := fun w h => List.mem_cons_of_mem _ (List.mem_append_left _ (List.mem_append_left _ (List.mem_append_left _ (List.mem_append_left _ (List.mem_append_right _ h)))))
theorem in_X6_text_X6 : ∀ w ∈ wsX60, w ∈ wsX6_text := fun w h => List.mem_cons_of_mem _ (List.mem_append_left _ (List.mem_append_left _ (List.mem_append_left _ (List.mem_append_left _ (List.mem_append_left _ (List.mem_append_right _ h))))))
theorem lk_X6_text_f10 : Cond.fieldLink RX6 10 (TX6 0).1 (TX6 0).2.1 (TX6 0).2.2.1 ∈ wsX6_text := by decide +kernel
theorem lk_X6_text_f74 : Cond.fieldLink RX6 74 (TX3 3).1 (TX3 3).2.1 (TX3 3).2.2.1 ∈ wsX6_text := by decide +kernel
theorem lk_X6_text_f19 : Cond.fieldLink RX6 19 (TX6 1).1 (TX6 1).2.1 (TX6 1).2.2.1 ∈ wsX6_text := by decide +kernel
theorem lk_X6_text_f77 : Cond.fieldLink RX6 77 (TX3 0).1 (TX3 0).2.1 (TX3 0).2.2.1 ∈ wsX6_text := by decide +kernel
theorem lk_X6_text_f26 : Cond.fieldLink RX6 26 (TX6 2).1 (TX6 2).2.1 (TX6 2).2.2.1 ∈ wsX6_text := by decide +kernel
theorem lk_X6_text_f82 : Cond.fieldLink RX6 82 (TX3 1).1 (TX3 1).2.1 (TX3 1).2.2.1 ∈ wsX6_text := by decide +kernel
theorem lk_X6_text_f33 : Cond.fieldLink RX6 33 (TX6 3).1 (TX6 3).2.1 (TX6 3).2.2.1 ∈ wsX6_text := by decide +kernel
theorem lk_X6_text_f86 : Cond.fieldLink RX6 86 (TX2 0).1 (TX2 0).2.1 (TX2 0).2.2.1 ∈ wsX6_text := by decide +kernel
theorem lk_X6_text_f46 : Cond.fieldLink RX6 46 (TX6 6).1 (TX6 6).2.1 (TX6 6).2.2.1 ∈ wsX6_text := by decide +kernel
theorem lk_X6_text_f89 : Cond.fieldLink RX6 89 (TX0 0).1 (TX0 0).2.1 (TX0 0).2.2.1 ∈ wsX6_text := by decide +kernel
set_option maxHeartbeats 4000000 in
set_option maxRecDepth 100000 in
theorem w_X6_text_56 (M : z_M) (V : z_V) (hs : z_isX V) (hX : z_Cx M V cX6_text 3 (some .int) wsX6_text RX6) : ∀ (n : Nat) (x1 : Int32) (x2 : Int32) (σ : z_St), z_Go M rm_X6_text 3 V (z_QI V) σ 56 [(0, .ref (z_ad V 0)), (1, .int x1), (2, .int x2)] [] (f_X6_text_56 n x1 x2 σ) := by
  intro n
  induction n with
  | zero => intro x1 x2 σ; exact z_none
  | succ n ih =>
    intro x1 x2 σ
    rw [f_X6_text_56]
    refine z_iload_n hX dX6_text_56 rfl 2 rfl ?_
    refine z_iconst (v := 2) hX dX6_text_57 (by decide) ?_
    refine z_icmp_ge (tgt := 77) hX dX6_text_58 (by decide) ?_ ?_
    · refine z_iload_n hX dX6_text_77 rfl 1 rfl ?_
      exact z_iret hX dX6_text_78
    · refine z_aload_n hX dX6_text_61 rfl 0 rfl ?_
      refine z_getR (k := 6) hX (z_bnk0 hs) rfl rfl in_X6_text_X6 (by decide) lk_X6_text_f46 dX6_text_62 ?_
      refine z_iload_n hX dX6_text_65 rfl 2 rfl ?_
      refine z_aald3 hX (z_bnk2 hs) dX6_text_66 (fun h5 => ?_)
      refine z_iconst (v := 0) hX dX6_text_67 (by decide) ?_
      refine z_put1 (k := 0) hX (z_img0 hs (z_imgin h5)) rfl rfl in_X6_text_X0 (by decide) lk_X6_text_f89 tyX0 tyX0_ok nmX0 rfl rfl rfl dX6_text_68 (z_bs fun s6 => ?_)
      refine z_iinc (v := (x2 + 1)) (lv' := [(2, .int (x2 + 1)), (0, .ref (z_ad V 0)), (1, .int x1)]) hX dX6_text_71 2 rfl rfl (by decide) rfl ?_
      refine z_goto (tgt := 56) hX dX6_text_74 (by decide) ?_
      refine z_sub [1, 2, 0] rfl ?_
      exact ih x1 (x2 + 1) s6
set_option maxHeartbeats 4000000 in
set_option maxRecDepth 100000 in
theorem c_X6_text (l : Launch) (V : z_V) (hV : z_ok V) (hs : z_isX V) (σ : z_St) : z_CtI l V yX6_text wsX6_text rm_X6_text [.ref (z_ad V 0)] σ (f_X6_text σ) := by
  refine z_startI (lv := [(0, .ref (z_ad V 0))]) hV (by decide) rfl (Nat.le_of_ble_eq_true rfl) rfl ?_
  intro M hM hX
  have hX : z_Cx M V cX6_text 3 (some .int) wsX6_text RX6 := hX
  unfold f_X6_text
  refine z_aload_n hX dX6_text_0 rfl 0 rfl ?_
  refine z_getR (k := 0) hX (z_bnk0 hs) rfl rfl in_X6_text_X6 (by decide) lk_X6_text_f10 dX6_text_1 ?_
  refine z_callVI (n := 0) hX (c_X3_readTape M.2.1 V hX.2.2.2.2.2 hs σ) gX6_text_X3_readTape rfl (by decide +kernel) ⟨by decide, by decide⟩ rfl rfl (z_scr0 hs) rfl rfl rfl rfl (Nat.le_of_ble_eq_true rfl) dX6_text_4 (fun r1 _ => ?_)
  refine z_istore_n (lv' := [(1, .int r1.1), (0, .ref (z_ad V 0))]) hX dX6_text_7 rfl (by decide) rfl ?_
  refine z_aload_n hX dX6_text_8 rfl 1 rfl ?_
  refine z_getR (k := 0) hX (z_bnk0 hs) rfl rfl in_X6_text_X6 (by decide) lk_X6_text_f10 dX6_text_9 ?_
  refine z_getI (k := 3) hX (z_scr0 hs) rfl rfl in_X6_text_X3 (by decide) lk_X6_text_f74 dX6_text_12 ?_
  refine z_if_ne (tgt := 77) hX dX6_text_15 (by decide) ?_ ?_
  · refine z_iload_n hX dX6_text_77 rfl 0 rfl ?_
    exact z_iret hX dX6_text_78
  · refine z_aload_n hX dX6_text_18 rfl 1 rfl ?_
    refine z_getR (k := 1) hX (z_bnk0 hs) rfl rfl in_X6_text_X6 (by decide) lk_X6_text_f19 dX6_text_19 ?_
    refine z_aload_n hX dX6_text_22 rfl 1 rfl ?_
    refine z_getR (k := 0) hX (z_bnk0 hs) rfl rfl in_X6_text_X6 (by decide) lk_X6_text_f10 dX6_text_23 ?_
    refine z_getR (k := 0) hX (z_scr0 hs) rfl rfl in_X6_text_X3 (by decide) lk_X6_text_f77 dX6_text_26 ?_
    refine z_callVV (n := 1) hX (c_X5_copyFrom M.2.1 V hX.2.2.2.2.2 hs 4 z_issto4 30 z_issto30 r1.2) gX6_text_X5_copyFrom rfl (by decide +kernel) ⟨by decide, by decide⟩ rfl rfl (z_sto0 hs z_issto4) rfl rfl rfl rfl (Nat.le_of_ble_eq_true rfl) dX6_text_29 (fun r2 _ => ?_)
    refine z_aload_n hX dX6_text_32 rfl 1 rfl ?_
    refine z_getR (k := 2) hX (z_bnk0 hs) rfl rfl in_X6_text_X6 (by decide) lk_X6_text_f26 dX6_text_33 ?_
    refine z_aload_n hX dX6_text_36 rfl 1 rfl ?_
    refine z_getR (k := 0) hX (z_bnk0 hs) rfl rfl in_X6_text_X6 (by decide) lk_X6_text_f10 dX6_text_37 ?_
    refine z_getR (k := 1) hX (z_scr0 hs) rfl rfl in_X6_text_X3 (by decide) lk_X6_text_f82 dX6_text_40 ?_
    refine z_callVV (n := 1) hX (c_X1_copyFrom M.2.1 V hX.2.2.2.2.2 hs 11 z_isled11 37 z_isled37 r2.2) gX6_text_X1_copyFrom rfl (by decide +kernel) ⟨by decide, by decide⟩ rfl rfl (z_led0 hs z_isled11) rfl rfl rfl rfl (Nat.le_of_ble_eq_true rfl) dX6_text_43 (fun r3 _ => ?_)
    refine z_aload_n hX dX6_text_46 rfl 1 rfl ?_
    refine z_getR (k := 3) hX (z_bnk0 hs) rfl rfl in_X6_text_X6 (by decide) lk_X6_text_f33 dX6_text_47 ?_
    refine z_iconst (v := 0) hX dX6_text_50 (by decide) ?_
    refine z_put1 (k := 0) hX (z_nts0 hs z_isnts23) rfl rfl in_X6_text_X2 (by decide) lk_X6_text_f86 tyX2 tyX2_ok nmX2 rfl rfl rfl dX6_text_51 (z_bs fun s4 => ?_)
    refine z_iconst (v := 0) hX dX6_text_54 (by decide) ?_
    refine z_istore_n (lv' := [(2, .int (0 : Int32)), (1, .int r1.1), (0, .ref (z_ad V 0))]) hX dX6_text_55 rfl (by decide) rfl ?_
    refine z_sub [2, 1, 0] rfl ?_
    exact w_X6_text_56 M V hs hX 200 r1.1 (0 : Int32) s4

abbrev rm_X6_fault : Room := { frames := 0, cells := 0, slots := 0, locals := 0 }
theorem in_X6_fault_X3 : ∀ w ∈ wsX30, w ∈ wsX6_fault := fun w h => List.mem_cons_of_mem _ (List.mem_append_right _ h)
theorem in_X6_fault_X6 : ∀ w ∈ wsX60, w ∈ wsX6_fault := fun w h => List.mem_cons_of_mem _ (List.mem_append_left _ (List.mem_append_right _ h))
theorem lk_X6_fault_f10 : Cond.fieldLink RX6 10 (TX6 0).1 (TX6 0).2.1 (TX6 0).2.2.1 ∈ wsX6_fault := by decide +kernel
theorem lk_X6_fault_f74 : Cond.fieldLink RX6 74 (TX3 3).1 (TX3 3).2.1 (TX3 3).2.2.1 ∈ wsX6_fault := by decide +kernel
set_option maxHeartbeats 4000000 in
set_option maxRecDepth 100000 in
theorem c_X6_fault (l : Launch) (V : z_V) (hV : z_ok V) (hs : z_isX V) (σ : z_St) : z_CtI l V yX6_fault wsX6_fault rm_X6_fault [.ref (z_ad V 0)] σ (f_X6_fault σ) := by
  refine z_startI (lv := [(0, .ref (z_ad V 0))]) hV (by decide) rfl (Nat.le_of_ble_eq_true rfl) rfl ?_
  intro M hM hX
  have hX : z_Cx M V cX6_fault 1 (some .int) wsX6_fault RX6 := hX
  unfold f_X6_fault
  refine z_aload_n hX dX6_fault_0 rfl 0 rfl ?_
  refine z_getR (k := 0) hX (z_bnk0 hs) rfl rfl in_X6_fault_X6 (by decide) lk_X6_fault_f10 dX6_fault_1 ?_
  refine z_getI (k := 3) hX (z_scr0 hs) rfl rfl in_X6_fault_X3 (by decide) lk_X6_fault_f74 dX6_fault_4 ?_
  exact z_iret hX dX6_fault_7

abbrev rm_X6_rule : Room := { frames := 0, cells := 0, slots := 0, locals := 0 }
theorem in_X6_rule_X1 : ∀ w ∈ wsX10, w ∈ wsX6_rule := fun w h => List.mem_cons_of_mem _ (List.mem_append_left _ (List.mem_append_right _ h))
theorem in_X6_rule_X5 : ∀ w ∈ wsX50, w ∈ wsX6_rule := fun w h => List.mem_cons_of_mem _ (List.mem_append_right _ h)
theorem in_X6_rule_X6 : ∀ w ∈ wsX60, w ∈ wsX6_rule := fun w h => List.mem_cons_of_mem _ (List.mem_append_left _ (List.mem_append_left _ (List.mem_append_right _ h)))
theorem lk_X6_rule_f26 : Cond.fieldLink RX6 26 (TX6 2).1 (TX6 2).2.1 (TX6 2).2.2.1 ∈ wsX6_rule := by decide +kernel
theorem lk_X6_rule_f93 : Cond.fieldLink RX6 93 (TX1 0).1 (TX1 0).2.1 (TX1 0).2.2.1 ∈ wsX6_rule := by decide +kernel
theorem lk_X6_rule_f19 : Cond.fieldLink RX6 19 (TX6 1).1 (TX6 1).2.1 (TX6 1).2.2.1 ∈ wsX6_rule := by decide +kernel
theorem lk_X6_rule_f96 : Cond.fieldLink RX6 96 (TX5 0).1 (TX5 0).2.1 (TX5 0).2.2.1 ∈ wsX6_rule := by decide +kernel
theorem lk_X6_rule_f99 : Cond.fieldLink RX6 99 (TX5 4).1 (TX5 4).2.1 (TX5 4).2.2.1 ∈ wsX6_rule := by decide +kernel
theorem lk_X6_rule_f102 : Cond.fieldLink RX6 102 (TX1 7).1 (TX1 7).2.1 (TX1 7).2.2.1 ∈ wsX6_rule := by decide +kernel
theorem lk_X6_rule_f105 : Cond.fieldLink RX6 105 (TX1 8).1 (TX1 8).2.1 (TX1 8).2.2.1 ∈ wsX6_rule := by decide +kernel
theorem lk_X6_rule_f108 : Cond.fieldLink RX6 108 (TX1 9).1 (TX1 9).2.1 (TX1 9).2.2.1 ∈ wsX6_rule := by decide +kernel
theorem lk_X6_rule_f111 : Cond.fieldLink RX6 111 (TX1 6).1 (TX1 6).2.1 (TX1 6).2.2.1 ∈ wsX6_rule := by decide +kernel
set_option maxHeartbeats 4000000 in
set_option maxRecDepth 100000 in
theorem c_X6_rule (l : Launch) (V : z_V) (hV : z_ok V) (hs : z_isX V) (x1 : Int32) (σ : z_St) : z_CtI l V yX6_rule wsX6_rule rm_X6_rule [.ref (z_ad V 0), .int x1] σ (f_X6_rule x1 σ) := by
  refine z_startI (lv := [(0, .ref (z_ad V 0)), (1, .int x1)]) hV (by decide) rfl (Nat.le_of_ble_eq_true rfl) rfl ?_
  intro M hM hX
  have hX : z_Cx M V cX6_rule 2 (some .int) wsX6_rule RX6 := hX
  unfold f_X6_rule
  refine z_iload_n hX dX6_rule_0 rfl 1 rfl ?_
  refine z_case (fun h1 => ?_) (fun h1 => ?_)
  · refine z_tabIn (tgt := 44) hX dX6_rule_1 (0 : Int32) h1 (by decide) (by decide) rfl (by decide) ?_
    refine z_aload_n hX dX6_rule_44 rfl 0 rfl ?_
    refine z_getR (k := 2) hX (z_bnk0 hs) rfl rfl in_X6_rule_X6 (by decide) lk_X6_rule_f26 dX6_rule_45 ?_
    refine z_getI (k := 0) hX (z_led0 hs z_isled11) rfl rfl in_X6_rule_X1 (by decide) lk_X6_rule_f93 dX6_rule_48 ?_
    exact z_iret hX dX6_rule_51
  · skip
    refine z_case (fun h2 => ?_) (fun h2 => ?_)
    · refine z_tabIn (tgt := 52) hX dX6_rule_1 (1 : Int32) h2 (by decide) (by decide) rfl (by decide) ?_
      refine z_aload_n hX dX6_rule_52 rfl 0 rfl ?_
      refine z_getR (k := 1) hX (z_bnk0 hs) rfl rfl in_X6_rule_X6 (by decide) lk_X6_rule_f19 dX6_rule_53 ?_
      refine z_getI (k := 0) hX (z_sto0 hs z_issto4) rfl rfl in_X6_rule_X5 (by decide) lk_X6_rule_f96 dX6_rule_56 ?_
      exact z_iret hX dX6_rule_59
    · skip
      refine z_case (fun h3 => ?_) (fun h3 => ?_)
      · refine z_tabIn (tgt := 60) hX dX6_rule_1 (2 : Int32) h3 (by decide) (by decide) rfl (by decide) ?_
        refine z_aload_n hX dX6_rule_60 rfl 0 rfl ?_
        refine z_getR (k := 1) hX (z_bnk0 hs) rfl rfl in_X6_rule_X6 (by decide) lk_X6_rule_f19 dX6_rule_61 ?_
        refine z_getI (k := 4) hX (z_sto0 hs z_issto4) rfl rfl in_X6_rule_X5 (by decide) lk_X6_rule_f99 dX6_rule_64 ?_
        exact z_iret hX dX6_rule_67
      · skip
        refine z_case (fun h4 => ?_) (fun h4 => ?_)
        · refine z_tabIn (tgt := 68) hX dX6_rule_1 (3 : Int32) h4 (by decide) (by decide) rfl (by decide) ?_
          refine z_aload_n hX dX6_rule_68 rfl 0 rfl ?_
          refine z_getR (k := 2) hX (z_bnk0 hs) rfl rfl in_X6_rule_X6 (by decide) lk_X6_rule_f26 dX6_rule_69 ?_
          refine z_getI (k := 7) hX (z_led0 hs z_isled11) rfl rfl in_X6_rule_X1 (by decide) lk_X6_rule_f102 dX6_rule_72 ?_
          exact z_iret hX dX6_rule_75
        · skip
          refine z_case (fun h5 => ?_) (fun h5 => ?_)
          · refine z_tabIn (tgt := 76) hX dX6_rule_1 (4 : Int32) h5 (by decide) (by decide) rfl (by decide) ?_
            refine z_aload_n hX dX6_rule_76 rfl 0 rfl ?_
            refine z_getR (k := 2) hX (z_bnk0 hs) rfl rfl in_X6_rule_X6 (by decide) lk_X6_rule_f26 dX6_rule_77 ?_
            refine z_getI (k := 8) hX (z_led0 hs z_isled11) rfl rfl in_X6_rule_X1 (by decide) lk_X6_rule_f105 dX6_rule_80 ?_
            exact z_iret hX dX6_rule_83
          · skip
            refine z_case (fun h6 => ?_) (fun h6 => ?_)
            · refine z_tabIn (tgt := 84) hX dX6_rule_1 (5 : Int32) h6 (by decide) (by decide) rfl (by decide) ?_
              refine z_aload_n hX dX6_rule_84 rfl 0 rfl ?_
              refine z_getR (k := 2) hX (z_bnk0 hs) rfl rfl in_X6_rule_X6 (by decide) lk_X6_rule_f26 dX6_rule_85 ?_
              refine z_getI (k := 9) hX (z_led0 hs z_isled11) rfl rfl in_X6_rule_X1 (by decide) lk_X6_rule_f108 dX6_rule_88 ?_
              exact z_iret hX dX6_rule_91
            · skip
              refine z_case (fun h7 => ?_) (fun h7 => ?_)
              · refine z_tabIn (tgt := 92) hX dX6_rule_1 (6 : Int32) h7 (by decide) (by decide) rfl (by decide) ?_
                refine z_aload_n hX dX6_rule_92 rfl 0 rfl ?_
                refine z_getR (k := 2) hX (z_bnk0 hs) rfl rfl in_X6_rule_X6 (by decide) lk_X6_rule_f26 dX6_rule_93 ?_
                refine z_getI (k := 6) hX (z_led0 hs z_isled11) rfl rfl in_X6_rule_X1 (by decide) lk_X6_rule_f111 dX6_rule_96 ?_
                exact z_iret hX dX6_rule_99
              · skip
                refine z_tabOut (tgt := 100) hX dX6_rule_1 (by have qh1 := lv_neT (a := 0) h1 (by decide); have qh2 := lv_neT (a := 1) h2 (by decide); have qh3 := lv_neT (a := 2) h3 (by decide); have qh4 := lv_neT (a := 3) h4 (by decide); have qh5 := lv_neT (a := 4) h5 (by decide); have qh6 := lv_neT (a := 5) h6 (by decide); have qh7 := lv_neT (a := 6) h7 (by decide); omega) (by decide) ?_
                refine z_iconst (v := -1) hX dX6_rule_100 (by decide) ?_
                exact z_iret hX dX6_rule_101

abbrev rm_X6_one : Room := { frames := 1, cells := 0, slots := 0, locals := 21 }
theorem in_X6_one_X1 : ∀ w ∈ wsX10, w ∈ wsX6_one := fun w h => List.mem_cons_of_mem _ (List.mem_append_right _ h)
theorem in_X6_one_X6 : ∀ w ∈ wsX60, w ∈ wsX6_one := fun w h => List.mem_cons_of_mem _ (List.mem_append_left _ (List.mem_append_right _ h))
theorem lk_X6_one_f26 : Cond.fieldLink RX6 26 (TX6 2).1 (TX6 2).2.1 (TX6 2).2.2.1 ∈ wsX6_one := by decide +kernel
theorem lk_X6_one_f118 : Cond.fieldLink RX6 118 (TX1 1).1 (TX1 1).2.1 (TX1 1).2.2.1 ∈ wsX6_one := by decide +kernel
theorem lk_X6_one_f121 : Cond.fieldLink RX6 121 (TX1 2).1 (TX1 2).2.1 (TX1 2).2.2.1 ∈ wsX6_one := by decide +kernel
theorem lk_X6_one_f124 : Cond.fieldLink RX6 124 (TX1 3).1 (TX1 3).2.1 (TX1 3).2.2.1 ∈ wsX6_one := by decide +kernel
theorem lk_X6_one_f127 : Cond.fieldLink RX6 127 (TX1 4).1 (TX1 4).2.1 (TX1 4).2.2.1 ∈ wsX6_one := by decide +kernel
set_option maxHeartbeats 4000000 in
set_option maxRecDepth 100000 in
theorem c_X6_one (l : Launch) (V : z_V) (hV : z_ok V) (hs : z_isX V) (x1 : Int32) (x2 : Int32) (σ : z_St) : z_CtI l V yX6_one wsX6_one rm_X6_one [.ref (z_ad V 0), .int x1, .int x2] σ (f_X6_one x1 x2 σ) := by
  refine z_startI (lv := [(0, .ref (z_ad V 0)), (1, .int x1), (2, .int x2)]) hV (by decide) rfl (Nat.le_of_ble_eq_true rfl) rfl ?_
  intro M hM hX
  have hX : z_Cx M V cX6_one 3 (some .int) wsX6_one RX6 := hX
  unfold f_X6_one
  refine z_aload_n hX dX6_one_0 rfl 0 rfl ?_
  refine z_iload_n hX dX6_one_1 rfl 1 rfl ?_
  refine z_callVI (n := 1) hX (c_X6_isOne M.2.1 V hX.2.2.2.2.2 hs x1 σ) gX6_one_X6_isOne rfl (by decide +kernel) ⟨by decide, by decide⟩ rfl rfl (z_bnk0 hs) rfl rfl rfl rfl (Nat.le_of_ble_eq_true rfl) dX6_one_2 (fun r1 _ => ?_)
  refine z_if_ne (tgt := 10) hX dX6_one_5 (by decide) ?_ ?_
  · refine z_iload_n hX dX6_one_10 rfl 2 rfl ?_
    refine z_case (fun h2 => ?_) (fun h2 => ?_)
    · refine z_tabIn (tgt := 40) hX dX6_one_11 (0 : Int32) h2 (by decide) (by decide) rfl (by decide) ?_
      refine z_aload_n hX dX6_one_40 rfl 0 rfl ?_
      refine z_getR (k := 2) hX (z_bnk0 hs) rfl rfl in_X6_one_X6 (by decide) lk_X6_one_f26 dX6_one_41 ?_
      refine z_getR (k := 1) hX (z_led0 hs z_isled11) rfl rfl in_X6_one_X1 (by decide) lk_X6_one_f118 dX6_one_44 ?_
      refine z_iload_n hX dX6_one_47 rfl 1 rfl ?_
      refine z_iald hX (z_led1 hs z_isled11) dX6_one_48 ?_
      exact z_iret hX dX6_one_49
    · skip
      refine z_case (fun h3 => ?_) (fun h3 => ?_)
      · refine z_tabIn (tgt := 50) hX dX6_one_11 (1 : Int32) h3 (by decide) (by decide) rfl (by decide) ?_
        refine z_aload_n hX dX6_one_50 rfl 0 rfl ?_
        refine z_getR (k := 2) hX (z_bnk0 hs) rfl rfl in_X6_one_X6 (by decide) lk_X6_one_f26 dX6_one_51 ?_
        refine z_getR (k := 2) hX (z_led0 hs z_isled11) rfl rfl in_X6_one_X1 (by decide) lk_X6_one_f121 dX6_one_54 ?_
        refine z_iload_n hX dX6_one_57 rfl 1 rfl ?_
        refine z_iald hX (z_led2 hs z_isled11) dX6_one_58 ?_
        exact z_iret hX dX6_one_59
      · skip
        refine z_case (fun h4 => ?_) (fun h4 => ?_)
        · refine z_tabIn (tgt := 60) hX dX6_one_11 (2 : Int32) h4 (by decide) (by decide) rfl (by decide) ?_
          refine z_aload_n hX dX6_one_60 rfl 0 rfl ?_
          refine z_getR (k := 2) hX (z_bnk0 hs) rfl rfl in_X6_one_X6 (by decide) lk_X6_one_f26 dX6_one_61 ?_
          refine z_getR (k := 3) hX (z_led0 hs z_isled11) rfl rfl in_X6_one_X1 (by decide) lk_X6_one_f124 dX6_one_64 ?_
          refine z_iload_n hX dX6_one_67 rfl 1 rfl ?_
          refine z_iald hX (z_led3 hs z_isled11) dX6_one_68 ?_
          exact z_iret hX dX6_one_69
        · skip
          refine z_case (fun h5 => ?_) (fun h5 => ?_)
          · refine z_tabIn (tgt := 70) hX dX6_one_11 (3 : Int32) h5 (by decide) (by decide) rfl (by decide) ?_
            refine z_aload_n hX dX6_one_70 rfl 0 rfl ?_
            refine z_getR (k := 2) hX (z_bnk0 hs) rfl rfl in_X6_one_X6 (by decide) lk_X6_one_f26 dX6_one_71 ?_
            refine z_getR (k := 4) hX (z_led0 hs z_isled11) rfl rfl in_X6_one_X1 (by decide) lk_X6_one_f127 dX6_one_74 ?_
            refine z_iload_n hX dX6_one_77 rfl 1 rfl ?_
            refine z_iald hX (z_led4 hs z_isled11) dX6_one_78 ?_
            exact z_iret hX dX6_one_79
          · skip
            refine z_tabOut (tgt := 80) hX dX6_one_11 (by have qh2 := lv_neT (a := 0) h2 (by decide); have qh3 := lv_neT (a := 1) h3 (by decide); have qh4 := lv_neT (a := 2) h4 (by decide); have qh5 := lv_neT (a := 3) h5 (by decide); omega) (by decide) ?_
            refine z_iconst (v := -1) hX dX6_one_80 (by decide) ?_
            exact z_iret hX dX6_one_81
  · refine z_iconst (v := -1) hX dX6_one_8 (by decide) ?_
    exact z_iret hX dX6_one_9

abbrev rm_X6_trip : Room := { frames := 1, cells := 0, slots := 0, locals := 23 }
theorem in_X6_trip_X1 : ∀ w ∈ wsX10, w ∈ wsX6_trip := fun w h => List.mem_cons_of_mem _ (List.mem_append_right _ h)
theorem in_X6_trip_X5 : ∀ w ∈ wsX50, w ∈ wsX6_trip := fun w h => List.mem_cons_of_mem _ (List.mem_append_left _ (List.mem_append_right _ h))
theorem in_X6_trip_X6 : ∀ w ∈ wsX60, w ∈ wsX6_trip := fun w h => List.mem_cons_of_mem _ (List.mem_append_left _ (List.mem_append_left _ (List.mem_append_right _ h)))
theorem lk_X6_trip_f19 : Cond.fieldLink RX6 19 (TX6 1).1 (TX6 1).2.1 (TX6 1).2.2.1 ∈ wsX6_trip := by decide +kernel
theorem lk_X6_trip_f133 : Cond.fieldLink RX6 133 (TX5 1).1 (TX5 1).2.1 (TX5 1).2.2.1 ∈ wsX6_trip := by decide +kernel
theorem lk_X6_trip_f136 : Cond.fieldLink RX6 136 (TX5 2).1 (TX5 2).2.1 (TX5 2).2.2.1 ∈ wsX6_trip := by decide +kernel
theorem lk_X6_trip_f139 : Cond.fieldLink RX6 139 (TX5 3).1 (TX5 3).2.1 (TX5 3).2.2.1 ∈ wsX6_trip := by decide +kernel
theorem lk_X6_trip_f26 : Cond.fieldLink RX6 26 (TX6 2).1 (TX6 2).2.1 (TX6 2).2.2.1 ∈ wsX6_trip := by decide +kernel
theorem lk_X6_trip_f142 : Cond.fieldLink RX6 142 (TX1 5).1 (TX1 5).2.1 (TX1 5).2.2.1 ∈ wsX6_trip := by decide +kernel
set_option maxHeartbeats 4000000 in
set_option maxRecDepth 100000 in
theorem c_X6_trip (l : Launch) (V : z_V) (hV : z_ok V) (hs : z_isX V) (x1 : Int32) (x2 : Int32) (σ : z_St) : z_CtI l V yX6_trip wsX6_trip rm_X6_trip [.ref (z_ad V 0), .int x1, .int x2] σ (f_X6_trip x1 x2 σ) := by
  refine z_startI (lv := [(0, .ref (z_ad V 0)), (1, .int x1), (2, .int x2)]) hV (by decide) rfl (Nat.le_of_ble_eq_true rfl) rfl ?_
  intro M hM hX
  have hX : z_Cx M V cX6_trip 3 (some .int) wsX6_trip RX6 := hX
  unfold f_X6_trip
  refine z_aload_n hX dX6_trip_0 rfl 0 rfl ?_
  refine z_iload_n hX dX6_trip_1 rfl 1 rfl ?_
  refine z_callVI (n := 1) hX (c_X6_isIncident M.2.1 V hX.2.2.2.2.2 hs x1 σ) gX6_trip_X6_isIncident rfl (by decide +kernel) ⟨by decide, by decide⟩ rfl rfl (z_bnk0 hs) rfl rfl rfl rfl (Nat.le_of_ble_eq_true rfl) dX6_trip_2 (fun r1 _ => ?_)
  refine z_if_ne (tgt := 10) hX dX6_trip_5 (by decide) ?_ ?_
  · refine z_iload_n hX dX6_trip_10 rfl 2 rfl ?_
    refine z_case (fun h2 => ?_) (fun h2 => ?_)
    · refine z_tabIn (tgt := 48) hX dX6_trip_11 (0 : Int32) h2 (by decide) (by decide) rfl (by decide) ?_
      refine z_aload_n hX dX6_trip_48 rfl 0 rfl ?_
      refine z_getR (k := 1) hX (z_bnk0 hs) rfl rfl in_X6_trip_X6 (by decide) lk_X6_trip_f19 dX6_trip_49 ?_
      refine z_getR (k := 1) hX (z_sto0 hs z_issto4) rfl rfl in_X6_trip_X5 (by decide) lk_X6_trip_f133 dX6_trip_52 ?_
      refine z_iload_n hX dX6_trip_55 rfl 1 rfl ?_
      refine z_iald hX (z_sto1 hs z_issto4) dX6_trip_56 ?_
      exact z_iret hX dX6_trip_57
    · skip
      refine z_case (fun h3 => ?_) (fun h3 => ?_)
      · refine z_tabIn (tgt := 58) hX dX6_trip_11 (1 : Int32) h3 (by decide) (by decide) rfl (by decide) ?_
        refine z_aload_n hX dX6_trip_58 rfl 0 rfl ?_
        refine z_getR (k := 1) hX (z_bnk0 hs) rfl rfl in_X6_trip_X6 (by decide) lk_X6_trip_f19 dX6_trip_59 ?_
        refine z_getR (k := 2) hX (z_sto0 hs z_issto4) rfl rfl in_X6_trip_X5 (by decide) lk_X6_trip_f136 dX6_trip_62 ?_
        refine z_iload_n hX dX6_trip_65 rfl 1 rfl ?_
        refine z_iald hX (z_sto2 hs z_issto4) dX6_trip_66 ?_
        exact z_iret hX dX6_trip_67
      · skip
        refine z_case (fun h4 => ?_) (fun h4 => ?_)
        · refine z_tabIn (tgt := 68) hX dX6_trip_11 (2 : Int32) h4 (by decide) (by decide) rfl (by decide) ?_
          refine z_aload_n hX dX6_trip_68 rfl 0 rfl ?_
          refine z_getR (k := 1) hX (z_bnk0 hs) rfl rfl in_X6_trip_X6 (by decide) lk_X6_trip_f19 dX6_trip_69 ?_
          refine z_getR (k := 3) hX (z_sto0 hs z_issto4) rfl rfl in_X6_trip_X5 (by decide) lk_X6_trip_f139 dX6_trip_72 ?_
          refine z_iload_n hX dX6_trip_75 rfl 1 rfl ?_
          refine z_iald hX (z_sto3 hs z_issto4) dX6_trip_76 ?_
          exact z_iret hX dX6_trip_77
        · skip
          refine z_case (fun h5 => ?_) (fun h5 => ?_)
          · refine z_tabIn (tgt := 78) hX dX6_trip_11 (3 : Int32) h5 (by decide) (by decide) rfl (by decide) ?_
            refine z_aload_n hX dX6_trip_78 rfl 0 rfl ?_
            refine z_getR (k := 2) hX (z_bnk0 hs) rfl rfl in_X6_trip_X6 (by decide) lk_X6_trip_f26 dX6_trip_79 ?_
            refine z_getR (k := 5) hX (z_led0 hs z_isled11) rfl rfl in_X6_trip_X1 (by decide) lk_X6_trip_f142 dX6_trip_82 ?_
            refine z_iload_n hX dX6_trip_85 rfl 1 rfl ?_
            refine z_iald hX (z_led5 hs z_isled11) dX6_trip_86 ?_
            exact z_iret hX dX6_trip_87
          · skip
            refine z_case (fun h6 => ?_) (fun h6 => ?_)
            · refine z_tabIn (tgt := 88) hX dX6_trip_11 (4 : Int32) h6 (by decide) (by decide) rfl (by decide) ?_
              refine z_aload_n hX dX6_trip_88 rfl 0 rfl ?_
              refine z_getR (k := 2) hX (z_bnk0 hs) rfl rfl in_X6_trip_X6 (by decide) lk_X6_trip_f26 dX6_trip_89 ?_
              refine z_iload_n hX dX6_trip_92 rfl 1 rfl ?_
              refine z_callVI (n := 1) hX (c_X1_isDeposited M.2.1 V hX.2.2.2.2.2 hs 11 z_isled11 x1 r1.2) gX6_trip_X1_isDeposited rfl (by decide +kernel) ⟨by decide, by decide⟩ rfl rfl (z_led0 hs z_isled11) rfl rfl rfl rfl (Nat.le_of_ble_eq_true rfl) dX6_trip_93 (fun r7 _ => ?_)
              refine z_if_eq (tgt := 103) hX dX6_trip_96 (by decide) ?_ ?_
              · refine z_iconst (v := 0) hX dX6_trip_103 (by decide) ?_
                exact z_iret hX dX6_trip_104
              · refine z_iconst (v := 1) hX dX6_trip_99 (by decide) ?_
                refine z_goto (tgt := 104) hX dX6_trip_100 (by decide) ?_
                exact z_iret hX dX6_trip_104
            · skip
              refine z_case (fun h8 => ?_) (fun h8 => ?_)
              · refine z_tabIn (tgt := 105) hX dX6_trip_11 (5 : Int32) h8 (by decide) (by decide) rfl (by decide) ?_
                refine z_aload_n hX dX6_trip_105 rfl 0 rfl ?_
                refine z_getR (k := 2) hX (z_bnk0 hs) rfl rfl in_X6_trip_X6 (by decide) lk_X6_trip_f26 dX6_trip_106 ?_
                refine z_aload_n hX dX6_trip_109 rfl 0 rfl ?_
                refine z_getR (k := 1) hX (z_bnk0 hs) rfl rfl in_X6_trip_X6 (by decide) lk_X6_trip_f19 dX6_trip_110 ?_
                refine z_iload_n hX dX6_trip_113 rfl 1 rfl ?_
                refine z_callVI (n := 2) hX (c_X1_blushOf M.2.1 V hX.2.2.2.2.2 hs 11 z_isled11 4 z_issto4 x1 r1.2) gX6_trip_X1_blushOf rfl (by decide +kernel) ⟨by decide, by decide⟩ rfl rfl (z_led0 hs z_isled11) rfl rfl rfl rfl (Nat.le_of_ble_eq_true rfl) dX6_trip_114 (fun r9 _ => ?_)
                exact z_iret hX dX6_trip_117
              · skip
                refine z_tabOut (tgt := 118) hX dX6_trip_11 (by have qh2 := lv_neT (a := 0) h2 (by decide); have qh3 := lv_neT (a := 1) h3 (by decide); have qh4 := lv_neT (a := 2) h4 (by decide); have qh5 := lv_neT (a := 3) h5 (by decide); have qh6 := lv_neT (a := 4) h6 (by decide); have qh8 := lv_neT (a := 5) h8 (by decide); omega) (by decide) ?_
                refine z_iconst (v := -1) hX dX6_trip_118 (by decide) ?_
                exact z_iret hX dX6_trip_119
  · refine z_iconst (v := -1) hX dX6_trip_8 (by decide) ?_
    exact z_iret hX dX6_trip_9

abbrev rm_X6_asked : Room := { frames := 0, cells := 0, slots := 0, locals := 0 }
theorem in_X6_asked_X5 : ∀ w ∈ wsX50, w ∈ wsX6_asked := fun w h => List.mem_cons_of_mem _ (List.mem_append_right _ h)
theorem in_X6_asked_X6 : ∀ w ∈ wsX60, w ∈ wsX6_asked := fun w h => List.mem_cons_of_mem _ (List.mem_append_left _ (List.mem_append_right _ h))
theorem lk_X6_asked_f19 : Cond.fieldLink RX6 19 (TX6 1).1 (TX6 1).2.1 (TX6 1).2.2.1 ∈ wsX6_asked := by decide +kernel
theorem lk_X6_asked_f99 : Cond.fieldLink RX6 99 (TX5 4).1 (TX5 4).2.1 (TX5 4).2.2.1 ∈ wsX6_asked := by decide +kernel
theorem lk_X6_asked_f152 : Cond.fieldLink RX6 152 (TX5 5).1 (TX5 5).2.1 (TX5 5).2.2.1 ∈ wsX6_asked := by decide +kernel
theorem lk_X6_asked_f155 : Cond.fieldLink RX6 155 (TX5 6).1 (TX5 6).2.1 (TX5 6).2.2.1 ∈ wsX6_asked := by decide +kernel
theorem lk_X6_asked_f158 : Cond.fieldLink RX6 158 (TX5 7).1 (TX5 7).2.1 (TX5 7).2.2.1 ∈ wsX6_asked := by decide +kernel
set_option maxHeartbeats 4000000 in
set_option maxRecDepth 100000 in
theorem c_X6_asked (l : Launch) (V : z_V) (hV : z_ok V) (hs : z_isX V) (x1 : Int32) (x2 : Int32) (σ : z_St) : z_CtI l V yX6_asked wsX6_asked rm_X6_asked [.ref (z_ad V 0), .int x1, .int x2] σ (f_X6_asked x1 x2 σ) := by
  refine z_startI (lv := [(0, .ref (z_ad V 0)), (1, .int x1), (2, .int x2)]) hV (by decide) rfl (Nat.le_of_ble_eq_true rfl) rfl ?_
  intro M hM hX
  have hX : z_Cx M V cX6_asked 3 (some .int) wsX6_asked RX6 := hX
  unfold f_X6_asked
  refine z_iload_n hX dX6_asked_0 rfl 1 rfl ?_
  refine z_if_lt (tgt := 15) hX dX6_asked_1 (by decide) ?_ ?_
  · refine z_iconst (v := -1) hX dX6_asked_15 (by decide) ?_
    exact z_iret hX dX6_asked_16
  · refine z_iload_n hX dX6_asked_4 rfl 1 rfl ?_
    refine z_aload_n hX dX6_asked_5 rfl 0 rfl ?_
    refine z_getR (k := 1) hX (z_bnk0 hs) rfl rfl in_X6_asked_X6 (by decide) lk_X6_asked_f19 dX6_asked_6 ?_
    refine z_getI (k := 4) hX (z_sto0 hs z_issto4) rfl rfl in_X6_asked_X5 (by decide) lk_X6_asked_f99 dX6_asked_9 ?_
    refine z_icmp_lt (tgt := 17) hX dX6_asked_12 (by decide) ?_ ?_
    · refine z_iload_n hX dX6_asked_17 rfl 2 rfl ?_
      refine z_case (fun h1 => ?_) (fun h1 => ?_)
      · refine z_tabIn (tgt := 44) hX dX6_asked_18 (0 : Int32) h1 (by decide) (by decide) rfl (by decide) ?_
        refine z_aload_n hX dX6_asked_44 rfl 0 rfl ?_
        refine z_getR (k := 1) hX (z_bnk0 hs) rfl rfl in_X6_asked_X6 (by decide) lk_X6_asked_f19 dX6_asked_45 ?_
        refine z_getR (k := 5) hX (z_sto0 hs z_issto4) rfl rfl in_X6_asked_X5 (by decide) lk_X6_asked_f152 dX6_asked_48 ?_
        refine z_iload_n hX dX6_asked_51 rfl 1 rfl ?_
        refine z_iald hX (z_sto4 hs z_issto4) dX6_asked_52 ?_
        exact z_iret hX dX6_asked_53
      · skip
        refine z_case (fun h2 => ?_) (fun h2 => ?_)
        · refine z_tabIn (tgt := 54) hX dX6_asked_18 (1 : Int32) h2 (by decide) (by decide) rfl (by decide) ?_
          refine z_aload_n hX dX6_asked_54 rfl 0 rfl ?_
          refine z_getR (k := 1) hX (z_bnk0 hs) rfl rfl in_X6_asked_X6 (by decide) lk_X6_asked_f19 dX6_asked_55 ?_
          refine z_getR (k := 6) hX (z_sto0 hs z_issto4) rfl rfl in_X6_asked_X5 (by decide) lk_X6_asked_f155 dX6_asked_58 ?_
          refine z_iload_n hX dX6_asked_61 rfl 1 rfl ?_
          refine z_iald hX (z_sto5 hs z_issto4) dX6_asked_62 ?_
          exact z_iret hX dX6_asked_63
        · skip
          refine z_case (fun h3 => ?_) (fun h3 => ?_)
          · refine z_tabIn (tgt := 64) hX dX6_asked_18 (2 : Int32) h3 (by decide) (by decide) rfl (by decide) ?_
            refine z_aload_n hX dX6_asked_64 rfl 0 rfl ?_
            refine z_getR (k := 1) hX (z_bnk0 hs) rfl rfl in_X6_asked_X6 (by decide) lk_X6_asked_f19 dX6_asked_65 ?_
            refine z_getR (k := 7) hX (z_sto0 hs z_issto4) rfl rfl in_X6_asked_X5 (by decide) lk_X6_asked_f158 dX6_asked_68 ?_
            refine z_iload_n hX dX6_asked_71 rfl 1 rfl ?_
            refine z_iald hX (z_sto6 hs z_issto4) dX6_asked_72 ?_
            exact z_iret hX dX6_asked_73
          · skip
            refine z_tabOut (tgt := 74) hX dX6_asked_18 (by have qh1 := lv_neT (a := 0) h1 (by decide); have qh2 := lv_neT (a := 1) h2 (by decide); have qh3 := lv_neT (a := 2) h3 (by decide); omega) (by decide) ?_
            refine z_iconst (v := -1) hX dX6_asked_74 (by decide) ?_
            exact z_iret hX dX6_asked_75
    · refine z_iconst (v := -1) hX dX6_asked_15 (by decide) ?_
      exact z_iret hX dX6_asked_16

abbrev rm_X6_deposit : Room := { frames := 1, cells := 0, slots := 0, locals := 21 }
theorem in_X6_deposit_X1 : ∀ w ∈ wsX10, w ∈ wsX6_deposit := fun w h => List.mem_cons_of_mem _ (List.mem_append_right _ h)
theorem in_X6_deposit_X5 : ∀ w ∈ wsX50, w ∈ wsX6_deposit := fun w h => List.mem_cons_of_mem _ (List.mem_append_left _ (List.mem_append_right _ h))
theorem in_X6_deposit_X6 : ∀ w ∈ wsX60, w ∈ wsX6_deposit := fun w h => List.mem_cons_of_mem _ (List.mem_append_left _ (List.mem_append_left _ (List.mem_append_right _ h)))
theorem lk_X6_deposit_f19 : Cond.fieldLink RX6 19 (TX6 1).1 (TX6 1).2.1 (TX6 1).2.2.1 ∈ wsX6_deposit := by decide +kernel
theorem lk_X6_deposit_f136 : Cond.fieldLink RX6 136 (TX5 2).1 (TX5 2).2.1 (TX5 2).2.2.1 ∈ wsX6_deposit := by decide +kernel
theorem lk_X6_deposit_f26 : Cond.fieldLink RX6 26 (TX6 2).1 (TX6 2).2.1 (TX6 2).2.2.1 ∈ wsX6_deposit := by decide +kernel
theorem lk_X6_deposit_f108 : Cond.fieldLink RX6 108 (TX1 9).1 (TX1 9).2.1 (TX1 9).2.2.1 ∈ wsX6_deposit := by decide +kernel
theorem lk_X6_deposit_f111 : Cond.fieldLink RX6 111 (TX1 6).1 (TX1 6).2.1 (TX1 6).2.2.1 ∈ wsX6_deposit := by decide +kernel
set_option maxHeartbeats 4000000 in
set_option maxRecDepth 100000 in
theorem w_X6_deposit_48 (M : z_M) (V : z_V) (hs : z_isX V) (hX : z_Cx M V cX6_deposit 5 (some .int) wsX6_deposit RX6) (x1 : Int32) (x2 : Int32) (y0 : Int32) (σ : z_St) : z_Go M rm_X6_deposit 5 V (z_QI V) σ 48 [(0, .ref (z_ad V 0)), (1, .int x1), (2, .int x2)] [.int y0] (f_X6_deposit_48 x1 x2 y0 σ) := by
  unfold f_X6_deposit_48
  refine z_istore_n (lv' := [(3, .int y0), (0, .ref (z_ad V 0)), (1, .int x1), (2, .int x2)]) hX dX6_deposit_48 rfl (by decide) rfl ?_
  refine z_iconst (v := 1) hX dX6_deposit_49 (by decide) ?_
  refine z_iload_n hX dX6_deposit_50 rfl 2 rfl ?_
  refine z_ishl hX dX6_deposit_51 ?_
  refine z_top (fun v3 => ?_)
  refine z_istore (lv' := [(4, .int v3), (3, .int y0), (0, .ref (z_ad V 0)), (1, .int x1), (2, .int x2)]) hX dX6_deposit_52 (by decide) rfl ?_
  refine z_aload_n hX dX6_deposit_54 rfl 2 rfl ?_
  refine z_getR (k := 2) hX (z_bnk0 hs) rfl rfl in_X6_deposit_X6 (by decide) lk_X6_deposit_f26 dX6_deposit_55 ?_
  refine z_iload_n hX dX6_deposit_58 rfl 4 rfl ?_
  refine z_if_eq (tgt := 75) hX dX6_deposit_59 (by decide) ?_ ?_
  · refine z_aload_n hX dX6_deposit_75 rfl 2 rfl ?_
    refine z_getR (k := 2) hX (z_bnk0 hs) rfl rfl in_X6_deposit_X6 (by decide) lk_X6_deposit_f26 dX6_deposit_76 ?_
    refine z_getI (k := 6) hX (z_led0 hs z_isled11) rfl rfl in_X6_deposit_X1 (by decide) lk_X6_deposit_f111 dX6_deposit_79 ?_
    refine z_iload hX dX6_deposit_82 0 rfl ?_
    refine z_iconst (v := -1) hX dX6_deposit_84 (by decide) ?_
    refine z_ixor hX dX6_deposit_85 ?_
    refine z_iand hX dX6_deposit_86 ?_
    refine z_put1 (k := 6) hX (z_led0 hs z_isled11) rfl rfl in_X6_deposit_X1 (by decide) lk_X6_deposit_f111 tyX1 tyX1_ok nmX1 rfl rfl rfl dX6_deposit_87 (z_bs fun s4 => ?_)
    refine z_iload_n hX dX6_deposit_90 rfl 1 rfl ?_
    exact z_iret hX dX6_deposit_91
  · refine z_aload_n hX dX6_deposit_62 rfl 2 rfl ?_
    refine z_getR (k := 2) hX (z_bnk0 hs) rfl rfl in_X6_deposit_X6 (by decide) lk_X6_deposit_f26 dX6_deposit_63 ?_
    refine z_getI (k := 6) hX (z_led0 hs z_isled11) rfl rfl in_X6_deposit_X1 (by decide) lk_X6_deposit_f111 dX6_deposit_66 ?_
    refine z_iload hX dX6_deposit_69 0 rfl ?_
    refine z_ior hX dX6_deposit_71 ?_
    refine z_goto (tgt := 87) hX dX6_deposit_72 (by decide) ?_
    refine z_put1 (k := 6) hX (z_led0 hs z_isled11) rfl rfl in_X6_deposit_X1 (by decide) lk_X6_deposit_f111 tyX1 tyX1_ok nmX1 rfl rfl rfl dX6_deposit_87 (z_bs fun s5 => ?_)
    refine z_iload_n hX dX6_deposit_90 rfl 1 rfl ?_
    exact z_iret hX dX6_deposit_91
set_option maxHeartbeats 4000000 in
set_option maxRecDepth 100000 in
theorem c_X6_deposit (l : Launch) (V : z_V) (hV : z_ok V) (hs : z_isX V) (x1 : Int32) (x2 : Int32) (σ : z_St) : z_CtI l V yX6_deposit wsX6_deposit rm_X6_deposit [.ref (z_ad V 0), .int x1, .int x2] σ (f_X6_deposit x1 x2 σ) := by
  refine z_startI (lv := [(0, .ref (z_ad V 0)), (1, .int x1), (2, .int x2)]) hV (by decide) rfl (Nat.le_of_ble_eq_true rfl) rfl ?_
  intro M hM hX
  have hX : z_Cx M V cX6_deposit 5 (some .int) wsX6_deposit RX6 := hX
  unfold f_X6_deposit
  refine z_aload_n hX dX6_deposit_0 rfl 0 rfl ?_
  refine z_iload_n hX dX6_deposit_1 rfl 1 rfl ?_
  refine z_callVI (n := 1) hX (c_X6_isIncident M.2.1 V hX.2.2.2.2.2 hs x1 σ) gX6_deposit_X6_isIncident rfl (by decide +kernel) ⟨by decide, by decide⟩ rfl rfl (z_bnk0 hs) rfl rfl rfl rfl (Nat.le_of_ble_eq_true rfl) dX6_deposit_2 (fun r1 _ => ?_)
  refine z_if_ne (tgt := 10) hX dX6_deposit_5 (by decide) ?_ ?_
  · refine z_aload_n hX dX6_deposit_10 rfl 0 rfl ?_
    refine z_getR (k := 1) hX (z_bnk0 hs) rfl rfl in_X6_deposit_X6 (by decide) lk_X6_deposit_f19 dX6_deposit_11 ?_
    refine z_getR (k := 2) hX (z_sto0 hs z_issto4) rfl rfl in_X6_deposit_X5 (by decide) lk_X6_deposit_f136 dX6_deposit_14 ?_
    refine z_iload_n hX dX6_deposit_17 rfl 1 rfl ?_
    refine z_iald hX (z_sto2 hs z_issto4) dX6_deposit_18 ?_
    refine z_aload_n hX dX6_deposit_19 rfl 0 rfl ?_
    refine z_getR (k := 2) hX (z_bnk0 hs) rfl rfl in_X6_deposit_X6 (by decide) lk_X6_deposit_f26 dX6_deposit_20 ?_
    refine z_getI (k := 9) hX (z_led0 hs z_isled11) rfl rfl in_X6_deposit_X1 (by decide) lk_X6_deposit_f108 dX6_deposit_23 ?_
    refine z_icmp_ge (tgt := 32) hX dX6_deposit_26 (by decide) ?_ ?_
    · refine z_aload_n hX dX6_deposit_32 rfl 0 rfl ?_
      refine z_getR (k := 2) hX (z_bnk0 hs) rfl rfl in_X6_deposit_X6 (by decide) lk_X6_deposit_f26 dX6_deposit_33 ?_
      refine z_iload_n hX dX6_deposit_36 rfl 1 rfl ?_
      refine z_callVI (n := 1) hX (c_X1_isDeposited M.2.1 V hX.2.2.2.2.2 hs 11 z_isled11 x1 r1.2) gX6_deposit_X1_isDeposited rfl (by decide +kernel) ⟨by decide, by decide⟩ rfl rfl (z_led0 hs z_isled11) rfl rfl rfl rfl (Nat.le_of_ble_eq_true rfl) dX6_deposit_37 (fun r2 _ => ?_)
      refine z_if_eq (tgt := 47) hX dX6_deposit_40 (by decide) ?_ ?_
      · refine z_iconst (v := 0) hX dX6_deposit_47 (by decide) ?_
        exact w_X6_deposit_48 M V hs hX x1 x2 (0 : Int32) r2.2
      · refine z_iconst (v := 1) hX dX6_deposit_43 (by decide) ?_
        refine z_goto (tgt := 48) hX dX6_deposit_44 (by decide) ?_
        exact w_X6_deposit_48 M V hs hX x1 x2 (1 : Int32) r2.2
    · refine z_bipush (v := -2) hX dX6_deposit_29 (by decide) ?_
      exact z_iret hX dX6_deposit_31
  · refine z_iconst (v := -1) hX dX6_deposit_8 (by decide) ?_
    exact z_iret hX dX6_deposit_9

abbrev rm_X6_give : Room := { frames := 1, cells := 0, slots := 0, locals := 21 }
theorem in_X6_give_X1 : ∀ w ∈ wsX10, w ∈ wsX6_give := fun w h => List.mem_cons_of_mem _ (List.mem_append_right _ h)
theorem in_X6_give_X6 : ∀ w ∈ wsX60, w ∈ wsX6_give := fun w h => List.mem_cons_of_mem _ (List.mem_append_left _ (List.mem_append_right _ h))
theorem lk_X6_give_f26 : Cond.fieldLink RX6 26 (TX6 2).1 (TX6 2).2.1 (TX6 2).2.2.1 ∈ wsX6_give := by decide +kernel
theorem lk_X6_give_f121 : Cond.fieldLink RX6 121 (TX1 2).1 (TX1 2).2.1 (TX1 2).2.2.1 ∈ wsX6_give := by decide +kernel
set_option maxHeartbeats 4000000 in
set_option maxRecDepth 100000 in
theorem c_X6_give (l : Launch) (V : z_V) (hV : z_ok V) (hs : z_isX V) (x1 : Int32) (x2 : Int32) (x3 : Int32) (σ : z_St) : z_CtI l V yX6_give wsX6_give rm_X6_give [.ref (z_ad V 0), .int x1, .int x2, .int x3] σ (f_X6_give x1 x2 x3 σ) := by
  refine z_startI (lv := [(0, .ref (z_ad V 0)), (1, .int x1), (2, .int x2), (3, .int x3)]) hV (by decide) rfl (Nat.le_of_ble_eq_true rfl) rfl ?_
  intro M hM hX
  have hX : z_Cx M V cX6_give 4 (some .int) wsX6_give RX6 := hX
  unfold f_X6_give
  refine z_aload_n hX dX6_give_0 rfl 0 rfl ?_
  refine z_iload_n hX dX6_give_1 rfl 1 rfl ?_
  refine z_callVI (n := 1) hX (c_X6_isOne M.2.1 V hX.2.2.2.2.2 hs x1 σ) gX6_give_X6_isOne rfl (by decide +kernel) ⟨by decide, by decide⟩ rfl rfl (z_bnk0 hs) rfl rfl rfl rfl (Nat.le_of_ble_eq_true rfl) dX6_give_2 (fun r1 _ => ?_)
  refine z_if_eq (tgt := 30) hX dX6_give_5 (by decide) ?_ ?_
  · refine z_iconst (v := -1) hX dX6_give_30 (by decide) ?_
    exact z_iret hX dX6_give_31
  · refine z_aload_n hX dX6_give_8 rfl 0 rfl ?_
    refine z_iload_n hX dX6_give_9 rfl 2 rfl ?_
    refine z_callVI (n := 1) hX (c_X6_isOne M.2.1 V hX.2.2.2.2.2 hs x2 r1.2) gX6_give_X6_isOne rfl (by decide +kernel) ⟨by decide, by decide⟩ rfl rfl (z_bnk0 hs) rfl rfl rfl rfl (Nat.le_of_ble_eq_true rfl) dX6_give_10 (fun r2 _ => ?_)
    refine z_if_eq (tgt := 30) hX dX6_give_13 (by decide) ?_ ?_
    · refine z_iconst (v := -1) hX dX6_give_30 (by decide) ?_
      exact z_iret hX dX6_give_31
    · refine z_iload_n hX dX6_give_16 rfl 1 rfl ?_
      refine z_iload_n hX dX6_give_17 rfl 2 rfl ?_
      refine z_icmp_eq (tgt := 30) hX dX6_give_18 (by decide) ?_ ?_
      · refine z_iconst (v := -1) hX dX6_give_30 (by decide) ?_
        exact z_iret hX dX6_give_31
      · refine z_iload_n hX dX6_give_21 rfl 3 rfl ?_
        refine z_bipush (v := 99) hX dX6_give_22 (by decide) ?_
        refine z_callSI (n := 2) hX (c_X6_isWithin M.2.1 V hX.2.2.2.2.2 hs x3 (99 : Int32) r2.2) gX6_give_X6_isWithin rfl (by decide +kernel) ⟨by decide, by decide⟩ rfl rfl rfl rfl (Nat.le_of_ble_eq_true rfl) dX6_give_24 (fun r3 _ => ?_)
        refine z_if_ne (tgt := 32) hX dX6_give_27 (by decide) ?_ ?_
        · refine z_aload_n hX dX6_give_32 rfl 0 rfl ?_
          refine z_getR (k := 2) hX (z_bnk0 hs) rfl rfl in_X6_give_X6 (by decide) lk_X6_give_f26 dX6_give_33 ?_
          refine z_getR (k := 2) hX (z_led0 hs z_isled11) rfl rfl in_X6_give_X1 (by decide) lk_X6_give_f121 dX6_give_36 ?_
          refine z_iload_n hX dX6_give_39 rfl 1 rfl ?_
          refine z_iald hX (z_led2 hs z_isled11) dX6_give_40 ?_
          refine z_iload_n hX dX6_give_41 rfl 3 rfl ?_
          refine z_icmp_ge (tgt := 48) hX dX6_give_42 (by decide) ?_ ?_
          · refine z_aload_n hX dX6_give_48 rfl 0 rfl ?_
            refine z_getR (k := 2) hX (z_bnk0 hs) rfl rfl in_X6_give_X6 (by decide) lk_X6_give_f26 dX6_give_49 ?_
            refine z_getR (k := 2) hX (z_led0 hs z_isled11) rfl rfl in_X6_give_X1 (by decide) lk_X6_give_f121 dX6_give_52 ?_
            refine z_iload_n hX dX6_give_55 rfl 2 rfl ?_
            refine z_iald hX (z_led2 hs z_isled11) dX6_give_56 ?_
            refine z_iload_n hX dX6_give_57 rfl 3 rfl ?_
            refine z_iadd hX dX6_give_58 ?_
            refine z_sipush (v := 999) hX dX6_give_59 (by decide) ?_
            refine z_icmp_le (tgt := 68) hX dX6_give_62 (by decide) ?_ ?_
            · refine z_aload_n hX dX6_give_68 rfl 0 rfl ?_
              refine z_getR (k := 2) hX (z_bnk0 hs) rfl rfl in_X6_give_X6 (by decide) lk_X6_give_f26 dX6_give_69 ?_
              refine z_getR (k := 2) hX (z_led0 hs z_isled11) rfl rfl in_X6_give_X1 (by decide) lk_X6_give_f121 dX6_give_72 ?_
              refine z_iload_n hX dX6_give_75 rfl 1 rfl ?_
              refine z_dup2 hX dX6_give_76 rfl rfl ?_
              refine z_iald hX (z_led2 hs z_isled11) dX6_give_77 ?_
              refine z_iload_n hX dX6_give_78 rfl 3 rfl ?_
              refine z_isub hX dX6_give_79 ?_
              refine z_iast hX (z_led2 hs z_isled11) dX6_give_80 (z_bs fun s4 => ?_)
              refine z_aload_n hX dX6_give_81 rfl 0 rfl ?_
              refine z_getR (k := 2) hX (z_bnk0 hs) rfl rfl in_X6_give_X6 (by decide) lk_X6_give_f26 dX6_give_82 ?_
              refine z_getR (k := 2) hX (z_led0 hs z_isled11) rfl rfl in_X6_give_X1 (by decide) lk_X6_give_f121 dX6_give_85 ?_
              refine z_iload_n hX dX6_give_88 rfl 2 rfl ?_
              refine z_dup2 hX dX6_give_89 rfl rfl ?_
              refine z_iald hX (z_led2 hs z_isled11) dX6_give_90 ?_
              refine z_iload_n hX dX6_give_91 rfl 3 rfl ?_
              refine z_iadd hX dX6_give_92 ?_
              refine z_iast hX (z_led2 hs z_isled11) dX6_give_93 (z_bs fun s5 => ?_)
              refine z_aload_n hX dX6_give_94 rfl 0 rfl ?_
              refine z_getR (k := 2) hX (z_bnk0 hs) rfl rfl in_X6_give_X6 (by decide) lk_X6_give_f26 dX6_give_95 ?_
              refine z_getR (k := 2) hX (z_led0 hs z_isled11) rfl rfl in_X6_give_X1 (by decide) lk_X6_give_f121 dX6_give_98 ?_
              refine z_iload_n hX dX6_give_101 rfl 1 rfl ?_
              refine z_iald hX (z_led2 hs z_isled11) dX6_give_102 ?_
              exact z_iret hX dX6_give_103
            · refine z_bipush (v := -3) hX dX6_give_65 (by decide) ?_
              exact z_iret hX dX6_give_67
          · refine z_bipush (v := -2) hX dX6_give_45 (by decide) ?_
            exact z_iret hX dX6_give_47
        · refine z_iconst (v := -1) hX dX6_give_30 (by decide) ?_
          exact z_iret hX dX6_give_31

abbrev rm_X6_draw : Room := { frames := 2, cells := 0, slots := 0, locals := 43 }
theorem in_X6_draw_X6 : ∀ w ∈ wsX60, w ∈ wsX6_draw := fun w h => List.mem_cons_of_mem _ (List.mem_append_left _ (List.mem_append_right _ h))
theorem lk_X6_draw_f26 : Cond.fieldLink RX6 26 (TX6 2).1 (TX6 2).2.1 (TX6 2).2.2.1 ∈ wsX6_draw := by decide +kernel
set_option maxHeartbeats 4000000 in
set_option maxRecDepth 100000 in
theorem c_X6_draw (l : Launch) (V : z_V) (hV : z_ok V) (hs : z_isX V) (x1 : Int32) (x2 : Int32) (σ : z_St) : z_CtI l V yX6_draw wsX6_draw rm_X6_draw [.ref (z_ad V 0), .int x1, .int x2] σ (f_X6_draw x1 x2 σ) := by
  refine z_startI (lv := [(0, .ref (z_ad V 0)), (1, .int x1), (2, .int x2)]) hV (by decide) rfl (Nat.le_of_ble_eq_true rfl) rfl ?_
  intro M hM hX
  have hX : z_Cx M V cX6_draw 3 (some .int) wsX6_draw RX6 := hX
  unfold f_X6_draw
  refine z_aload_n hX dX6_draw_0 rfl 0 rfl ?_
  refine z_getR (k := 2) hX (z_bnk0 hs) rfl rfl in_X6_draw_X6 (by decide) lk_X6_draw_f26 dX6_draw_1 ?_
  refine z_iload_n hX dX6_draw_4 rfl 1 rfl ?_
  refine z_iload_n hX dX6_draw_5 rfl 2 rfl ?_
  refine z_callVI (n := 2) hX (c_X1_takeOut M.2.1 V hX.2.2.2.2.2 hs 11 z_isled11 x1 x2 σ) gX6_draw_X1_takeOut rfl (by decide +kernel) ⟨by decide, by decide⟩ rfl rfl (z_led0 hs z_isled11) rfl rfl rfl rfl (Nat.le_of_ble_eq_true rfl) dX6_draw_6 (fun r1 _ => ?_)
  exact z_iret hX dX6_draw_9

abbrev rm_X6_rumour : Room := { frames := 1, cells := 0, slots := 0, locals := 24 }
theorem in_X6_rumour_X6 : ∀ w ∈ wsX60, w ∈ wsX6_rumour := fun w h => List.mem_cons_of_mem _ (List.mem_append_left _ (List.mem_append_left _ (List.mem_append_right _ h)))
theorem lk_X6_rumour_f26 : Cond.fieldLink RX6 26 (TX6 2).1 (TX6 2).2.1 (TX6 2).2.2.1 ∈ wsX6_rumour := by decide +kernel
theorem lk_X6_rumour_f19 : Cond.fieldLink RX6 19 (TX6 1).1 (TX6 1).2.1 (TX6 1).2.2.1 ∈ wsX6_rumour := by decide +kernel
set_option maxHeartbeats 4000000 in
set_option maxRecDepth 100000 in
theorem c_X6_rumour (l : Launch) (V : z_V) (hV : z_ok V) (hs : z_isX V) (x1 : Int32) (σ : z_St) : z_CtI l V yX6_rumour wsX6_rumour rm_X6_rumour [.ref (z_ad V 0), .int x1] σ (f_X6_rumour x1 σ) := by
  refine z_startI (lv := [(0, .ref (z_ad V 0)), (1, .int x1)]) hV (by decide) rfl (Nat.le_of_ble_eq_true rfl) rfl ?_
  intro M hM hX
  have hX : z_Cx M V cX6_rumour 2 (some .int) wsX6_rumour RX6 := hX
  unfold f_X6_rumour
  refine z_aload_n hX dX6_rumour_0 rfl 0 rfl ?_
  refine z_iload_n hX dX6_rumour_1 rfl 1 rfl ?_
  refine z_callVI (n := 1) hX (c_X6_isOne M.2.1 V hX.2.2.2.2.2 hs x1 σ) gX6_rumour_X6_isOne rfl (by decide +kernel) ⟨by decide, by decide⟩ rfl rfl (z_bnk0 hs) rfl rfl rfl rfl (Nat.le_of_ble_eq_true rfl) dX6_rumour_2 (fun r1 _ => ?_)
  refine z_if_eq (tgt := 23) hX dX6_rumour_5 (by decide) ?_ ?_
  · refine z_iconst (v := -1) hX dX6_rumour_23 (by decide) ?_
    exact z_iret hX dX6_rumour_24
  · refine z_aload_n hX dX6_rumour_8 rfl 0 rfl ?_
    refine z_getR (k := 2) hX (z_bnk0 hs) rfl rfl in_X6_rumour_X6 (by decide) lk_X6_rumour_f26 dX6_rumour_9 ?_
    refine z_aload_n hX dX6_rumour_12 rfl 0 rfl ?_
    refine z_getR (k := 1) hX (z_bnk0 hs) rfl rfl in_X6_rumour_X6 (by decide) lk_X6_rumour_f19 dX6_rumour_13 ?_
    refine z_iload_n hX dX6_rumour_16 rfl 1 rfl ?_
    refine z_callVI (n := 2) hX (c_X1_spreadRumour M.2.1 V hX.2.2.2.2.2 hs 11 z_isled11 4 z_issto4 x1 r1.2) gX6_rumour_X1_spreadRumour rfl (by decide +kernel) ⟨by decide, by decide⟩ rfl rfl (z_led0 hs z_isled11) rfl rfl rfl rfl (Nat.le_of_ble_eq_true rfl) dX6_rumour_17 (fun r2 _ => ?_)
    refine z_goto (tgt := 24) hX dX6_rumour_20 (by decide) ?_
    exact z_iret hX dX6_rumour_24

abbrev rm_X6_law : Room := { frames := 1, cells := 0, slots := 0, locals := 21 }
theorem in_X6_law_X1 : ∀ w ∈ wsX10, w ∈ wsX6_law := fun w h => List.mem_cons_of_mem _ (List.mem_append_right _ h)
theorem in_X6_law_X6 : ∀ w ∈ wsX60, w ∈ wsX6_law := fun w h => List.mem_cons_of_mem _ (List.mem_append_left _ (List.mem_append_right _ h))
theorem lk_X6_law_f26 : Cond.fieldLink RX6 26 (TX6 2).1 (TX6 2).2.1 (TX6 2).2.2.1 ∈ wsX6_law := by decide +kernel
theorem lk_X6_law_f105 : Cond.fieldLink RX6 105 (TX1 8).1 (TX1 8).2.1 (TX1 8).2.2.1 ∈ wsX6_law := by decide +kernel
theorem lk_X6_law_f102 : Cond.fieldLink RX6 102 (TX1 7).1 (TX1 7).2.1 (TX1 7).2.2.1 ∈ wsX6_law := by decide +kernel
set_option maxHeartbeats 4000000 in
set_option maxRecDepth 100000 in
theorem w_X6_law_31 (M : z_M) (V : z_V) (hs : z_isX V) (hX : z_Cx M V cX6_law 4 (some .int) wsX6_law RX6) (x1 : Int32) (x2 : Int32) (σ : z_St) : z_Go M rm_X6_law 4 V (z_QI V) σ 31 [(0, .ref (z_ad V 0)), (1, .int x1), (2, .int x2)] [] (f_X6_law_31 x1 x2 σ) := by
  unfold f_X6_law_31
  refine z_iload_n hX dX6_law_31 rfl 1 rfl ?_
  refine z_iconst (v := 1) hX dX6_law_32 (by decide) ?_
  refine z_icmp_ne (tgt := 63) hX dX6_law_33 (by decide) ?_ ?_
  · refine z_iconst (v := -1) hX dX6_law_63 (by decide) ?_
    exact z_iret hX dX6_law_64
  · refine z_iload_n hX dX6_law_36 rfl 2 rfl ?_
    refine z_bipush (v := 99) hX dX6_law_37 (by decide) ?_
    refine z_callSI (n := 2) hX (c_X6_isWithin M.2.1 V hX.2.2.2.2.2 hs x2 (99 : Int32) σ) gX6_law_X6_isWithin rfl (by decide +kernel) ⟨by decide, by decide⟩ rfl rfl rfl rfl (Nat.le_of_ble_eq_true rfl) dX6_law_39 (fun r1 _ => ?_)
    refine z_if_eq (tgt := 63) hX dX6_law_42 (by decide) ?_ ?_
    · refine z_iconst (v := -1) hX dX6_law_63 (by decide) ?_
      exact z_iret hX dX6_law_64
    · refine z_aload_n hX dX6_law_45 rfl 0 rfl ?_
      refine z_getR (k := 2) hX (z_bnk0 hs) rfl rfl in_X6_law_X6 (by decide) lk_X6_law_f26 dX6_law_46 ?_
      refine z_getI (k := 8) hX (z_led0 hs z_isled11) rfl rfl in_X6_law_X1 (by decide) lk_X6_law_f105 dX6_law_49 ?_
      refine z_istore_n (lv' := [(3, .int (r1.2 11 8)), (0, .ref (z_ad V 0)), (1, .int x1), (2, .int x2)]) hX dX6_law_52 rfl (by decide) rfl ?_
      refine z_aload_n hX dX6_law_53 rfl 1 rfl ?_
      refine z_getR (k := 2) hX (z_bnk0 hs) rfl rfl in_X6_law_X6 (by decide) lk_X6_law_f26 dX6_law_54 ?_
      refine z_iload_n hX dX6_law_57 rfl 3 rfl ?_
      refine z_put1 (k := 8) hX (z_led0 hs z_isled11) rfl rfl in_X6_law_X1 (by decide) lk_X6_law_f105 tyX1 tyX1_ok nmX1 rfl rfl rfl dX6_law_58 (z_bs fun s2 => ?_)
      refine z_iload_n hX dX6_law_61 rfl 0 rfl ?_
      exact z_iret hX dX6_law_62
set_option maxHeartbeats 4000000 in
set_option maxRecDepth 100000 in
theorem c_X6_law (l : Launch) (V : z_V) (hV : z_ok V) (hs : z_isX V) (x1 : Int32) (x2 : Int32) (σ : z_St) : z_CtI l V yX6_law wsX6_law rm_X6_law [.ref (z_ad V 0), .int x1, .int x2] σ (f_X6_law x1 x2 σ) := by
  refine z_startI (lv := [(0, .ref (z_ad V 0)), (1, .int x1), (2, .int x2)]) hV (by decide) rfl (Nat.le_of_ble_eq_true rfl) rfl ?_
  intro M hM hX
  have hX : z_Cx M V cX6_law 4 (some .int) wsX6_law RX6 := hX
  unfold f_X6_law
  refine z_iload_n hX dX6_law_0 rfl 1 rfl ?_
  refine z_if_ne (tgt := 31) hX dX6_law_1 (by decide) ?_ ?_
  · exact w_X6_law_31 M V hs hX x1 x2 σ
  · refine z_iload_n hX dX6_law_4 rfl 2 rfl ?_
    refine z_bipush (v := 9) hX dX6_law_5 (by decide) ?_
    refine z_callSI (n := 2) hX (c_X6_isWithin M.2.1 V hX.2.2.2.2.2 hs x2 (9 : Int32) σ) gX6_law_X6_isWithin rfl (by decide +kernel) ⟨by decide, by decide⟩ rfl rfl rfl rfl (Nat.le_of_ble_eq_true rfl) dX6_law_7 (fun r3 _ => ?_)
    refine z_if_eq (tgt := 31) hX dX6_law_10 (by decide) ?_ ?_
    · exact w_X6_law_31 M V hs hX x1 x2 r3.2
    · refine z_aload_n hX dX6_law_13 rfl 0 rfl ?_
      refine z_getR (k := 2) hX (z_bnk0 hs) rfl rfl in_X6_law_X6 (by decide) lk_X6_law_f26 dX6_law_14 ?_
      refine z_getI (k := 7) hX (z_led0 hs z_isled11) rfl rfl in_X6_law_X1 (by decide) lk_X6_law_f102 dX6_law_17 ?_
      refine z_istore_n (lv' := [(3, .int (r3.2 11 7)), (0, .ref (z_ad V 0)), (1, .int x1), (2, .int x2)]) hX dX6_law_20 rfl (by decide) rfl ?_
      refine z_aload_n hX dX6_law_21 rfl 1 rfl ?_
      refine z_getR (k := 2) hX (z_bnk0 hs) rfl rfl in_X6_law_X6 (by decide) lk_X6_law_f26 dX6_law_22 ?_
      refine z_iload_n hX dX6_law_25 rfl 3 rfl ?_
      refine z_put1 (k := 7) hX (z_led0 hs z_isled11) rfl rfl in_X6_law_X1 (by decide) lk_X6_law_f102 tyX1 tyX1_ok nmX1 rfl rfl rfl dX6_law_26 (z_bs fun s4 => ?_)
      refine z_iload_n hX dX6_law_29 rfl 0 rfl ?_
      exact z_iret hX dX6_law_30

abbrev rm_X6_teach : Room := { frames := 1, cells := 0, slots := 0, locals := 21 }
theorem in_X6_teach_X1 : ∀ w ∈ wsX10, w ∈ wsX6_teach := fun w h => List.mem_cons_of_mem _ (List.mem_append_right _ h)
theorem in_X6_teach_X6 : ∀ w ∈ wsX60, w ∈ wsX6_teach := fun w h => List.mem_cons_of_mem _ (List.mem_append_left _ (List.mem_append_right _ h))
theorem lk_X6_teach_f26 : Cond.fieldLink RX6 26 (TX6 2).1 (TX6 2).2.1 (TX6 2).2.2.1 ∈ wsX6_teach := by decide +kernel
theorem lk_X6_teach_f118 : Cond.fieldLink RX6 118 (TX1 1).1 (TX1 1).2.1 (TX1 1).2.2.1 ∈ wsX6_teach := by decide +kernel
set_option maxHeartbeats 4000000 in
set_option maxRecDepth 100000 in
theorem c_X6_teach (l : Launch) (V : z_V) (hV : z_ok V) (hs : z_isX V) (x1 : Int32) (x2 : Int32) (σ : z_St) : z_CtI l V yX6_teach wsX6_teach rm_X6_teach [.ref (z_ad V 0), .int x1, .int x2] σ (f_X6_teach x1 x2 σ) := by
  refine z_startI (lv := [(0, .ref (z_ad V 0)), (1, .int x1), (2, .int x2)]) hV (by decide) rfl (Nat.le_of_ble_eq_true rfl) rfl ?_
  intro M hM hX
  have hX : z_Cx M V cX6_teach 4 (some .int) wsX6_teach RX6 := hX
  unfold f_X6_teach
  refine z_aload_n hX dX6_teach_0 rfl 0 rfl ?_
  refine z_iload_n hX dX6_teach_1 rfl 1 rfl ?_
  refine z_callVI (n := 1) hX (c_X6_isOne M.2.1 V hX.2.2.2.2.2 hs x1 σ) gX6_teach_X6_isOne rfl (by decide +kernel) ⟨by decide, by decide⟩ rfl rfl (z_bnk0 hs) rfl rfl rfl rfl (Nat.le_of_ble_eq_true rfl) dX6_teach_2 (fun r1 _ => ?_)
  refine z_if_eq (tgt := 16) hX dX6_teach_5 (by decide) ?_ ?_
  · refine z_iconst (v := -1) hX dX6_teach_16 (by decide) ?_
    exact z_iret hX dX6_teach_17
  · refine z_iload_n hX dX6_teach_8 rfl 2 rfl ?_
    refine z_iconst (v := 3) hX dX6_teach_9 (by decide) ?_
    refine z_callSI (n := 2) hX (c_X6_isWithin M.2.1 V hX.2.2.2.2.2 hs x2 (3 : Int32) r1.2) gX6_teach_X6_isWithin rfl (by decide +kernel) ⟨by decide, by decide⟩ rfl rfl rfl rfl (Nat.le_of_ble_eq_true rfl) dX6_teach_10 (fun r2 _ => ?_)
    refine z_if_ne (tgt := 18) hX dX6_teach_13 (by decide) ?_ ?_
    · refine z_aload_n hX dX6_teach_18 rfl 0 rfl ?_
      refine z_getR (k := 2) hX (z_bnk0 hs) rfl rfl in_X6_teach_X6 (by decide) lk_X6_teach_f26 dX6_teach_19 ?_
      refine z_getR (k := 1) hX (z_led0 hs z_isled11) rfl rfl in_X6_teach_X1 (by decide) lk_X6_teach_f118 dX6_teach_22 ?_
      refine z_iload_n hX dX6_teach_25 rfl 1 rfl ?_
      refine z_iald hX (z_led1 hs z_isled11) dX6_teach_26 ?_
      refine z_top (fun v3 => ?_)
      refine z_istore_n (lv' := [(3, .int v3), (0, .ref (z_ad V 0)), (1, .int x1), (2, .int x2)]) hX dX6_teach_27 rfl (by decide) rfl ?_
      refine z_aload_n hX dX6_teach_28 rfl 1 rfl ?_
      refine z_getR (k := 2) hX (z_bnk0 hs) rfl rfl in_X6_teach_X6 (by decide) lk_X6_teach_f26 dX6_teach_29 ?_
      refine z_getR (k := 1) hX (z_led0 hs z_isled11) rfl rfl in_X6_teach_X1 (by decide) lk_X6_teach_f118 dX6_teach_32 ?_
      refine z_iload_n hX dX6_teach_35 rfl 2 rfl ?_
      refine z_iload_n hX dX6_teach_36 rfl 3 rfl ?_
      refine z_iast hX (z_led1 hs z_isled11) dX6_teach_37 (z_bs fun s4 => ?_)
      refine z_iload_n hX dX6_teach_38 rfl 0 rfl ?_
      exact z_iret hX dX6_teach_39
    · refine z_iconst (v := -1) hX dX6_teach_16 (by decide) ?_
      exact z_iret hX dX6_teach_17
