abbrev rm_X7_best : Room := { frames := 5, cells := 0, slots := 0, locals := 115 }
theorem in_X7_best_X7 : ∀ w ∈ wsX70, w ∈ wsX7_best := fun w h => List.mem_cons_of_mem _ (List.mem_append_right _ h)
theorem lk_X7_best_c256 : Cond.constant RX7 256 1000000 ∈ wsX7_best := by decide +kernel
theorem lk_X7_best_f102 : Cond.fieldLink RX7 102 (TX7 4).1 (TX7 4).2.1 (TX7 4).2.2.1 ∈ wsX7_best := by decide +kernel
set_option maxHeartbeats 4000000 in
set_option maxRecDepth 100000 in
theorem w_X7_best_75 (M : z_M) (V : z_V) (hs : z_isM V) (hX : z_Cx M V cX7_best 6 (some .int) wsX7_best RX7) (K18 : Int32 → Int32 → Int32 → Int32 → z_St → Option (Int32 × z_St)) (hK18 : ∀ (x1 : Int32) (x2 : Int32) (x3 : Int32) (x4 : Int32) (σ : z_St), z_Go M rm_X7_best 6 V (z_QI V) σ 18 [(0, .ref (z_ad V 0)), (1, .int x1), (2, .int x2), (3, .int x3), (4, .int x4)] [] (K18 x1 x2 x3 x4 σ)) (x1 : Int32) (x2 : Int32) (x4 : Int32) (x5 : Int32) (y0 : Int32) (σ : z_St) : z_Go M rm_X7_best 6 V (z_QI V) σ 75 [(0, .ref (z_ad V 0)), (1, .int x1), (2, .int x2), (4, .int x4), (5, .int x5)] [.int y0] (f_X7_best_75 K18 x1 x2 x4 x5 y0 σ) := by
  unfold f_X7_best_75
  refine z_istore_n (lv' := [(3, .int y0), (0, .ref (z_ad V 0)), (1, .int x1), (2, .int x2), (4, .int x4), (5, .int x5)]) hX dX7_best_75 rfl (by decide) rfl ?_
  refine z_iload hX dX7_best_76 5 rfl ?_
  refine z_iload_n hX dX7_best_78 rfl 3 rfl ?_
  refine z_icmp_ge (tgt := 87) hX dX7_best_79 (by decide) ?_ ?_
  · refine z_iload_n hX dX7_best_87 rfl 3 rfl ?_
    refine z_istore_n (lv' := [(2, .int x2), (3, .int y0), (0, .ref (z_ad V 0)), (1, .int x1), (4, .int x4), (5, .int x5)]) hX dX7_best_88 rfl (by decide) rfl ?_
    refine z_iinc (v := (x4 + 1)) (lv' := [(4, .int (x4 + 1)), (2, .int x2), (3, .int y0), (0, .ref (z_ad V 0)), (1, .int x1), (5, .int x5)]) hX dX7_best_89 4 rfl rfl (by decide) rfl ?_
    refine z_goto (tgt := 18) hX dX7_best_92 (by decide) ?_
    refine z_sub [3, 4, 1, 2, 0] rfl ?_
    exact hK18 x1 x2 y0 (x4 + 1) σ
  · refine z_iload hX dX7_best_82 5 rfl ?_
    refine z_goto (tgt := 88) hX dX7_best_84 (by decide) ?_
    refine z_istore_n (lv' := [(2, .int x5), (3, .int y0), (0, .ref (z_ad V 0)), (1, .int x1), (4, .int x4), (5, .int x5)]) hX dX7_best_88 rfl (by decide) rfl ?_
    refine z_iinc (v := (x4 + 1)) (lv' := [(4, .int (x4 + 1)), (2, .int x5), (3, .int y0), (0, .ref (z_ad V 0)), (1, .int x1), (5, .int x5)]) hX dX7_best_89 4 rfl rfl (by decide) rfl ?_
    refine z_goto (tgt := 18) hX dX7_best_92 (by decide) ?_
    refine z_sub [3, 4, 1, 2, 0] rfl ?_
    exact hK18 x1 x5 y0 (x4 + 1) σ
set_option maxHeartbeats 4000000 in
set_option maxRecDepth 100000 in
theorem w_X7_best_18 (M : z_M) (V : z_V) (hs : z_isM V) (hX : z_Cx M V cX7_best 6 (some .int) wsX7_best RX7) : ∀ (n : Nat) (x1 : Int32) (x2 : Int32) (x3 : Int32) (x4 : Int32) (σ : z_St), z_Go M rm_X7_best 6 V (z_QI V) σ 18 [(0, .ref (z_ad V 0)), (1, .int x1), (2, .int x2), (3, .int x3), (4, .int x4)] [] (f_X7_best_18 n x1 x2 x3 x4 σ) := by
  intro n
  induction n with
  | zero => intro x1 x2 x3 x4 σ; exact z_none
  | succ n ih =>
    intro x1 x2 x3 x4 σ
    rw [f_X7_best_18]
    refine z_iload hX dX7_best_18 4 rfl ?_
    refine z_iconst (v := 1) hX dX7_best_20 (by decide) ?_
    refine z_aload_n hX dX7_best_21 rfl 0 rfl ?_
    refine z_getI (k := 4) hX (z_mod0 hs) rfl rfl in_X7_best_X7 (by decide) lk_X7_best_f102 dX7_best_22 ?_
    refine z_ishl hX dX7_best_25 ?_
    refine z_icmp_ge (tgt := 95) hX dX7_best_26 (by decide) ?_ ?_
    · refine z_iload_n hX dX7_best_95 rfl 1 rfl ?_
      refine z_if_ne (tgt := 103) hX dX7_best_96 (by decide) ?_ ?_
      · refine z_iload_n hX dX7_best_103 rfl 2 rfl ?_
        refine z_bipush (v := 10) hX dX7_best_104 (by decide) ?_
        refine z_idivc hX dX7_best_106 (by decide) ?_
        exact z_iret hX dX7_best_107
      · refine z_iload_n hX dX7_best_99 rfl 3 rfl ?_
        refine z_goto (tgt := 107) hX dX7_best_100 (by decide) ?_
        exact z_iret hX dX7_best_107
    · refine z_aload_n hX dX7_best_29 rfl 0 rfl ?_
      refine z_iload hX dX7_best_30 4 rfl ?_
      refine z_callVI (n := 1) hX (c_X7_isPlan M.2.1 V hX.2.2.2.2.2 hs x4 σ) gX7_best_X7_isPlan rfl (by decide +kernel) ⟨by decide, by decide⟩ rfl rfl (z_mod0 hs) rfl rfl rfl rfl (Nat.le_of_ble_eq_true rfl) dX7_best_32 (fun r2 _ => ?_)
      refine z_if_eq (tgt := 89) hX dX7_best_35 (by decide) ?_ ?_
      · refine z_iinc (v := (x4 + 1)) (lv' := [(4, .int (x4 + 1)), (0, .ref (z_ad V 0)), (1, .int x1), (2, .int x2), (3, .int x3)]) hX dX7_best_89 4 rfl rfl (by decide) rfl ?_
        refine z_goto (tgt := 18) hX dX7_best_92 (by decide) ?_
        refine z_sub [1, 2, 3, 4, 0] rfl ?_
        exact ih x1 x2 x3 (x4 + 1) r2.2
      · refine z_aload_n hX dX7_best_38 rfl 0 rfl ?_
        refine z_iload hX dX7_best_39 4 rfl ?_
        refine z_callVV (n := 1) hX (c_X7_startsBy M.2.1 V hX.2.2.2.2.2 hs x4 r2.2) gX7_best_X7_startsBy rfl (by decide +kernel) ⟨by decide, by decide⟩ rfl rfl (z_mod0 hs) rfl rfl rfl rfl (Nat.le_of_ble_eq_true rfl) dX7_best_41 (fun r3 _ => ?_)
        refine z_bipush (v := 10) hX dX7_best_44 (by decide) ?_
        refine z_aload_n hX dX7_best_46 rfl 0 rfl ?_
        refine z_aload_n hX dX7_best_47 rfl 0 rfl ?_
        refine z_callVI (n := 0) hX (c_X7_weeksLeft M.2.1 V hX.2.2.2.2.2 hs r3.2) gX7_best_X7_weeksLeft rfl (by decide +kernel) ⟨by decide, by decide⟩ rfl rfl (z_mod0 hs) rfl rfl rfl rfl (Nat.le_of_ble_eq_true rfl) dX7_best_48 (fun r4 _ => ?_)
        refine z_callVI (n := 1) hX (c_X7_brazenIn M.2.1 V hX.2.2.2.2.2 hs r4.1 r4.2) gX7_best_X7_brazenIn rfl (by decide +kernel) ⟨by decide, by decide⟩ rfl rfl (z_mod0 hs) rfl rfl rfl rfl (Nat.le_of_ble_eq_true rfl) dX7_best_51 (fun r5 _ => ?_)
        refine z_imul hX dX7_best_54 ?_
        refine z_iload hX dX7_best_55 4 rfl ?_
        refine z_callSI (n := 1) hX (c_X7_bitsOf M.2.1 V hX.2.2.2.2.2 hs x4 r5.2) gX7_best_X7_bitsOf rfl (by decide +kernel) ⟨by decide, by decide⟩ rfl rfl rfl rfl (Nat.le_of_ble_eq_true rfl) dX7_best_57 (fun r6 _ => ?_)
        refine z_iadd hX dX7_best_60 ?_
        refine z_top (fun v7 => ?_)
        refine z_istore (lv' := [(5, .int v7), (0, .ref (z_ad V 0)), (1, .int x1), (2, .int x2), (3, .int x3), (4, .int x4)]) hX dX7_best_61 (by decide) rfl ?_
        refine z_iload hX dX7_best_63 0 rfl ?_
        refine z_iload_n hX dX7_best_65 rfl 3 rfl ?_
        refine z_icmp_ge (tgt := 74) hX dX7_best_66 (by decide) ?_ ?_
        · refine z_iload_n hX dX7_best_74 rfl 4 rfl ?_
          refine z_sub [1, 2, 3, 5, 0] rfl ?_
          exact w_X7_best_75 M V hs hX (fun x1 x2 x3 x4 σ => f_X7_best_18 n x1 x2 x3 x4 σ) ih x1 x2 x4 v7 x3 r6.2
        · refine z_iload hX dX7_best_69 5 rfl ?_
          refine z_goto (tgt := 75) hX dX7_best_71 (by decide) ?_
          refine z_sub [1, 2, 3, 5, 0] rfl ?_
          exact w_X7_best_75 M V hs hX (fun x1 x2 x3 x4 σ => f_X7_best_18 n x1 x2 x3 x4 σ) ih x1 x2 x4 v7 x4 r6.2
set_option maxHeartbeats 4000000 in
set_option maxRecDepth 100000 in
theorem c_X7_best (l : Launch) (V : z_V) (hV : z_ok V) (hs : z_isM V) (x1 : Int32) (σ : z_St) : z_CtI l V yX7_best wsX7_best rm_X7_best [.ref (z_ad V 0), .int x1] σ (f_X7_best x1 σ) := by
  refine z_startI (lv := [(0, .ref (z_ad V 0)), (1, .int x1)]) hV (by decide) rfl (Nat.le_of_ble_eq_true rfl) rfl ?_
  intro M hM hX
  have hX : z_Cx M V cX7_best 6 (some .int) wsX7_best RX7 := hX
  unfold f_X7_best
  refine z_iload_n hX dX7_best_0 rfl 1 rfl ?_
  refine z_callSI (n := 1) hX (c_X7_isPart M.2.1 V hX.2.2.2.2.2 hs x1 σ) gX7_best_X7_isPart rfl (by decide +kernel) ⟨by decide, by decide⟩ rfl rfl rfl rfl (Nat.le_of_ble_eq_true rfl) dX7_best_1 (fun r1 _ => ?_)
  refine z_if_ne (tgt := 9) hX dX7_best_4 (by decide) ?_ ?_
  · refine z_ldcw (v := 1000000) hX lk_X7_best_c256 dX7_best_9 ?_
    refine z_istore_n (lv' := [(2, .int (1000000 : Int32)), (0, .ref (z_ad V 0)), (1, .int x1)]) hX dX7_best_12 rfl (by decide) rfl ?_
    refine z_iconst (v := 0) hX dX7_best_13 (by decide) ?_
    refine z_istore_n (lv' := [(3, .int (0 : Int32)), (2, .int (1000000 : Int32)), (0, .ref (z_ad V 0)), (1, .int x1)]) hX dX7_best_14 rfl (by decide) rfl ?_
    refine z_iconst (v := 0) hX dX7_best_15 (by decide) ?_
    refine z_istore (lv' := [(4, .int (0 : Int32)), (3, .int (0 : Int32)), (2, .int (1000000 : Int32)), (0, .ref (z_ad V 0)), (1, .int x1)]) hX dX7_best_16 (by decide) rfl ?_
    refine z_sub [3, 4, 2, 1, 0] rfl ?_
    exact w_X7_best_18 M V hs hX 200 x1 (1000000 : Int32) (0 : Int32) (0 : Int32) r1.2
  · refine z_iconst (v := -1) hX dX7_best_7 (by decide) ?_
    exact z_iret hX dX7_best_8

abbrev rm_X7_save : Room := { frames := 4, cells := 0, slots := 0, locals := 94 }
theorem in_X7_save_X7 : ∀ w ∈ wsX70, w ∈ wsX7_save := fun w h => List.mem_cons_of_mem _ (List.mem_append_right _ h)
theorem lk_X7_save_c256 : Cond.constant RX7 256 1000000 ∈ wsX7_save := by decide +kernel
theorem lk_X7_save_f102 : Cond.fieldLink RX7 102 (TX7 4).1 (TX7 4).2.1 (TX7 4).2.2.1 ∈ wsX7_save := by decide +kernel
theorem lk_X7_save_f7 : Cond.fieldLink RX7 7 (TX7 0).1 (TX7 0).2.1 (TX7 0).2.2.1 ∈ wsX7_save := by decide +kernel
set_option maxHeartbeats 4000000 in
set_option maxRecDepth 100000 in
theorem w_X7_save_100 (M : z_M) (V : z_V) (hs : z_isM V) (hX : z_Cx M V cX7_save 6 (some .int) wsX7_save RX7) (K20 : Int32 → Int32 → Int32 → Int32 → z_St → Option (Int32 × z_St)) (hK20 : ∀ (x1 : Int32) (x2 : Int32) (x3 : Int32) (x4 : Int32) (σ : z_St), z_Go M rm_X7_save 6 V (z_QI V) σ 20 [(0, .ref (z_ad V 0)), (1, .int x1), (2, .int x2), (3, .int x3), (4, .int x4)] [] (K20 x1 x2 x3 x4 σ)) (x1 : Int32) (x2 : Int32) (x4 : Int32) (x5 : Int32) (y0 : Int32) (σ : z_St) : z_Go M rm_X7_save 6 V (z_QI V) σ 100 [(0, .ref (z_ad V 0)), (1, .int x1), (2, .int x2), (4, .int x4), (5, .int x5)] [.int y0] (f_X7_save_100 K20 x1 x2 x4 x5 y0 σ) := by
  unfold f_X7_save_100
  refine z_istore_n (lv' := [(3, .int y0), (0, .ref (z_ad V 0)), (1, .int x1), (2, .int x2), (4, .int x4), (5, .int x5)]) hX dX7_save_100 rfl (by decide) rfl ?_
  refine z_iload hX dX7_save_101 5 rfl ?_
  refine z_if_eq (tgt := 114) hX dX7_save_103 (by decide) ?_ ?_
  · refine z_iload_n hX dX7_save_114 rfl 3 rfl ?_
    refine z_istore_n (lv' := [(2, .int x2), (3, .int y0), (0, .ref (z_ad V 0)), (1, .int x1), (4, .int x4), (5, .int x5)]) hX dX7_save_115 rfl (by decide) rfl ?_
    refine z_iinc (v := (x4 + 1)) (lv' := [(4, .int (x4 + 1)), (2, .int x2), (3, .int y0), (0, .ref (z_ad V 0)), (1, .int x1), (5, .int x5)]) hX dX7_save_116 4 rfl rfl (by decide) rfl ?_
    refine z_goto (tgt := 20) hX dX7_save_119 (by decide) ?_
    refine z_sub [3, 4, 1, 2, 0] rfl ?_
    exact hK20 x1 x2 y0 (x4 + 1) σ
  · refine z_iload hX dX7_save_106 4 rfl ?_
    refine z_callSI (n := 1) hX (c_X7_bitsOf M.2.1 V hX.2.2.2.2.2 hs x4 σ) gX7_save_X7_bitsOf rfl (by decide +kernel) ⟨by decide, by decide⟩ rfl rfl rfl rfl (Nat.le_of_ble_eq_true rfl) dX7_save_108 (fun r8 _ => ?_)
    refine z_goto (tgt := 115) hX dX7_save_111 (by decide) ?_
    refine z_istore_n (lv' := [(2, .int r8.1), (3, .int y0), (0, .ref (z_ad V 0)), (1, .int x1), (4, .int x4), (5, .int x5)]) hX dX7_save_115 rfl (by decide) rfl ?_
    refine z_iinc (v := (x4 + 1)) (lv' := [(4, .int (x4 + 1)), (2, .int r8.1), (3, .int y0), (0, .ref (z_ad V 0)), (1, .int x1), (5, .int x5)]) hX dX7_save_116 4 rfl rfl (by decide) rfl ?_
    refine z_goto (tgt := 20) hX dX7_save_119 (by decide) ?_
    refine z_sub [3, 4, 1, 2, 0] rfl ?_
    exact hK20 x1 r8.1 y0 (x4 + 1) r8.2
set_option maxHeartbeats 4000000 in
set_option maxRecDepth 100000 in
theorem w_X7_save_20 (M : z_M) (V : z_V) (hs : z_isM V) (hX : z_Cx M V cX7_save 6 (some .int) wsX7_save RX7) : ∀ (n : Nat) (x1 : Int32) (x2 : Int32) (x3 : Int32) (x4 : Int32) (σ : z_St), z_Go M rm_X7_save 6 V (z_QI V) σ 20 [(0, .ref (z_ad V 0)), (1, .int x1), (2, .int x2), (3, .int x3), (4, .int x4)] [] (f_X7_save_20 n x1 x2 x3 x4 σ) := by
  intro n
  induction n with
  | zero => intro x1 x2 x3 x4 σ; exact z_none
  | succ n ih =>
    intro x1 x2 x3 x4 σ
    rw [f_X7_save_20]
    refine z_iload hX dX7_save_20 4 rfl ?_
    refine z_iconst (v := 1) hX dX7_save_22 (by decide) ?_
    refine z_aload_n hX dX7_save_23 rfl 0 rfl ?_
    refine z_getI (k := 4) hX (z_mod0 hs) rfl rfl in_X7_save_X7 (by decide) lk_X7_save_f102 dX7_save_24 ?_
    refine z_ishl hX dX7_save_27 ?_
    refine z_icmp_ge (tgt := 122) hX dX7_save_28 (by decide) ?_ ?_
    · refine z_iload_n hX dX7_save_122 rfl 3 rfl ?_
      exact z_iret hX dX7_save_123
    · refine z_aload_n hX dX7_save_31 rfl 0 rfl ?_
      refine z_iload hX dX7_save_32 4 rfl ?_
      refine z_callVI (n := 1) hX (c_X7_isPlan M.2.1 V hX.2.2.2.2.2 hs x4 σ) gX7_save_X7_isPlan rfl (by decide +kernel) ⟨by decide, by decide⟩ rfl rfl (z_mod0 hs) rfl rfl rfl rfl (Nat.le_of_ble_eq_true rfl) dX7_save_34 (fun r2 _ => ?_)
      refine z_if_eq (tgt := 116) hX dX7_save_37 (by decide) ?_ ?_
      · refine z_iinc (v := (x4 + 1)) (lv' := [(4, .int (x4 + 1)), (0, .ref (z_ad V 0)), (1, .int x1), (2, .int x2), (3, .int x3)]) hX dX7_save_116 4 rfl rfl (by decide) rfl ?_
        refine z_goto (tgt := 20) hX dX7_save_119 (by decide) ?_
        refine z_sub [1, 2, 3, 4, 0] rfl ?_
        exact ih x1 x2 x3 (x4 + 1) r2.2
      · refine z_iload hX dX7_save_40 4 rfl ?_
        refine z_callSI (n := 1) hX (c_X7_bitsOf M.2.1 V hX.2.2.2.2.2 hs x4 r2.2) gX7_save_X7_bitsOf rfl (by decide +kernel) ⟨by decide, by decide⟩ rfl rfl rfl rfl (Nat.le_of_ble_eq_true rfl) dX7_save_42 (fun r3 _ => ?_)
        refine z_iload_n hX dX7_save_45 rfl 2 rfl ?_
        refine z_icmp_ge (tgt := 116) hX dX7_save_46 (by decide) ?_ ?_
        · refine z_iinc (v := (x4 + 1)) (lv' := [(4, .int (x4 + 1)), (0, .ref (z_ad V 0)), (1, .int x1), (2, .int x2), (3, .int x3)]) hX dX7_save_116 4 rfl rfl (by decide) rfl ?_
          refine z_goto (tgt := 20) hX dX7_save_119 (by decide) ?_
          refine z_sub [1, 2, 3, 4, 0] rfl ?_
          exact ih x1 x2 x3 (x4 + 1) r3.2
        · refine z_aload_n hX dX7_save_49 rfl 0 rfl ?_
          refine z_iload hX dX7_save_50 4 rfl ?_
          refine z_callVV (n := 1) hX (c_X7_startsBy M.2.1 V hX.2.2.2.2.2 hs x4 r3.2) gX7_save_X7_startsBy rfl (by decide +kernel) ⟨by decide, by decide⟩ rfl rfl (z_mod0 hs) rfl rfl rfl rfl (Nat.le_of_ble_eq_true rfl) dX7_save_52 (fun r4 _ => ?_)
          refine z_aload_n hX dX7_save_55 rfl 0 rfl ?_
          refine z_aload_n hX dX7_save_56 rfl 0 rfl ?_
          refine z_callVI (n := 0) hX (c_X7_weeksLeft M.2.1 V hX.2.2.2.2.2 hs r4.2) gX7_save_X7_weeksLeft rfl (by decide +kernel) ⟨by decide, by decide⟩ rfl rfl (z_mod0 hs) rfl rfl rfl rfl (Nat.le_of_ble_eq_true rfl) dX7_save_57 (fun r5 _ => ?_)
          refine z_callVV (n := 1) hX (c_X7_weeksGo M.2.1 V hX.2.2.2.2.2 hs r5.1 r5.2) gX7_save_X7_weeksGo rfl (by decide +kernel) ⟨by decide, by decide⟩ rfl rfl (z_mod0 hs) rfl rfl rfl rfl (Nat.le_of_ble_eq_true rfl) dX7_save_60 (fun r6 _ => ?_)
          refine z_aload_n hX dX7_save_63 rfl 0 rfl ?_
          refine z_iload_n hX dX7_save_64 rfl 1 rfl ?_
          refine z_iconst (v := 3) hX dX7_save_65 (by decide) ?_
          refine z_callVI (n := 2) hX (c_X7_of M.2.1 V hX.2.2.2.2.2 hs x1 (3 : Int32) r6.2) gX7_save_X7_of rfl (by decide +kernel) ⟨by decide, by decide⟩ rfl rfl (z_mod0 hs) rfl rfl rfl rfl (Nat.le_of_ble_eq_true rfl) dX7_save_66 (fun r7 _ => ?_)
          refine z_aload_n hX dX7_save_69 rfl 0 rfl ?_
          refine z_getR (k := 0) hX (z_mod0 hs) rfl rfl in_X7_save_X7 (by decide) lk_X7_save_f7 dX7_save_70 ?_
          refine z_iconst (v := 4) hX dX7_save_73 (by decide) ?_
          refine z_iload_n hX dX7_save_74 rfl 1 rfl ?_
          refine z_imul hX dX7_save_75 ?_
          refine z_iconst (v := 3) hX dX7_save_76 (by decide) ?_
          refine z_iadd hX dX7_save_77 ?_
          refine z_iald hX (z_mod1 hs) dX7_save_78 ?_
          refine z_icmp_ne (tgt := 86) hX dX7_save_79 (by decide) ?_ ?_
          · refine z_iconst (v := 0) hX dX7_save_86 (by decide) ?_
            refine z_istore (lv' := [(5, .int (0 : Int32)), (0, .ref (z_ad V 0)), (1, .int x1), (2, .int x2), (3, .int x3), (4, .int x4)]) hX dX7_save_87 (by decide) rfl ?_
            refine z_iload hX dX7_save_89 0 rfl ?_
            refine z_if_eq (tgt := 99) hX dX7_save_91 (by decide) ?_ ?_
            · refine z_iload_n hX dX7_save_99 rfl 4 rfl ?_
              refine z_sub [1, 2, 3, 5, 0] rfl ?_
              exact w_X7_save_100 M V hs hX (fun x1 x2 x3 x4 σ => f_X7_save_20 n x1 x2 x3 x4 σ) ih x1 x2 x4 (0 : Int32) x3 r7.2
            · refine z_iload hX dX7_save_94 5 rfl ?_
              refine z_goto (tgt := 100) hX dX7_save_96 (by decide) ?_
              refine z_sub [1, 2, 3, 5, 0] rfl ?_
              exact w_X7_save_100 M V hs hX (fun x1 x2 x3 x4 σ => f_X7_save_20 n x1 x2 x3 x4 σ) ih x1 x2 x4 (0 : Int32) x4 r7.2
          · refine z_iconst (v := 1) hX dX7_save_82 (by decide) ?_
            refine z_goto (tgt := 87) hX dX7_save_83 (by decide) ?_
            refine z_istore (lv' := [(5, .int (1 : Int32)), (0, .ref (z_ad V 0)), (1, .int x1), (2, .int x2), (3, .int x3), (4, .int x4)]) hX dX7_save_87 (by decide) rfl ?_
            refine z_iload hX dX7_save_89 0 rfl ?_
            refine z_if_eq (tgt := 99) hX dX7_save_91 (by decide) ?_ ?_
            · refine z_iload_n hX dX7_save_99 rfl 4 rfl ?_
              refine z_sub [1, 2, 3, 5, 0] rfl ?_
              exact w_X7_save_100 M V hs hX (fun x1 x2 x3 x4 σ => f_X7_save_20 n x1 x2 x3 x4 σ) ih x1 x2 x4 (1 : Int32) x3 r7.2
            · refine z_iload hX dX7_save_94 5 rfl ?_
              refine z_goto (tgt := 100) hX dX7_save_96 (by decide) ?_
              refine z_sub [1, 2, 3, 5, 0] rfl ?_
              exact w_X7_save_100 M V hs hX (fun x1 x2 x3 x4 σ => f_X7_save_20 n x1 x2 x3 x4 σ) ih x1 x2 x4 (1 : Int32) x4 r7.2
set_option maxHeartbeats 4000000 in
set_option maxRecDepth 100000 in
theorem c_X7_save (l : Launch) (V : z_V) (hV : z_ok V) (hs : z_isM V) (x1 : Int32) (σ : z_St) : z_CtI l V yX7_save wsX7_save rm_X7_save [.ref (z_ad V 0), .int x1] σ (f_X7_save x1 σ) := by
  refine z_startI (lv := [(0, .ref (z_ad V 0)), (1, .int x1)]) hV (by decide) rfl (Nat.le_of_ble_eq_true rfl) rfl ?_
  intro M hM hX
  have hX : z_Cx M V cX7_save 6 (some .int) wsX7_save RX7 := hX
  unfold f_X7_save
  refine z_aload_n hX dX7_save_0 rfl 0 rfl ?_
  refine z_iload_n hX dX7_save_1 rfl 1 rfl ?_
  refine z_callVI (n := 1) hX (c_X7_isOne M.2.1 V hX.2.2.2.2.2 hs x1 σ) gX7_save_X7_isOne rfl (by decide +kernel) ⟨by decide, by decide⟩ rfl rfl (z_mod0 hs) rfl rfl rfl rfl (Nat.le_of_ble_eq_true rfl) dX7_save_2 (fun r1 _ => ?_)
  refine z_if_ne (tgt := 10) hX dX7_save_5 (by decide) ?_ ?_
  · refine z_ldcw (v := 1000000) hX lk_X7_save_c256 dX7_save_10 ?_
    refine z_istore_n (lv' := [(2, .int (1000000 : Int32)), (0, .ref (z_ad V 0)), (1, .int x1)]) hX dX7_save_13 rfl (by decide) rfl ?_
    refine z_bipush (v := -4) hX dX7_save_14 (by decide) ?_
    refine z_istore_n (lv' := [(3, .int (-4 : Int32)), (2, .int (1000000 : Int32)), (0, .ref (z_ad V 0)), (1, .int x1)]) hX dX7_save_16 rfl (by decide) rfl ?_
    refine z_iconst (v := 0) hX dX7_save_17 (by decide) ?_
    refine z_istore (lv' := [(4, .int (0 : Int32)), (3, .int (-4 : Int32)), (2, .int (1000000 : Int32)), (0, .ref (z_ad V 0)), (1, .int x1)]) hX dX7_save_18 (by decide) rfl ?_
    refine z_sub [3, 4, 2, 1, 0] rfl ?_
    exact w_X7_save_20 M V hs hX 200 x1 (1000000 : Int32) (-4 : Int32) (0 : Int32) r1.2
  · refine z_iconst (v := -1) hX dX7_save_8 (by decide) ?_
    exact z_iret hX dX7_save_9

abbrev rm_X7_runs : Room := { frames := 1, cells := 0, slots := 0, locals := 24 }
theorem in_X7_runs_X7 : ∀ w ∈ wsX70, w ∈ wsX7_runs := fun w h => List.mem_cons_of_mem _ (List.mem_append_right _ h)
theorem lk_X7_runs_f99 : Cond.fieldLink RX7 99 (TX7 3).1 (TX7 3).2.1 (TX7 3).2.2.1 ∈ wsX7_runs := by decide +kernel
theorem lk_X7_runs_f13 : Cond.fieldLink RX7 13 (TX7 1).1 (TX7 1).2.1 (TX7 1).2.2.1 ∈ wsX7_runs := by decide +kernel
set_option maxHeartbeats 4000000 in
set_option maxRecDepth 100000 in
theorem w_X7_runs_10 (M : z_M) (V : z_V) (hs : z_isM V) (hX : z_Cx M V cX7_runs 4 none wsX7_runs RX7) (K2 : Int32 → z_St → Option (Int32 × z_St)) (hK2 : ∀ (x1 : Int32) (σ : z_St), z_Go M rm_X7_runs 4 V (z_QV V) σ 2 [(0, .ref (z_ad V 0)), (1, .int x1)] [] (K2 x1 σ)) : ∀ (n : Nat) (x1 : Int32) (x2 : Int32) (σ : z_St), z_Go M rm_X7_runs 4 V (z_QV V) σ 10 [(0, .ref (z_ad V 0)), (1, .int x1), (2, .int x2)] [] (f_X7_runs_10 K2 n x1 x2 σ) := by
  intro n
  induction n with
  | zero => intro x1 x2 σ; exact z_none
  | succ n ih =>
    intro x1 x2 σ
    rw [f_X7_runs_10]
    refine z_iload_n hX dX7_runs_10 rfl 2 rfl ?_
    refine z_aload_n hX dX7_runs_11 rfl 0 rfl ?_
    refine z_getI (k := 3) hX (z_mod0 hs) rfl rfl in_X7_runs_X7 (by decide) lk_X7_runs_f99 dX7_runs_12 ?_
    refine z_icmp_ge (tgt := 74) hX dX7_runs_15 (by decide) ?_ ?_
    · refine z_goto (tgt := 2) hX dX7_runs_74 (by decide) ?_
      refine z_sub [0, 1] rfl ?_
      exact hK2 x1 σ
    · refine z_aload_n hX dX7_runs_18 rfl 0 rfl ?_
      refine z_iload_n hX dX7_runs_19 rfl 2 rfl ?_
      refine z_iconst (v := 2) hX dX7_runs_20 (by decide) ?_
      refine z_callVI (n := 2) hX (c_X7_of M.2.1 V hX.2.2.2.2.2 hs x2 (2 : Int32) σ) gX7_runs_X7_of rfl (by decide +kernel) ⟨by decide, by decide⟩ rfl rfl (z_mod0 hs) rfl rfl rfl rfl (Nat.le_of_ble_eq_true rfl) dX7_runs_21 (fun r1 _ => ?_)
      refine z_istore_n (lv' := [(3, .int r1.1), (0, .ref (z_ad V 0)), (1, .int x1), (2, .int x2)]) hX dX7_runs_24 rfl (by decide) rfl ?_
      refine z_iload_n hX dX7_runs_25 rfl 0 rfl ?_
      refine z_if_le (tgt := 68) hX dX7_runs_26 (by decide) ?_ ?_
      · refine z_iinc (v := (x2 + 1)) (lv' := [(2, .int (x2 + 1)), (3, .int r1.1), (0, .ref (z_ad V 0)), (1, .int x1)]) hX dX7_runs_68 3 rfl rfl (by decide) rfl ?_
        refine z_goto (tgt := 10) hX dX7_runs_71 (by decide) ?_
        refine z_sub [2, 3, 0] rfl ?_
        exact ih x1 (x2 + 1) r1.2
      · refine z_iload_n hX dX7_runs_29 rfl 0 rfl ?_
        refine z_aload_n hX dX7_runs_30 rfl 1 rfl ?_
        refine z_getR (k := 1) hX (z_mod0 hs) rfl rfl in_X7_runs_X7 (by decide) lk_X7_runs_f13 dX7_runs_31 ?_
        refine z_bipush (v := 24) hX dX7_runs_34 (by decide) ?_
        refine z_ialdc (j := 24) hX (z_mod2 hs) (by decide) dX7_runs_36 ?_
        refine z_icmp_gt (tgt := 68) hX dX7_runs_37 (by decide) ?_ ?_
        · refine z_iinc (v := (x2 + 1)) (lv' := [(2, .int (x2 + 1)), (3, .int r1.1), (0, .ref (z_ad V 0)), (1, .int x1)]) hX dX7_runs_68 3 rfl rfl (by decide) rfl ?_
          refine z_goto (tgt := 10) hX dX7_runs_71 (by decide) ?_
          refine z_sub [2, 3, 0] rfl ?_
          exact ih x1 (x2 + 1) r1.2
        · refine z_aload_n hX dX7_runs_40 rfl 1 rfl ?_
          refine z_getR (k := 1) hX (z_mod0 hs) rfl rfl in_X7_runs_X7 (by decide) lk_X7_runs_f13 dX7_runs_41 ?_
          refine z_bipush (v := 24) hX dX7_runs_44 (by decide) ?_
          refine z_dup2 hX dX7_runs_46 rfl rfl ?_
          refine z_ialdc (j := 24) hX (z_mod2 hs) (by decide) dX7_runs_47 ?_
          refine z_iload_n hX dX7_runs_48 rfl 0 rfl ?_
          refine z_isub hX dX7_runs_49 ?_
          refine z_iastc (j := 24) hX (z_mod2 hs) (by decide) dX7_runs_50 (z_bs fun s2 => ?_)
          refine z_aload_n hX dX7_runs_51 rfl 1 rfl ?_
          refine z_iload_n hX dX7_runs_52 rfl 3 rfl ?_
          refine z_iconst (v := 1) hX dX7_runs_53 (by decide) ?_
          refine z_iload_n hX dX7_runs_54 rfl 0 rfl ?_
          refine z_callVV (n := 3) hX (c_X7_more M.2.1 V hX.2.2.2.2.2 hs x2 (1 : Int32) r1.1 s2) gX7_runs_X7_more rfl (by decide +kernel) ⟨by decide, by decide⟩ rfl rfl (z_mod0 hs) rfl rfl rfl rfl (Nat.le_of_ble_eq_true rfl) dX7_runs_55 (fun r3 _ => ?_)
          refine z_aload_n hX dX7_runs_58 rfl 1 rfl ?_
          refine z_iload_n hX dX7_runs_59 rfl 3 rfl ?_
          refine z_iconst (v := 2) hX dX7_runs_60 (by decide) ?_
          refine z_iload_n hX dX7_runs_61 rfl 0 rfl ?_
          refine z_ineg hX dX7_runs_62 ?_
          refine z_callVV (n := 3) hX (c_X7_more M.2.1 V hX.2.2.2.2.2 hs x2 (2 : Int32) (-r1.1) r3.2) gX7_runs_X7_more rfl (by decide +kernel) ⟨by decide, by decide⟩ rfl rfl (z_mod0 hs) rfl rfl rfl rfl (Nat.le_of_ble_eq_true rfl) dX7_runs_63 (fun r4 _ => ?_)
          refine z_iconst (v := 1) hX dX7_runs_66 (by decide) ?_
          refine z_istore_n (lv' := [(1, .int (1 : Int32)), (3, .int r1.1), (0, .ref (z_ad V 0)), (2, .int x2)]) hX dX7_runs_67 rfl (by decide) rfl ?_
          refine z_iinc (v := (x2 + 1)) (lv' := [(2, .int (x2 + 1)), (1, .int (1 : Int32)), (3, .int r1.1), (0, .ref (z_ad V 0))]) hX dX7_runs_68 3 rfl rfl (by decide) rfl ?_
          refine z_goto (tgt := 10) hX dX7_runs_71 (by decide) ?_
          refine z_sub [3, 1, 0] rfl ?_
          exact ih (1 : Int32) (x2 + 1) r4.2
set_option maxHeartbeats 4000000 in
set_option maxRecDepth 100000 in
theorem w_X7_runs_2 (M : z_M) (V : z_V) (hs : z_isM V) (hX : z_Cx M V cX7_runs 4 none wsX7_runs RX7) : ∀ (n : Nat) (x1 : Int32) (σ : z_St), z_Go M rm_X7_runs 4 V (z_QV V) σ 2 [(0, .ref (z_ad V 0)), (1, .int x1)] [] (f_X7_runs_2 n x1 σ) := by
  intro n
  induction n with
  | zero => intro x1 σ; exact z_none
  | succ n ih =>
    intro x1 σ
    rw [f_X7_runs_2]
    refine z_iload_n hX dX7_runs_2 rfl 1 rfl ?_
    refine z_if_eq (tgt := 77) hX dX7_runs_3 (by decide) ?_ ?_
    · exact z_vret hX dX7_runs_77
    · refine z_iconst (v := 0) hX dX7_runs_6 (by decide) ?_
      refine z_istore_n (lv' := [(1, .int (0 : Int32)), (0, .ref (z_ad V 0))]) hX dX7_runs_7 rfl (by decide) rfl ?_
      refine z_iconst (v := 0) hX dX7_runs_8 (by decide) ?_
      refine z_istore_n (lv' := [(2, .int (0 : Int32)), (1, .int (0 : Int32)), (0, .ref (z_ad V 0))]) hX dX7_runs_9 rfl (by decide) rfl ?_
      refine z_sub [2, 1, 0] rfl ?_
      exact w_X7_runs_10 M V hs hX (fun x1 σ => f_X7_runs_2 n x1 σ) ih 200 (0 : Int32) (0 : Int32) σ
set_option maxHeartbeats 4000000 in
set_option maxRecDepth 100000 in
theorem c_X7_runs (l : Launch) (V : z_V) (hV : z_ok V) (hs : z_isM V) (σ : z_St) : z_CtV l V yX7_runs wsX7_runs rm_X7_runs [.ref (z_ad V 0)] σ (f_X7_runs σ) := by
  refine z_startV (lv := [(0, .ref (z_ad V 0))]) hV (by decide) rfl (Nat.le_of_ble_eq_true rfl) rfl ?_
  intro M hM hX
  have hX : z_Cx M V cX7_runs 4 none wsX7_runs RX7 := hX
  unfold f_X7_runs
  refine z_iconst (v := 1) hX dX7_runs_0 (by decide) ?_
  refine z_istore_n (lv' := [(1, .int (1 : Int32)), (0, .ref (z_ad V 0))]) hX dX7_runs_1 rfl (by decide) rfl ?_
  refine z_sub [1, 0] rfl ?_
  exact w_X7_runs_2 M V hs hX 200 (1 : Int32) σ

abbrev rm_X7_allOf : Room := { frames := 1, cells := 0, slots := 0, locals := 22 }
theorem in_X7_allOf_X7 : ∀ w ∈ wsX70, w ∈ wsX7_allOf := fun w h => List.mem_cons_of_mem _ (List.mem_append_right _ h)
theorem lk_X7_allOf_f99 : Cond.fieldLink RX7 99 (TX7 3).1 (TX7 3).2.1 (TX7 3).2.2.1 ∈ wsX7_allOf := by decide +kernel
set_option maxHeartbeats 4000000 in
set_option maxRecDepth 100000 in
theorem w_X7_allOf_4 (M : z_M) (V : z_V) (hs : z_isM V) (hX : z_Cx M V cX7_allOf 4 (some .int) wsX7_allOf RX7) : ∀ (n : Nat) (x1 : Int32) (x2 : Int32) (x3 : Int32) (σ : z_St), z_Go M rm_X7_allOf 4 V (z_QI V) σ 4 [(0, .ref (z_ad V 0)), (1, .int x1), (2, .int x2), (3, .int x3)] [] (f_X7_allOf_4 n x1 x2 x3 σ) := by
  intro n
  induction n with
  | zero => intro x1 x2 x3 σ; exact z_none
  | succ n ih =>
    intro x1 x2 x3 σ
    rw [f_X7_allOf_4]
    refine z_iload_n hX dX7_allOf_4 rfl 3 rfl ?_
    refine z_aload_n hX dX7_allOf_5 rfl 0 rfl ?_
    refine z_getI (k := 3) hX (z_mod0 hs) rfl rfl in_X7_allOf_X7 (by decide) lk_X7_allOf_f99 dX7_allOf_6 ?_
    refine z_icmp_ge (tgt := 27) hX dX7_allOf_9 (by decide) ?_ ?_
    · refine z_iload_n hX dX7_allOf_27 rfl 2 rfl ?_
      exact z_iret hX dX7_allOf_28
    · refine z_iload_n hX dX7_allOf_12 rfl 2 rfl ?_
      refine z_aload_n hX dX7_allOf_13 rfl 0 rfl ?_
      refine z_iload_n hX dX7_allOf_14 rfl 3 rfl ?_
      refine z_iload_n hX dX7_allOf_15 rfl 1 rfl ?_
      refine z_callVI (n := 2) hX (c_X7_of M.2.1 V hX.2.2.2.2.2 hs x3 x1 σ) gX7_allOf_X7_of rfl (by decide +kernel) ⟨by decide, by decide⟩ rfl rfl (z_mod0 hs) rfl rfl rfl rfl (Nat.le_of_ble_eq_true rfl) dX7_allOf_16 (fun r1 _ => ?_)
      refine z_iadd hX dX7_allOf_19 ?_
      refine z_istore_n (lv' := [(2, .int (x2 + r1.1)), (0, .ref (z_ad V 0)), (1, .int x1), (3, .int x3)]) hX dX7_allOf_20 rfl (by decide) rfl ?_
      refine z_iinc (v := (x3 + 1)) (lv' := [(3, .int (x3 + 1)), (2, .int (x2 + r1.1)), (0, .ref (z_ad V 0)), (1, .int x1)]) hX dX7_allOf_21 3 rfl rfl (by decide) rfl ?_
      refine z_goto (tgt := 4) hX dX7_allOf_24 (by decide) ?_
      refine z_sub [2, 3, 1, 0] rfl ?_
      exact ih x1 (x2 + r1.1) (x3 + 1) r1.2
set_option maxHeartbeats 4000000 in
set_option maxRecDepth 100000 in
theorem c_X7_allOf (l : Launch) (V : z_V) (hV : z_ok V) (hs : z_isM V) (x1 : Int32) (σ : z_St) : z_CtI l V yX7_allOf wsX7_allOf rm_X7_allOf [.ref (z_ad V 0), .int x1] σ (f_X7_allOf x1 σ) := by
  refine z_startI (lv := [(0, .ref (z_ad V 0)), (1, .int x1)]) hV (by decide) rfl (Nat.le_of_ble_eq_true rfl) rfl ?_
  intro M hM hX
  have hX : z_Cx M V cX7_allOf 4 (some .int) wsX7_allOf RX7 := hX
  unfold f_X7_allOf
  refine z_iconst (v := 0) hX dX7_allOf_0 (by decide) ?_
  refine z_istore_n (lv' := [(2, .int (0 : Int32)), (0, .ref (z_ad V 0)), (1, .int x1)]) hX dX7_allOf_1 rfl (by decide) rfl ?_
  refine z_iconst (v := 0) hX dX7_allOf_2 (by decide) ?_
  refine z_istore_n (lv' := [(3, .int (0 : Int32)), (2, .int (0 : Int32)), (0, .ref (z_ad V 0)), (1, .int x1)]) hX dX7_allOf_3 rfl (by decide) rfl ?_
  refine z_sub [2, 3, 1, 0] rfl ?_
  exact w_X7_allOf_4 M V hs hX 200 x1 (0 : Int32) (0 : Int32) σ

abbrev rm_X7_run : Room := { frames := 2, cells := 0, slots := 0, locals := 47 }
theorem in_X7_run_X7 : ∀ w ∈ wsX70, w ∈ wsX7_run := fun w h => List.mem_cons_of_mem _ (List.mem_append_right _ h)
theorem lk_X7_run_c220 : Cond.constantLong RX7 220 2 ∈ wsX7_run := by decide +kernel
theorem lk_X7_run_f99 : Cond.fieldLink RX7 99 (TX7 3).1 (TX7 3).2.1 (TX7 3).2.2.1 ∈ wsX7_run := by decide +kernel
theorem lk_X7_run_f13 : Cond.fieldLink RX7 13 (TX7 1).1 (TX7 1).2.1 (TX7 1).2.2.1 ∈ wsX7_run := by decide +kernel
set_option maxHeartbeats 4000000 in
set_option maxRecDepth 100000 in
theorem w_X7_run_26 (M : z_M) (V : z_V) (hs : z_isM V) (hX : z_Cx M V cX7_run 4 (some .int) wsX7_run RX7) : ∀ (n : Nat) (x1 : Int32) (x2 : Int32) (x3 : Int32) (σ : z_St), z_Go M rm_X7_run 4 V (z_QI V) σ 26 [(0, .ref (z_ad V 0)), (1, .int x1), (2, .int x2), (3, .int x3)] [] (f_X7_run_26 n x1 x2 x3 σ) := by
  intro n
  induction n with
  | zero => intro x1 x2 x3 σ; exact z_none
  | succ n ih =>
    intro x1 x2 x3 σ
    rw [f_X7_run_26]
    refine z_iload_n hX dX7_run_26 rfl 3 rfl ?_
    refine z_aload_n hX dX7_run_27 rfl 0 rfl ?_
    refine z_getI (k := 3) hX (z_mod0 hs) rfl rfl in_X7_run_X7 (by decide) lk_X7_run_f99 dX7_run_28 ?_
    refine z_icmp_ge (tgt := 62) hX dX7_run_31 (by decide) ?_ ?_
    · refine z_iload_n hX dX7_run_62 rfl 1 rfl ?_
      refine z_if_ne (tgt := 74) hX dX7_run_63 (by decide) ?_ ?_
      · refine z_iload_n hX dX7_run_74 rfl 1 rfl ?_
        refine z_iconst (v := 1) hX dX7_run_75 (by decide) ?_
        refine z_icmp_ne (tgt := 89) hX dX7_run_76 (by decide) ?_ ?_
        · refine z_iload_n hX dX7_run_89 rfl 2 rfl ?_
          exact z_iret hX dX7_run_90
        · refine z_aload_n hX dX7_run_79 rfl 0 rfl ?_
          refine z_getR (k := 1) hX (z_mod0 hs) rfl rfl in_X7_run_X7 (by decide) lk_X7_run_f13 dX7_run_80 ?_
          refine z_bipush (v := 24) hX dX7_run_83 (by decide) ?_
          refine z_ialdc (j := 24) hX (z_mod2 hs) (by decide) dX7_run_85 ?_
          refine z_goto (tgt := 90) hX dX7_run_86 (by decide) ?_
          exact z_iret hX dX7_run_90
      · refine z_aload_n hX dX7_run_66 rfl 0 rfl ?_
        refine z_iconst (v := 2) hX dX7_run_67 (by decide) ?_
        refine z_callVI (n := 1) hX (c_X7_allOf M.2.1 V hX.2.2.2.2.2 hs (2 : Int32) σ) gX7_run_X7_allOf rfl (by decide +kernel) ⟨by decide, by decide⟩ rfl rfl (z_mod0 hs) rfl rfl rfl rfl (Nat.le_of_ble_eq_true rfl) dX7_run_68 (fun r4 _ => ?_)
        refine z_goto (tgt := 90) hX dX7_run_71 (by decide) ?_
        exact z_iret hX dX7_run_90
    · refine z_iload_n hX dX7_run_34 rfl 2 rfl ?_
      refine z_aload_n hX dX7_run_35 rfl 0 rfl ?_
      refine z_iload_n hX dX7_run_36 rfl 3 rfl ?_
      refine z_iconst (v := 2) hX dX7_run_37 (by decide) ?_
      refine z_callVI (n := 2) hX (c_X7_of M.2.1 V hX.2.2.2.2.2 hs x3 (2 : Int32) σ) gX7_run_X7_of rfl (by decide +kernel) ⟨by decide, by decide⟩ rfl rfl (z_mod0 hs) rfl rfl rfl rfl (Nat.le_of_ble_eq_true rfl) dX7_run_38 (fun r5 _ => ?_)
      refine z_if_ne (tgt := 48) hX dX7_run_41 (by decide) ?_ ?_
      · refine z_iconst (v := 0) hX dX7_run_48 (by decide) ?_
        refine z_callSI (n := 1) hX (c_X7_flag M.2.1 V hX.2.2.2.2.2 hs (0 : Int32) r5.2) gX7_run_X7_flag rfl (by decide +kernel) ⟨by decide, by decide⟩ rfl rfl rfl rfl (Nat.le_of_ble_eq_true rfl) dX7_run_49 (fun r6 _ => ?_)
        refine z_iload_n hX dX7_run_52 rfl 3 rfl ?_
        refine z_ishl hX dX7_run_53 ?_
        refine z_ior hX dX7_run_54 ?_
        refine z_top (fun v7 => ?_)
        refine z_istore_n (lv' := [(2, .int v7), (0, .ref (z_ad V 0)), (1, .int x1), (3, .int x3)]) hX dX7_run_55 rfl (by decide) rfl ?_
        refine z_iinc (v := (x3 + 1)) (lv' := [(3, .int (x3 + 1)), (2, .int v7), (0, .ref (z_ad V 0)), (1, .int x1)]) hX dX7_run_56 3 rfl rfl (by decide) rfl ?_
        refine z_goto (tgt := 26) hX dX7_run_59 (by decide) ?_
        refine z_sub [2, 3, 1, 0] rfl ?_
        exact ih x1 v7 (x3 + 1) r6.2
      · refine z_iconst (v := 1) hX dX7_run_44 (by decide) ?_
        refine z_goto (tgt := 49) hX dX7_run_45 (by decide) ?_
        refine z_callSI (n := 1) hX (c_X7_flag M.2.1 V hX.2.2.2.2.2 hs (1 : Int32) r5.2) gX7_run_X7_flag rfl (by decide +kernel) ⟨by decide, by decide⟩ rfl rfl rfl rfl (Nat.le_of_ble_eq_true rfl) dX7_run_49 (fun r8 _ => ?_)
        refine z_iload_n hX dX7_run_52 rfl 3 rfl ?_
        refine z_ishl hX dX7_run_53 ?_
        refine z_ior hX dX7_run_54 ?_
        refine z_top (fun v9 => ?_)
        refine z_istore_n (lv' := [(2, .int v9), (0, .ref (z_ad V 0)), (1, .int x1), (3, .int x3)]) hX dX7_run_55 rfl (by decide) rfl ?_
        refine z_iinc (v := (x3 + 1)) (lv' := [(3, .int (x3 + 1)), (2, .int v9), (0, .ref (z_ad V 0)), (1, .int x1)]) hX dX7_run_56 3 rfl rfl (by decide) rfl ?_
        refine z_goto (tgt := 26) hX dX7_run_59 (by decide) ?_
        refine z_sub [2, 3, 1, 0] rfl ?_
        exact ih x1 v9 (x3 + 1) r8.2
set_option maxHeartbeats 4000000 in
set_option maxRecDepth 100000 in
theorem c_X7_run (l : Launch) (V : z_V) (hV : z_ok V) (hs : z_isM V) (x1 : Int32) (σ : z_St) : z_CtI l V yX7_run wsX7_run rm_X7_run [.ref (z_ad V 0), .int x1] σ (f_X7_run x1 σ) := by
  refine z_startI (lv := [(0, .ref (z_ad V 0)), (1, .int x1)]) hV (by decide) rfl (Nat.le_of_ble_eq_true rfl) rfl ?_
  intro M hM hX
  have hX : z_Cx M V cX7_run 4 (some .int) wsX7_run RX7 := hX
  unfold f_X7_run
  refine z_iload_n hX dX7_run_0 rfl 1 rfl ?_
  refine z_i2l hX dX7_run_1 ?_
  refine z_lconst (v := 0) hX dX7_run_2 (by decide) ?_
  refine z_ldc2 (v := 2) hX lk_X7_run_c220 dX7_run_3 ?_
  refine z_callSI (n := 3) hX (c_X7_in M.2.1 V hX.2.2.2.2.2 hs x1.toInt64 (0 : Int64) (2 : Int64) σ) gX7_run_X7_in rfl (by decide +kernel) ⟨by decide, by decide⟩ rfl rfl rfl rfl (Nat.le_of_ble_eq_true rfl) dX7_run_6 (fun r1 _ => ?_)
  refine z_if_ne (tgt := 14) hX dX7_run_9 (by decide) ?_ ?_
  · refine z_aload_n hX dX7_run_14 rfl 0 rfl ?_
    refine z_callVV (n := 0) hX (c_X7_starts M.2.1 V hX.2.2.2.2.2 hs r1.2) gX7_run_X7_starts rfl (by decide +kernel) ⟨by decide, by decide⟩ rfl rfl (z_mod0 hs) rfl rfl rfl rfl (Nat.le_of_ble_eq_true rfl) dX7_run_15 (fun r2 _ => ?_)
    refine z_aload_n hX dX7_run_18 rfl 0 rfl ?_
    refine z_callVV (n := 0) hX (c_X7_runs M.2.1 V hX.2.2.2.2.2 hs r2.2) gX7_run_X7_runs rfl (by decide +kernel) ⟨by decide, by decide⟩ rfl rfl (z_mod0 hs) rfl rfl rfl rfl (Nat.le_of_ble_eq_true rfl) dX7_run_19 (fun r3 _ => ?_)
    refine z_iconst (v := 0) hX dX7_run_22 (by decide) ?_
    refine z_istore_n (lv' := [(2, .int (0 : Int32)), (0, .ref (z_ad V 0)), (1, .int x1)]) hX dX7_run_23 rfl (by decide) rfl ?_
    refine z_iconst (v := 0) hX dX7_run_24 (by decide) ?_
    refine z_istore_n (lv' := [(3, .int (0 : Int32)), (2, .int (0 : Int32)), (0, .ref (z_ad V 0)), (1, .int x1)]) hX dX7_run_25 rfl (by decide) rfl ?_
    refine z_sub [2, 3, 1, 0] rfl ?_
    exact w_X7_run_26 M V hs hX 200 x1 (0 : Int32) (0 : Int32) r3.2
  · refine z_iconst (v := -1) hX dX7_run_12 (by decide) ?_
    exact z_iret hX dX7_run_13

abbrev rm_X7_holds : Room := { frames := 2, cells := 0, slots := 0, locals := 47 }
theorem in_X7_holds_X7 : ∀ w ∈ wsX70, w ∈ wsX7_holds := fun w h => List.mem_cons_of_mem _ (List.mem_append_right _ h)
theorem lk_X7_holds_f13 : Cond.fieldLink RX7 13 (TX7 1).1 (TX7 1).2.1 (TX7 1).2.2.1 ∈ wsX7_holds := by decide +kernel
set_option maxHeartbeats 4000000 in
set_option maxRecDepth 100000 in
theorem w_X7_holds_2 (M : z_M) (V : z_V) (hs : z_isM V) (hX : z_Cx M V cX7_holds 2 (some .int) wsX7_holds RX7) : ∀ (n : Nat) (x1 : Int32) (σ : z_St), z_Go M rm_X7_holds 2 V (z_QI V) σ 2 [(0, .ref (z_ad V 0)), (1, .int x1)] [] (f_X7_holds_2 n x1 σ) := by
  intro n
  induction n with
  | zero => intro x1 σ; exact z_none
  | succ n ih =>
    intro x1 σ
    rw [f_X7_holds_2]
    refine z_iload_n hX dX7_holds_2 rfl 1 rfl ?_
    refine z_bipush (v := 99) hX dX7_holds_3 (by decide) ?_
    refine z_icmp_gt (tgt := 40) hX dX7_holds_5 (by decide) ?_ ?_
    · refine z_bipush (v := -4) hX dX7_holds_40 (by decide) ?_
      exact z_iret hX dX7_holds_42
    · refine z_aload_n hX dX7_holds_8 rfl 0 rfl ?_
      refine z_callVV (n := 0) hX (c_X7_starts M.2.1 V hX.2.2.2.2.2 hs σ) gX7_holds_X7_starts rfl (by decide +kernel) ⟨by decide, by decide⟩ rfl rfl (z_mod0 hs) rfl rfl rfl rfl (Nat.le_of_ble_eq_true rfl) dX7_holds_9 (fun r1 _ => ?_)
      refine z_aload_n hX dX7_holds_12 rfl 0 rfl ?_
      refine z_getR (k := 1) hX (z_mod0 hs) rfl rfl in_X7_holds_X7 (by decide) lk_X7_holds_f13 dX7_holds_13 ?_
      refine z_bipush (v := 24) hX dX7_holds_16 (by decide) ?_
      refine z_iload_n hX dX7_holds_18 rfl 1 rfl ?_
      refine z_iastc (j := 24) hX (z_mod2 hs) (by decide) dX7_holds_19 (z_bs fun s2 => ?_)
      refine z_aload_n hX dX7_holds_20 rfl 0 rfl ?_
      refine z_callVV (n := 0) hX (c_X7_runs M.2.1 V hX.2.2.2.2.2 hs s2) gX7_holds_X7_runs rfl (by decide +kernel) ⟨by decide, by decide⟩ rfl rfl (z_mod0 hs) rfl rfl rfl rfl (Nat.le_of_ble_eq_true rfl) dX7_holds_21 (fun r3 _ => ?_)
      refine z_aload_n hX dX7_holds_24 rfl 0 rfl ?_
      refine z_iconst (v := 2) hX dX7_holds_25 (by decide) ?_
      refine z_callVI (n := 1) hX (c_X7_allOf M.2.1 V hX.2.2.2.2.2 hs (2 : Int32) r3.2) gX7_holds_X7_allOf rfl (by decide +kernel) ⟨by decide, by decide⟩ rfl rfl (z_mod0 hs) rfl rfl rfl rfl (Nat.le_of_ble_eq_true rfl) dX7_holds_26 (fun r4 _ => ?_)
      refine z_if_ne (tgt := 34) hX dX7_holds_29 (by decide) ?_ ?_
      · refine z_iinc (v := (x1 + 1)) (lv' := [(1, .int (x1 + 1)), (0, .ref (z_ad V 0))]) hX dX7_holds_34 1 rfl rfl (by decide) rfl ?_
        refine z_goto (tgt := 2) hX dX7_holds_37 (by decide) ?_
        refine z_sub [1, 0] rfl ?_
        exact ih (x1 + 1) r4.2
      · refine z_iload_n hX dX7_holds_32 rfl 1 rfl ?_
        exact z_iret hX dX7_holds_33
set_option maxHeartbeats 4000000 in
set_option maxRecDepth 100000 in
theorem c_X7_holds (l : Launch) (V : z_V) (hV : z_ok V) (hs : z_isM V) (σ : z_St) : z_CtI l V yX7_holds wsX7_holds rm_X7_holds [.ref (z_ad V 0)] σ (f_X7_holds σ) := by
  refine z_startI (lv := [(0, .ref (z_ad V 0))]) hV (by decide) rfl (Nat.le_of_ble_eq_true rfl) rfl ?_
  intro M hM hX
  have hX : z_Cx M V cX7_holds 2 (some .int) wsX7_holds RX7 := hX
  unfold f_X7_holds
  refine z_iconst (v := 0) hX dX7_holds_0 (by decide) ?_
  refine z_istore_n (lv' := [(1, .int (0 : Int32)), (0, .ref (z_ad V 0))]) hX dX7_holds_1 rfl (by decide) rfl ?_
  refine z_sub [1, 0] rfl ?_
  exact w_X7_holds_2 M V hs hX 200 (0 : Int32) σ

abbrev rm_X7_leastOf : Room := { frames := 5, cells := 0, slots := 0, locals := 115 }
theorem in_X7_leastOf_X7 : ∀ w ∈ wsX70, w ∈ wsX7_leastOf := fun w h => List.mem_cons_of_mem _ (List.mem_append_right _ h)
theorem lk_X7_leastOf_c242 : Cond.constantLong RX7 242 20 ∈ wsX7_leastOf := by decide +kernel
theorem lk_X7_leastOf_f13 : Cond.fieldLink RX7 13 (TX7 1).1 (TX7 1).2.1 (TX7 1).2.2.1 ∈ wsX7_leastOf := by decide +kernel
set_option maxHeartbeats 4000000 in
set_option maxRecDepth 100000 in
theorem w_X7_leastOf_17 (M : z_M) (V : z_V) (hs : z_isM V) (hX : z_Cx M V cX7_leastOf 5 (some .int) wsX7_leastOf RX7) : ∀ (n : Nat) (x1 : Int32) (x2 : Int32) (x3 : Int32) (x4 : Int32) (σ : z_St), z_Go M rm_X7_leastOf 5 V (z_QI V) σ 17 [(0, .ref (z_ad V 0)), (1, .int x1), (2, .int x2), (3, .int x3), (4, .int x4)] [] (f_X7_leastOf_17 n x1 x2 x3 x4 σ) := by
  intro n
  induction n with
  | zero => intro x1 x2 x3 x4 σ; exact z_none
  | succ n ih =>
    intro x1 x2 x3 x4 σ
    rw [f_X7_leastOf_17]
    refine z_iload hX dX7_leastOf_17 4 rfl ?_
    refine z_iload_n hX dX7_leastOf_19 rfl 2 rfl ?_
    refine z_icmp_gt (tgt := 52) hX dX7_leastOf_20 (by decide) ?_ ?_
    · refine z_bipush (v := -4) hX dX7_leastOf_52 (by decide) ?_
      exact z_iret hX dX7_leastOf_54
    · refine z_aload_n hX dX7_leastOf_23 rfl 0 rfl ?_
      refine z_callVV (n := 0) hX (c_X7_starts M.2.1 V hX.2.2.2.2.2 hs σ) gX7_leastOf_X7_starts rfl (by decide +kernel) ⟨by decide, by decide⟩ rfl rfl (z_mod0 hs) rfl rfl rfl rfl (Nat.le_of_ble_eq_true rfl) dX7_leastOf_24 (fun r2 _ => ?_)
      refine z_aload_n hX dX7_leastOf_27 rfl 0 rfl ?_
      refine z_getR (k := 1) hX (z_mod0 hs) rfl rfl in_X7_leastOf_X7 (by decide) lk_X7_leastOf_f13 dX7_leastOf_28 ?_
      refine z_iload_n hX dX7_leastOf_31 rfl 1 rfl ?_
      refine z_iload hX dX7_leastOf_32 4 rfl ?_
      refine z_iast hX (z_mod2 hs) dX7_leastOf_34 (z_bs fun s3 => ?_)
      refine z_aload_n hX dX7_leastOf_35 rfl 0 rfl ?_
      refine z_iload_n hX dX7_leastOf_36 rfl 3 rfl ?_
      refine z_callVI (n := 1) hX (c_X7_brazenIn M.2.1 V hX.2.2.2.2.2 hs x3 s3) gX7_leastOf_X7_brazenIn rfl (by decide +kernel) ⟨by decide, by decide⟩ rfl rfl (z_mod0 hs) rfl rfl rfl rfl (Nat.le_of_ble_eq_true rfl) dX7_leastOf_37 (fun r4 _ => ?_)
      refine z_if_ne (tgt := 46) hX dX7_leastOf_40 (by decide) ?_ ?_
      · refine z_iinc (v := (x4 + 1)) (lv' := [(4, .int (x4 + 1)), (0, .ref (z_ad V 0)), (1, .int x1), (2, .int x2), (3, .int x3)]) hX dX7_leastOf_46 4 rfl rfl (by decide) rfl ?_
        refine z_goto (tgt := 17) hX dX7_leastOf_49 (by decide) ?_
        refine z_sub [1, 2, 3, 4, 0] rfl ?_
        exact ih x1 x2 x3 (x4 + 1) r4.2
      · refine z_iload hX dX7_leastOf_43 4 rfl ?_
        exact z_iret hX dX7_leastOf_45
set_option maxHeartbeats 4000000 in
set_option maxRecDepth 100000 in
theorem c_X7_leastOf (l : Launch) (V : z_V) (hV : z_ok V) (hs : z_isM V) (x1 : Int32) (x2 : Int32) (x3 : Int32) (σ : z_St) : z_CtI l V yX7_leastOf wsX7_leastOf rm_X7_leastOf [.ref (z_ad V 0), .int x1, .int x2, .int x3] σ (f_X7_leastOf x1 x2 x3 σ) := by
  refine z_startI (lv := [(0, .ref (z_ad V 0)), (1, .int x1), (2, .int x2), (3, .int x3)]) hV (by decide) rfl (Nat.le_of_ble_eq_true rfl) rfl ?_
  intro M hM hX
  have hX : z_Cx M V cX7_leastOf 5 (some .int) wsX7_leastOf RX7 := hX
  unfold f_X7_leastOf
  refine z_iload_n hX dX7_leastOf_0 rfl 3 rfl ?_
  refine z_i2l hX dX7_leastOf_1 ?_
  refine z_lconst (v := 0) hX dX7_leastOf_2 (by decide) ?_
  refine z_ldc2 (v := 20) hX lk_X7_leastOf_c242 dX7_leastOf_3 ?_
  refine z_callSI (n := 3) hX (c_X7_in M.2.1 V hX.2.2.2.2.2 hs x3.toInt64 (0 : Int64) (20 : Int64) σ) gX7_leastOf_X7_in rfl (by decide +kernel) ⟨by decide, by decide⟩ rfl rfl rfl rfl (Nat.le_of_ble_eq_true rfl) dX7_leastOf_6 (fun r1 _ => ?_)
  refine z_if_ne (tgt := 14) hX dX7_leastOf_9 (by decide) ?_ ?_
  · refine z_iconst (v := 0) hX dX7_leastOf_14 (by decide) ?_
    refine z_istore (lv' := [(4, .int (0 : Int32)), (0, .ref (z_ad V 0)), (1, .int x1), (2, .int x2), (3, .int x3)]) hX dX7_leastOf_15 (by decide) rfl ?_
    refine z_sub [1, 2, 3, 4, 0] rfl ?_
    exact w_X7_leastOf_17 M V hs hX 200 x1 x2 x3 (0 : Int32) r1.2
  · refine z_iconst (v := -1) hX dX7_leastOf_12 (by decide) ?_
    exact z_iret hX dX7_leastOf_13

abbrev rm_X7_cover : Room := { frames := 6, cells := 0, slots := 0, locals := 139 }
set_option maxHeartbeats 4000000 in
set_option maxRecDepth 100000 in
theorem c_X7_cover (l : Launch) (V : z_V) (hV : z_ok V) (hs : z_isM V) (x1 : Int32) (σ : z_St) : z_CtI l V yX7_cover wsX7_cover rm_X7_cover [.ref (z_ad V 0), .int x1] σ (f_X7_cover x1 σ) := by
  refine z_startI (lv := [(0, .ref (z_ad V 0)), (1, .int x1)]) hV (by decide) rfl (Nat.le_of_ble_eq_true rfl) rfl ?_
  intro M hM hX
  have hX : z_Cx M V cX7_cover 2 (some .int) wsX7_cover RX7 := hX
  unfold f_X7_cover
  refine z_aload_n hX dX7_cover_0 rfl 0 rfl ?_
  refine z_bipush (v := 24) hX dX7_cover_1 (by decide) ?_
  refine z_bipush (v := 99) hX dX7_cover_3 (by decide) ?_
  refine z_iload_n hX dX7_cover_5 rfl 1 rfl ?_
  refine z_callVI (n := 3) hX (c_X7_leastOf M.2.1 V hX.2.2.2.2.2 hs (24 : Int32) (99 : Int32) x1 σ) gX7_cover_X7_leastOf rfl (by decide +kernel) ⟨by decide, by decide⟩ rfl rfl (z_mod0 hs) rfl rfl rfl rfl (Nat.le_of_ble_eq_true rfl) dX7_cover_6 (fun r1 _ => ?_)
  exact z_iret hX dX7_cover_9

abbrev rm_X7_rate : Room := { frames := 6, cells := 0, slots := 0, locals := 139 }
set_option maxHeartbeats 4000000 in
set_option maxRecDepth 100000 in
theorem c_X7_rate (l : Launch) (V : z_V) (hV : z_ok V) (hs : z_isM V) (x1 : Int32) (σ : z_St) : z_CtI l V yX7_rate wsX7_rate rm_X7_rate [.ref (z_ad V 0), .int x1] σ (f_X7_rate x1 σ) := by
  refine z_startI (lv := [(0, .ref (z_ad V 0)), (1, .int x1)]) hV (by decide) rfl (Nat.le_of_ble_eq_true rfl) rfl ?_
  intro M hM hX
  have hX : z_Cx M V cX7_rate 2 (some .int) wsX7_rate RX7 := hX
  unfold f_X7_rate
  refine z_aload_n hX dX7_rate_0 rfl 0 rfl ?_
  refine z_bipush (v := 23) hX dX7_rate_1 (by decide) ?_
  refine z_bipush (v := 9) hX dX7_rate_3 (by decide) ?_
  refine z_iload_n hX dX7_rate_5 rfl 1 rfl ?_
  refine z_callVI (n := 3) hX (c_X7_leastOf M.2.1 V hX.2.2.2.2.2 hs (23 : Int32) (9 : Int32) x1 σ) gX7_rate_X7_leastOf rfl (by decide +kernel) ⟨by decide, by decide⟩ rfl rfl (z_mod0 hs) rfl rfl rfl rfl (Nat.le_of_ble_eq_true rfl) dX7_rate_6 (fun r1 _ => ?_)
  exact z_iret hX dX7_rate_9

abbrev rm_X7_brazenAsNow : Room := { frames := 5, cells := 0, slots := 0, locals := 115 }
set_option maxHeartbeats 4000000 in
set_option maxRecDepth 100000 in
theorem c_X7_brazenAsNow (l : Launch) (V : z_V) (hV : z_ok V) (hs : z_isM V) (σ : z_St) : z_CtI l V yX7_brazenAsNow wsX7_brazenAsNow rm_X7_brazenAsNow [.ref (z_ad V 0)] σ (f_X7_brazenAsNow σ) := by
  refine z_startI (lv := [(0, .ref (z_ad V 0))]) hV (by decide) rfl (Nat.le_of_ble_eq_true rfl) rfl ?_
  intro M hM hX
  have hX : z_Cx M V cX7_brazenAsNow 1 (some .int) wsX7_brazenAsNow RX7 := hX
  unfold f_X7_brazenAsNow
  refine z_aload_n hX dX7_brazenAsNow_0 rfl 0 rfl ?_
  refine z_callVV (n := 0) hX (c_X7_starts M.2.1 V hX.2.2.2.2.2 hs σ) gX7_brazenAsNow_X7_starts rfl (by decide +kernel) ⟨by decide, by decide⟩ rfl rfl (z_mod0 hs) rfl rfl rfl rfl (Nat.le_of_ble_eq_true rfl) dX7_brazenAsNow_1 (fun r1 _ => ?_)
  refine z_aload_n hX dX7_brazenAsNow_4 rfl 0 rfl ?_
  refine z_aload_n hX dX7_brazenAsNow_5 rfl 0 rfl ?_
  refine z_callVI (n := 0) hX (c_X7_weeksLeft M.2.1 V hX.2.2.2.2.2 hs r1.2) gX7_brazenAsNow_X7_weeksLeft rfl (by decide +kernel) ⟨by decide, by decide⟩ rfl rfl (z_mod0 hs) rfl rfl rfl rfl (Nat.le_of_ble_eq_true rfl) dX7_brazenAsNow_6 (fun r2 _ => ?_)
  refine z_callVI (n := 1) hX (c_X7_brazenIn M.2.1 V hX.2.2.2.2.2 hs r2.1 r2.2) gX7_brazenAsNow_X7_brazenIn rfl (by decide +kernel) ⟨by decide, by decide⟩ rfl rfl (z_mod0 hs) rfl rfl rfl rfl (Nat.le_of_ble_eq_true rfl) dX7_brazenAsNow_9 (fun r3 _ => ?_)
  exact z_iret hX dX7_brazenAsNow_12

abbrev rm_X7_gift : Room := { frames := 6, cells := 0, slots := 0, locals := 135 }
theorem in_X7_gift_X7 : ∀ w ∈ wsX70, w ∈ wsX7_gift := fun w h => List.mem_cons_of_mem _ (List.mem_append_right _ h)
theorem lk_X7_gift_c222 : Cond.constantLong RX7 222 99 ∈ wsX7_gift := by decide +kernel
theorem lk_X7_gift_f99 : Cond.fieldLink RX7 99 (TX7 3).1 (TX7 3).2.1 (TX7 3).2.2.1 ∈ wsX7_gift := by decide +kernel
set_option maxHeartbeats 4000000 in
set_option maxRecDepth 100000 in
theorem w_X7_gift_77 (M : z_M) (V : z_V) (hs : z_isM V) (hX : z_Cx M V cX7_gift 7 (some .int) wsX7_gift RX7) (K33 : Int32 → Int32 → Int32 → Int32 → Int32 → z_St → Option (Int32 × z_St)) (hK33 : ∀ (x1 : Int32) (x2 : Int32) (x3 : Int32) (x4 : Int32) (x5 : Int32) (σ : z_St), z_Go M rm_X7_gift 7 V (z_QI V) σ 33 [(0, .ref (z_ad V 0)), (1, .int x1), (2, .int x2), (3, .int x3), (4, .int x4), (5, .int x5)] [] (K33 x1 x2 x3 x4 x5 σ)) (x1 : Int32) (x2 : Int32) (x3 : Int32) (x5 : Int32) (x6 : Int32) (y0 : Int32) (σ : z_St) : z_Go M rm_X7_gift 7 V (z_QI V) σ 77 [(0, .ref (z_ad V 0)), (1, .int x1), (2, .int x2), (3, .int x3), (5, .int x5), (6, .int x6)] [.int y0] (f_X7_gift_77 K33 x1 x2 x3 x5 x6 y0 σ) := by
  unfold f_X7_gift_77
  refine z_istore (lv' := [(4, .int y0), (0, .ref (z_ad V 0)), (1, .int x1), (2, .int x2), (3, .int x3), (5, .int x5), (6, .int x6)]) hX dX7_gift_77 (by decide) rfl ?_
  refine z_iload hX dX7_gift_79 6 rfl ?_
  refine z_iload_n hX dX7_gift_81 rfl 4 rfl ?_
  refine z_icmp_ge (tgt := 90) hX dX7_gift_82 (by decide) ?_ ?_
  · refine z_iload_n hX dX7_gift_90 rfl 4 rfl ?_
    refine z_istore_n (lv' := [(3, .int x3), (4, .int y0), (0, .ref (z_ad V 0)), (1, .int x1), (2, .int x2), (5, .int x5), (6, .int x6)]) hX dX7_gift_91 rfl (by decide) rfl ?_
    refine z_iinc (v := (x5 + 1)) (lv' := [(5, .int (x5 + 1)), (3, .int x3), (4, .int y0), (0, .ref (z_ad V 0)), (1, .int x1), (2, .int x2), (6, .int x6)]) hX dX7_gift_92 5 rfl rfl (by decide) rfl ?_
    refine z_goto (tgt := 33) hX dX7_gift_95 (by decide) ?_
    refine z_sub [3, 4, 5, 1, 2, 0] rfl ?_
    exact hK33 x1 x2 x3 y0 (x5 + 1) σ
  · refine z_iload hX dX7_gift_85 6 rfl ?_
    refine z_goto (tgt := 91) hX dX7_gift_87 (by decide) ?_
    refine z_istore_n (lv' := [(3, .int x6), (4, .int y0), (0, .ref (z_ad V 0)), (1, .int x1), (2, .int x2), (5, .int x5), (6, .int x6)]) hX dX7_gift_91 rfl (by decide) rfl ?_
    refine z_iinc (v := (x5 + 1)) (lv' := [(5, .int (x5 + 1)), (3, .int x6), (4, .int y0), (0, .ref (z_ad V 0)), (1, .int x1), (2, .int x2), (6, .int x6)]) hX dX7_gift_92 5 rfl rfl (by decide) rfl ?_
    refine z_goto (tgt := 33) hX dX7_gift_95 (by decide) ?_
    refine z_sub [3, 4, 5, 1, 2, 0] rfl ?_
    exact hK33 x1 x2 x6 y0 (x5 + 1) σ
set_option maxHeartbeats 4000000 in
set_option maxRecDepth 100000 in
theorem w_X7_gift_33 (M : z_M) (V : z_V) (hs : z_isM V) (hX : z_Cx M V cX7_gift 7 (some .int) wsX7_gift RX7) : ∀ (n : Nat) (x1 : Int32) (x2 : Int32) (x3 : Int32) (x4 : Int32) (x5 : Int32) (σ : z_St), z_Go M rm_X7_gift 7 V (z_QI V) σ 33 [(0, .ref (z_ad V 0)), (1, .int x1), (2, .int x2), (3, .int x3), (4, .int x4), (5, .int x5)] [] (f_X7_gift_33 n x1 x2 x3 x4 x5 σ) := by
  intro n
  induction n with
  | zero => intro x1 x2 x3 x4 x5 σ; exact z_none
  | succ n ih =>
    intro x1 x2 x3 x4 x5 σ
    rw [f_X7_gift_33]
    refine z_iload hX dX7_gift_33 5 rfl ?_
    refine z_aload_n hX dX7_gift_35 rfl 0 rfl ?_
    refine z_getI (k := 3) hX (z_mod0 hs) rfl rfl in_X7_gift_X7 (by decide) lk_X7_gift_f99 dX7_gift_36 ?_
    refine z_icmp_ge (tgt := 98) hX dX7_gift_39 (by decide) ?_ ?_
    · refine z_iload hX dX7_gift_98 4 rfl ?_
      refine z_bipush (v := -4) hX dX7_gift_100 (by decide) ?_
      refine z_icmp_ne (tgt := 110) hX dX7_gift_102 (by decide) ?_ ?_
      · refine z_iload_n hX dX7_gift_110 rfl 2 rfl ?_
        refine z_if_ne (tgt := 119) hX dX7_gift_111 (by decide) ?_ ?_
        · refine z_iload_n hX dX7_gift_119 rfl 3 rfl ?_
          exact z_iret hX dX7_gift_120
        · refine z_iload hX dX7_gift_114 4 rfl ?_
          refine z_goto (tgt := 120) hX dX7_gift_116 (by decide) ?_
          exact z_iret hX dX7_gift_120
      · refine z_bipush (v := -4) hX dX7_gift_105 (by decide) ?_
        refine z_goto (tgt := 120) hX dX7_gift_107 (by decide) ?_
        exact z_iret hX dX7_gift_120
    · refine z_aload_n hX dX7_gift_42 rfl 0 rfl ?_
      refine z_callVV (n := 0) hX (c_X7_starts M.2.1 V hX.2.2.2.2.2 hs σ) gX7_gift_X7_starts rfl (by decide +kernel) ⟨by decide, by decide⟩ rfl rfl (z_mod0 hs) rfl rfl rfl rfl (Nat.le_of_ble_eq_true rfl) dX7_gift_43 (fun r4 _ => ?_)
      refine z_aload_n hX dX7_gift_46 rfl 0 rfl ?_
      refine z_iload hX dX7_gift_47 5 rfl ?_
      refine z_iconst (v := 1) hX dX7_gift_49 (by decide) ?_
      refine z_iload_n hX dX7_gift_50 rfl 1 rfl ?_
      refine z_callVV (n := 3) hX (c_X7_more M.2.1 V hX.2.2.2.2.2 hs x5 (1 : Int32) x1 r4.2) gX7_gift_X7_more rfl (by decide +kernel) ⟨by decide, by decide⟩ rfl rfl (z_mod0 hs) rfl rfl rfl rfl (Nat.le_of_ble_eq_true rfl) dX7_gift_51 (fun r5 _ => ?_)
      refine z_aload_n hX dX7_gift_54 rfl 0 rfl ?_
      refine z_aload_n hX dX7_gift_55 rfl 0 rfl ?_
      refine z_callVI (n := 0) hX (c_X7_weeksLeft M.2.1 V hX.2.2.2.2.2 hs r5.2) gX7_gift_X7_weeksLeft rfl (by decide +kernel) ⟨by decide, by decide⟩ rfl rfl (z_mod0 hs) rfl rfl rfl rfl (Nat.le_of_ble_eq_true rfl) dX7_gift_56 (fun r6 _ => ?_)
      refine z_callVI (n := 1) hX (c_X7_brazenIn M.2.1 V hX.2.2.2.2.2 hs r6.1 r6.2) gX7_gift_X7_brazenIn rfl (by decide +kernel) ⟨by decide, by decide⟩ rfl rfl (z_mod0 hs) rfl rfl rfl rfl (Nat.le_of_ble_eq_true rfl) dX7_gift_59 (fun r7 _ => ?_)
      refine z_istore (lv' := [(6, .int r7.1), (0, .ref (z_ad V 0)), (1, .int x1), (2, .int x2), (3, .int x3), (4, .int x4), (5, .int x5)]) hX dX7_gift_62 (by decide) rfl ?_
      refine z_iload hX dX7_gift_64 0 rfl ?_
      refine z_iload_n hX dX7_gift_66 rfl 4 rfl ?_
      refine z_icmp_ge (tgt := 75) hX dX7_gift_67 (by decide) ?_ ?_
      · refine z_iload hX dX7_gift_75 5 rfl ?_
        refine z_sub [1, 2, 3, 4, 6, 0] rfl ?_
        exact w_X7_gift_77 M V hs hX (fun x1 x2 x3 x4 x5 σ => f_X7_gift_33 n x1 x2 x3 x4 x5 σ) ih x1 x2 x3 x5 r7.1 x4 r7.2
      · refine z_iload hX dX7_gift_70 6 rfl ?_
        refine z_goto (tgt := 77) hX dX7_gift_72 (by decide) ?_
        refine z_sub [1, 2, 3, 4, 6, 0] rfl ?_
        exact w_X7_gift_77 M V hs hX (fun x1 x2 x3 x4 x5 σ => f_X7_gift_33 n x1 x2 x3 x4 x5 σ) ih x1 x2 x3 x5 r7.1 x5 r7.2
set_option maxHeartbeats 4000000 in
set_option maxRecDepth 100000 in
theorem c_X7_gift (l : Launch) (V : z_V) (hV : z_ok V) (hs : z_isM V) (x1 : Int32) (x2 : Int32) (σ : z_St) : z_CtI l V yX7_gift wsX7_gift rm_X7_gift [.ref (z_ad V 0), .int x1, .int x2] σ (f_X7_gift x1 x2 σ) := by
  refine z_startI (lv := [(0, .ref (z_ad V 0)), (1, .int x1), (2, .int x2)]) hV (by decide) rfl (Nat.le_of_ble_eq_true rfl) rfl ?_
  intro M hM hX
  have hX : z_Cx M V cX7_gift 7 (some .int) wsX7_gift RX7 := hX
  unfold f_X7_gift
  refine z_iload_n hX dX7_gift_0 rfl 1 rfl ?_
  refine z_i2l hX dX7_gift_1 ?_
  refine z_lconst (v := 0) hX dX7_gift_2 (by decide) ?_
  refine z_ldc2 (v := 99) hX lk_X7_gift_c222 dX7_gift_3 ?_
  refine z_callSI (n := 3) hX (c_X7_in M.2.1 V hX.2.2.2.2.2 hs x1.toInt64 (0 : Int64) (99 : Int64) σ) gX7_gift_X7_in rfl (by decide +kernel) ⟨by decide, by decide⟩ rfl rfl rfl rfl (Nat.le_of_ble_eq_true rfl) dX7_gift_6 (fun r1 _ => ?_)
  refine z_if_eq (tgt := 19) hX dX7_gift_9 (by decide) ?_ ?_
  · refine z_iconst (v := -1) hX dX7_gift_19 (by decide) ?_
    exact z_iret hX dX7_gift_20
  · refine z_iload_n hX dX7_gift_12 rfl 2 rfl ?_
    refine z_callSI (n := 1) hX (c_X7_isPart M.2.1 V hX.2.2.2.2.2 hs x2 r1.2) gX7_gift_X7_isPart rfl (by decide +kernel) ⟨by decide, by decide⟩ rfl rfl rfl rfl (Nat.le_of_ble_eq_true rfl) dX7_gift_13 (fun r2 _ => ?_)
    refine z_if_ne (tgt := 21) hX dX7_gift_16 (by decide) ?_ ?_
    · refine z_aload_n hX dX7_gift_21 rfl 0 rfl ?_
      refine z_callVI (n := 0) hX (c_X7_brazenAsNow M.2.1 V hX.2.2.2.2.2 hs r2.2) gX7_gift_X7_brazenAsNow rfl (by decide +kernel) ⟨by decide, by decide⟩ rfl rfl (z_mod0 hs) rfl rfl rfl rfl (Nat.le_of_ble_eq_true rfl) dX7_gift_22 (fun r3 _ => ?_)
      refine z_istore_n (lv' := [(3, .int r3.1), (0, .ref (z_ad V 0)), (1, .int x1), (2, .int x2)]) hX dX7_gift_25 rfl (by decide) rfl ?_
      refine z_bipush (v := -4) hX dX7_gift_26 (by decide) ?_
      refine z_istore (lv' := [(4, .int (-4 : Int32)), (3, .int r3.1), (0, .ref (z_ad V 0)), (1, .int x1), (2, .int x2)]) hX dX7_gift_28 (by decide) rfl ?_
      refine z_iconst (v := 0) hX dX7_gift_30 (by decide) ?_
      refine z_istore (lv' := [(5, .int (0 : Int32)), (4, .int (-4 : Int32)), (3, .int r3.1), (0, .ref (z_ad V 0)), (1, .int x1), (2, .int x2)]) hX dX7_gift_31 (by decide) rfl ?_
      refine z_sub [3, 4, 5, 2, 1, 0] rfl ?_
      exact w_X7_gift_33 M V hs hX 200 x1 x2 r3.1 (-4 : Int32) (0 : Int32) r3.2
    · refine z_iconst (v := -1) hX dX7_gift_19 (by decide) ?_
      exact z_iret hX dX7_gift_20

abbrev rm_X7_told : Room := { frames := 6, cells := 0, slots := 0, locals := 135 }
theorem in_X7_told_X7 : ∀ w ∈ wsX70, w ∈ wsX7_told := fun w h => List.mem_cons_of_mem _ (List.mem_append_right _ h)
theorem lk_X7_told_f99 : Cond.fieldLink RX7 99 (TX7 3).1 (TX7 3).2.1 (TX7 3).2.2.1 ∈ wsX7_told := by decide +kernel
theorem lk_X7_told_f62 : Cond.fieldLink RX7 62 (TX7 33).1 (TX7 33).2.1 (TX7 33).2.2.1 ∈ wsX7_told := by decide +kernel
set_option maxHeartbeats 4000000 in
set_option maxRecDepth 100000 in
theorem w_X7_told_133 (M : z_M) (V : z_V) (hs : z_isM V) (hX : z_Cx M V cX7_told 6 (some .int) wsX7_told RX7) (K73 : Int32 → Int32 → Int32 → z_St → Option (Int32 × z_St)) (hK73 : ∀ (x2 : Int32) (x3 : Int32) (x4 : Int32) (σ : z_St), z_Go M rm_X7_told 6 V (z_QI V) σ 73 [(0, .ref (z_ad V 0)), (2, .int x2), (3, .int x3), (4, .int x4)] [] (K73 x2 x3 x4 σ)) (x2 : Int32) (x3 : Int32) (x4 : Int32) (y0 : Int32) (σ : z_St) : z_Go M rm_X7_told 6 V (z_QI V) σ 133 [(0, .ref (z_ad V 0)), (2, .int x2), (3, .int x3), (4, .int x4)] [.int y0] (f_X7_told_133 K73 x2 x3 x4 y0 σ) := by
  unfold f_X7_told_133
  refine z_istore (lv' := [(5, .int y0), (0, .ref (z_ad V 0)), (2, .int x2), (3, .int x3), (4, .int x4)]) hX dX7_told_133 (by decide) rfl ?_
  refine z_iload_n hX dX7_told_135 rfl 3 rfl ?_
  refine z_iload hX dX7_told_136 0 rfl ?_
  refine z_callSI (n := 1) hX (c_X7_flag M.2.1 V hX.2.2.2.2.2 hs y0 σ) gX7_told_X7_flag rfl (by decide +kernel) ⟨by decide, by decide⟩ rfl rfl rfl rfl (Nat.le_of_ble_eq_true rfl) dX7_told_138 (fun r9 _ => ?_)
  refine z_iload hX dX7_told_141 4 rfl ?_
  refine z_ishl hX dX7_told_143 ?_
  refine z_ior hX dX7_told_144 ?_
  refine z_top (fun v10 => ?_)
  refine z_istore_n (lv' := [(3, .int v10), (5, .int y0), (0, .ref (z_ad V 0)), (2, .int x2), (4, .int x4)]) hX dX7_told_145 rfl (by decide) rfl ?_
  refine z_iinc (v := (x4 + 1)) (lv' := [(4, .int (x4 + 1)), (3, .int v10), (5, .int y0), (0, .ref (z_ad V 0)), (2, .int x2)]) hX dX7_told_146 4 rfl rfl (by decide) rfl ?_
  refine z_goto (tgt := 73) hX dX7_told_149 (by decide) ?_
  refine z_sub [3, 4, 1, 0] rfl ?_
  exact hK73 x2 v10 (x4 + 1) r9.2
set_option maxHeartbeats 4000000 in
set_option maxRecDepth 100000 in
theorem w_X7_told_73 (M : z_M) (V : z_V) (hs : z_isM V) (hX : z_Cx M V cX7_told 6 (some .int) wsX7_told RX7) : ∀ (n : Nat) (x2 : Int32) (x3 : Int32) (x4 : Int32) (σ : z_St), z_Go M rm_X7_told 6 V (z_QI V) σ 73 [(0, .ref (z_ad V 0)), (2, .int x2), (3, .int x3), (4, .int x4)] [] (f_X7_told_73 n x2 x3 x4 σ) := by
  intro n
  induction n with
  | zero => intro x2 x3 x4 σ; exact z_none
  | succ n ih =>
    intro x2 x3 x4 σ
    rw [f_X7_told_73]
    refine z_iload hX dX7_told_73 3 rfl ?_
    refine z_aload_n hX dX7_told_75 rfl 0 rfl ?_
    refine z_getI (k := 3) hX (z_mod0 hs) rfl rfl in_X7_told_X7 (by decide) lk_X7_told_f99 dX7_told_76 ?_
    refine z_icmp_ge (tgt := 152) hX dX7_told_79 (by decide) ?_ ?_
    · refine z_iload_n hX dX7_told_152 rfl 2 rfl ?_
      exact z_iret hX dX7_told_153
    · refine z_iload_n hX dX7_told_82 rfl 1 rfl ?_
      refine z_if_ne (tgt := 111) hX dX7_told_83 (by decide) ?_ ?_
      · refine z_aload_n hX dX7_told_111 rfl 0 rfl ?_
        refine z_iload hX dX7_told_112 3 rfl ?_
        refine z_iconst (v := 3) hX dX7_told_114 (by decide) ?_
        refine z_callVI (n := 2) hX (c_X7_of M.2.1 V hX.2.2.2.2.2 hs x4 (3 : Int32) σ) gX7_told_X7_of rfl (by decide +kernel) ⟨by decide, by decide⟩ rfl rfl (z_mod0 hs) rfl rfl rfl rfl (Nat.le_of_ble_eq_true rfl) dX7_told_115 (fun r8 _ => ?_)
        refine z_aload_n hX dX7_told_118 rfl 0 rfl ?_
        refine z_getR (k := 33) hX (z_mod0 hs) rfl rfl in_X7_told_X7 (by decide) lk_X7_told_f62 dX7_told_119 ?_
        refine z_iload hX dX7_told_122 3 rfl ?_
        refine z_iald hX (z_mod18 hs) dX7_told_124 ?_
        refine z_icmp_ge (tgt := 132) hX dX7_told_125 (by decide) ?_ ?_
        · refine z_iconst (v := 0) hX dX7_told_132 (by decide) ?_
          exact w_X7_told_133 M V hs hX (fun x2 x3 x4 σ => f_X7_told_73 n x2 x3 x4 σ) ih x2 x3 x4 (0 : Int32) r8.2
        · refine z_iconst (v := 1) hX dX7_told_128 (by decide) ?_
          refine z_goto (tgt := 133) hX dX7_told_129 (by decide) ?_
          exact w_X7_told_133 M V hs hX (fun x2 x3 x4 σ => f_X7_told_73 n x2 x3 x4 σ) ih x2 x3 x4 (1 : Int32) r8.2
      · refine z_aload_n hX dX7_told_86 rfl 0 rfl ?_
        refine z_iload hX dX7_told_87 3 rfl ?_
        refine z_iconst (v := 3) hX dX7_told_89 (by decide) ?_
        refine z_callVI (n := 2) hX (c_X7_of M.2.1 V hX.2.2.2.2.2 hs x4 (3 : Int32) σ) gX7_told_X7_of rfl (by decide +kernel) ⟨by decide, by decide⟩ rfl rfl (z_mod0 hs) rfl rfl rfl rfl (Nat.le_of_ble_eq_true rfl) dX7_told_90 (fun r11 _ => ?_)
        refine z_aload_n hX dX7_told_93 rfl 0 rfl ?_
        refine z_getR (k := 33) hX (z_mod0 hs) rfl rfl in_X7_told_X7 (by decide) lk_X7_told_f62 dX7_told_94 ?_
        refine z_iload hX dX7_told_97 3 rfl ?_
        refine z_iald hX (z_mod18 hs) dX7_told_99 ?_
        refine z_icmp_le (tgt := 107) hX dX7_told_100 (by decide) ?_ ?_
        · refine z_iconst (v := 0) hX dX7_told_107 (by decide) ?_
          refine z_goto (tgt := 133) hX dX7_told_108 (by decide) ?_
          exact w_X7_told_133 M V hs hX (fun x2 x3 x4 σ => f_X7_told_73 n x2 x3 x4 σ) ih x2 x3 x4 (0 : Int32) r11.2
        · refine z_iconst (v := 1) hX dX7_told_103 (by decide) ?_
          refine z_goto (tgt := 133) hX dX7_told_104 (by decide) ?_
          exact w_X7_told_133 M V hs hX (fun x2 x3 x4 σ => f_X7_told_73 n x2 x3 x4 σ) ih x2 x3 x4 (1 : Int32) r11.2
set_option maxHeartbeats 4000000 in
set_option maxRecDepth 100000 in
theorem w_X7_told_24 (M : z_M) (V : z_V) (hs : z_isM V) (hX : z_Cx M V cX7_told 6 (some .int) wsX7_told RX7) : ∀ (n : Nat) (x1 : Int32) (x2 : Int32) (x3 : Int32) (σ : z_St), z_Go M rm_X7_told 6 V (z_QI V) σ 24 [(0, .ref (z_ad V 0)), (1, .int x1), (2, .int x2), (3, .int x3)] [] (f_X7_told_24 n x1 x2 x3 σ) := by
  intro n
  induction n with
  | zero => intro x1 x2 x3 σ; exact z_none
  | succ n ih =>
    intro x1 x2 x3 σ
    rw [f_X7_told_24]
    refine z_iload_n hX dX7_told_24 rfl 3 rfl ?_
    refine z_aload_n hX dX7_told_25 rfl 0 rfl ?_
    refine z_getI (k := 3) hX (z_mod0 hs) rfl rfl in_X7_told_X7 (by decide) lk_X7_told_f99 dX7_told_26 ?_
    refine z_icmp_ge (tgt := 50) hX dX7_told_29 (by decide) ?_ ?_
    · refine z_aload_n hX dX7_told_50 rfl 0 rfl ?_
      refine z_callVV (n := 0) hX (c_X7_starts M.2.1 V hX.2.2.2.2.2 hs σ) gX7_told_X7_starts rfl (by decide +kernel) ⟨by decide, by decide⟩ rfl rfl (z_mod0 hs) rfl rfl rfl rfl (Nat.le_of_ble_eq_true rfl) dX7_told_51 (fun r4 _ => ?_)
      refine z_aload_n hX dX7_told_54 rfl 0 rfl ?_
      refine z_iload_n hX dX7_told_55 rfl 1 rfl ?_
      refine z_callVI (n := 1) hX (c_X7_rumoured M.2.1 V hX.2.2.2.2.2 hs x1 r4.2) gX7_told_X7_rumoured rfl (by decide +kernel) ⟨by decide, by decide⟩ rfl rfl (z_mod0 hs) rfl rfl rfl rfl (Nat.le_of_ble_eq_true rfl) dX7_told_56 (fun r5 _ => ?_)
      refine z_pop hX dX7_told_59 rfl ?_
      refine z_aload_n hX dX7_told_60 rfl 0 rfl ?_
      refine z_aload_n hX dX7_told_61 rfl 0 rfl ?_
      refine z_callVI (n := 0) hX (c_X7_weeksLeft M.2.1 V hX.2.2.2.2.2 hs r5.2) gX7_told_X7_weeksLeft rfl (by decide +kernel) ⟨by decide, by decide⟩ rfl rfl (z_mod0 hs) rfl rfl rfl rfl (Nat.le_of_ble_eq_true rfl) dX7_told_62 (fun r6 _ => ?_)
      refine z_callVV (n := 1) hX (c_X7_weeksGo M.2.1 V hX.2.2.2.2.2 hs r6.1 r6.2) gX7_told_X7_weeksGo rfl (by decide +kernel) ⟨by decide, by decide⟩ rfl rfl (z_mod0 hs) rfl rfl rfl rfl (Nat.le_of_ble_eq_true rfl) dX7_told_65 (fun r7 _ => ?_)
      refine z_iconst (v := 0) hX dX7_told_68 (by decide) ?_
      refine z_istore_n (lv' := [(3, .int (0 : Int32)), (0, .ref (z_ad V 0)), (1, .int x1), (2, .int x2)]) hX dX7_told_69 rfl (by decide) rfl ?_
      refine z_iconst (v := 0) hX dX7_told_70 (by decide) ?_
      refine z_istore (lv' := [(4, .int (0 : Int32)), (3, .int (0 : Int32)), (0, .ref (z_ad V 0)), (1, .int x1), (2, .int x2)]) hX dX7_told_71 (by decide) rfl ?_
      refine z_sub [2, 4, 1, 0] rfl ?_
      exact w_X7_told_73 M V hs hX 200 x2 (0 : Int32) (0 : Int32) r7.2
    · refine z_aload_n hX dX7_told_32 rfl 0 rfl ?_
      refine z_getR (k := 33) hX (z_mod0 hs) rfl rfl in_X7_told_X7 (by decide) lk_X7_told_f62 dX7_told_33 ?_
      refine z_iload_n hX dX7_told_36 rfl 3 rfl ?_
      refine z_aload_n hX dX7_told_37 rfl 0 rfl ?_
      refine z_iload_n hX dX7_told_38 rfl 3 rfl ?_
      refine z_iconst (v := 3) hX dX7_told_39 (by decide) ?_
      refine z_callVI (n := 2) hX (c_X7_of M.2.1 V hX.2.2.2.2.2 hs x3 (3 : Int32) σ) gX7_told_X7_of rfl (by decide +kernel) ⟨by decide, by decide⟩ rfl rfl (z_mod0 hs) rfl rfl rfl rfl (Nat.le_of_ble_eq_true rfl) dX7_told_40 (fun r12 _ => ?_)
      refine z_iast hX (z_mod18 hs) dX7_told_43 (z_bs fun s13 => ?_)
      refine z_iinc (v := (x3 + 1)) (lv' := [(3, .int (x3 + 1)), (0, .ref (z_ad V 0)), (1, .int x1), (2, .int x2)]) hX dX7_told_44 3 rfl rfl (by decide) rfl ?_
      refine z_goto (tgt := 24) hX dX7_told_47 (by decide) ?_
      refine z_sub [1, 2, 3, 0] rfl ?_
      exact ih x1 x2 (x3 + 1) s13
set_option maxHeartbeats 4000000 in
set_option maxRecDepth 100000 in
theorem c_X7_told (l : Launch) (V : z_V) (hV : z_ok V) (hs : z_isM V) (x1 : Int32) (x2 : Int32) (σ : z_St) : z_CtI l V yX7_told wsX7_told rm_X7_told [.ref (z_ad V 0), .int x1, .int x2] σ (f_X7_told x1 x2 σ) := by
  refine z_startI (lv := [(0, .ref (z_ad V 0)), (1, .int x1), (2, .int x2)]) hV (by decide) rfl (Nat.le_of_ble_eq_true rfl) rfl ?_
  intro M hM hX
  have hX : z_Cx M V cX7_told 6 (some .int) wsX7_told RX7 := hX
  unfold f_X7_told
  refine z_aload_n hX dX7_told_0 rfl 0 rfl ?_
  refine z_iload_n hX dX7_told_1 rfl 1 rfl ?_
  refine z_callVI (n := 1) hX (c_X7_isOne M.2.1 V hX.2.2.2.2.2 hs x1 σ) gX7_told_X7_isOne rfl (by decide +kernel) ⟨by decide, by decide⟩ rfl rfl (z_mod0 hs) rfl rfl rfl rfl (Nat.le_of_ble_eq_true rfl) dX7_told_2 (fun r1 _ => ?_)
  refine z_if_eq (tgt := 15) hX dX7_told_5 (by decide) ?_ ?_
  · refine z_iconst (v := -1) hX dX7_told_15 (by decide) ?_
    exact z_iret hX dX7_told_16
  · refine z_iload_n hX dX7_told_8 rfl 2 rfl ?_
    refine z_callSI (n := 1) hX (c_X7_isPart M.2.1 V hX.2.2.2.2.2 hs x2 r1.2) gX7_told_X7_isPart rfl (by decide +kernel) ⟨by decide, by decide⟩ rfl rfl rfl rfl (Nat.le_of_ble_eq_true rfl) dX7_told_9 (fun r2 _ => ?_)
    refine z_if_ne (tgt := 17) hX dX7_told_12 (by decide) ?_ ?_
    · refine z_aload_n hX dX7_told_17 rfl 0 rfl ?_
      refine z_callVI (n := 0) hX (c_X7_brazenAsNow M.2.1 V hX.2.2.2.2.2 hs r2.2) gX7_told_X7_brazenAsNow rfl (by decide +kernel) ⟨by decide, by decide⟩ rfl rfl (z_mod0 hs) rfl rfl rfl rfl (Nat.le_of_ble_eq_true rfl) dX7_told_18 (fun r3 _ => ?_)
      refine z_pop hX dX7_told_21 rfl ?_
      refine z_iconst (v := 0) hX dX7_told_22 (by decide) ?_
      refine z_istore_n (lv' := [(3, .int (0 : Int32)), (0, .ref (z_ad V 0)), (1, .int x1), (2, .int x2)]) hX dX7_told_23 rfl (by decide) rfl ?_
      refine z_sub [1, 2, 3, 0] rfl ?_
      exact w_X7_told_24 M V hs hX 200 x1 x2 (0 : Int32) r3.2
    · refine z_iconst (v := -1) hX dX7_told_15 (by decide) ?_
      exact z_iret hX dX7_told_16

abbrev rm_X7_whisper : Room := { frames := 6, cells := 0, slots := 0, locals := 135 }
theorem in_X7_whisper_X7 : ∀ w ∈ wsX70, w ∈ wsX7_whisper := fun w h => List.mem_cons_of_mem _ (List.mem_append_right _ h)
theorem lk_X7_whisper_f99 : Cond.fieldLink RX7 99 (TX7 3).1 (TX7 3).2.1 (TX7 3).2.2.1 ∈ wsX7_whisper := by decide +kernel
set_option maxHeartbeats 4000000 in
set_option maxRecDepth 100000 in
theorem w_X7_whisper_62 (M : z_M) (V : z_V) (hs : z_isM V) (hX : z_Cx M V cX7_whisper 6 (some .int) wsX7_whisper RX7) (K20 : Int32 → Int32 → Int32 → Int32 → z_St → Option (Int32 × z_St)) (hK20 : ∀ (x1 : Int32) (x2 : Int32) (x3 : Int32) (x4 : Int32) (σ : z_St), z_Go M rm_X7_whisper 6 V (z_QI V) σ 20 [(0, .ref (z_ad V 0)), (1, .int x1), (2, .int x2), (3, .int x3), (4, .int x4)] [] (K20 x1 x2 x3 x4 σ)) (x1 : Int32) (x2 : Int32) (x4 : Int32) (x5 : Int32) (y0 : Int32) (σ : z_St) : z_Go M rm_X7_whisper 6 V (z_QI V) σ 62 [(0, .ref (z_ad V 0)), (1, .int x1), (2, .int x2), (4, .int x4), (5, .int x5)] [.int y0] (f_X7_whisper_62 K20 x1 x2 x4 x5 y0 σ) := by
  unfold f_X7_whisper_62
  refine z_istore_n (lv' := [(3, .int y0), (0, .ref (z_ad V 0)), (1, .int x1), (2, .int x2), (4, .int x4), (5, .int x5)]) hX dX7_whisper_62 rfl (by decide) rfl ?_
  refine z_iload hX dX7_whisper_63 5 rfl ?_
  refine z_iload_n hX dX7_whisper_65 rfl 3 rfl ?_
  refine z_icmp_ge (tgt := 74) hX dX7_whisper_66 (by decide) ?_ ?_
  · refine z_iload_n hX dX7_whisper_74 rfl 3 rfl ?_
    refine z_istore_n (lv' := [(2, .int x2), (3, .int y0), (0, .ref (z_ad V 0)), (1, .int x1), (4, .int x4), (5, .int x5)]) hX dX7_whisper_75 rfl (by decide) rfl ?_
    refine z_iinc (v := (x4 + 1)) (lv' := [(4, .int (x4 + 1)), (2, .int x2), (3, .int y0), (0, .ref (z_ad V 0)), (1, .int x1), (5, .int x5)]) hX dX7_whisper_76 4 rfl rfl (by decide) rfl ?_
    refine z_goto (tgt := 20) hX dX7_whisper_79 (by decide) ?_
    refine z_sub [3, 4, 1, 2, 0] rfl ?_
    exact hK20 x1 x2 y0 (x4 + 1) σ
  · refine z_iload hX dX7_whisper_69 5 rfl ?_
    refine z_goto (tgt := 75) hX dX7_whisper_71 (by decide) ?_
    refine z_istore_n (lv' := [(2, .int x5), (3, .int y0), (0, .ref (z_ad V 0)), (1, .int x1), (4, .int x4), (5, .int x5)]) hX dX7_whisper_75 rfl (by decide) rfl ?_
    refine z_iinc (v := (x4 + 1)) (lv' := [(4, .int (x4 + 1)), (2, .int x5), (3, .int y0), (0, .ref (z_ad V 0)), (1, .int x1), (5, .int x5)]) hX dX7_whisper_76 4 rfl rfl (by decide) rfl ?_
    refine z_goto (tgt := 20) hX dX7_whisper_79 (by decide) ?_
    refine z_sub [3, 4, 1, 2, 0] rfl ?_
    exact hK20 x1 x5 y0 (x4 + 1) σ
set_option maxHeartbeats 4000000 in
set_option maxRecDepth 100000 in
theorem w_X7_whisper_20 (M : z_M) (V : z_V) (hs : z_isM V) (hX : z_Cx M V cX7_whisper 6 (some .int) wsX7_whisper RX7) : ∀ (n : Nat) (x1 : Int32) (x2 : Int32) (x3 : Int32) (x4 : Int32) (σ : z_St), z_Go M rm_X7_whisper 6 V (z_QI V) σ 20 [(0, .ref (z_ad V 0)), (1, .int x1), (2, .int x2), (3, .int x3), (4, .int x4)] [] (f_X7_whisper_20 n x1 x2 x3 x4 σ) := by
  intro n
  induction n with
  | zero => intro x1 x2 x3 x4 σ; exact z_none
  | succ n ih =>
    intro x1 x2 x3 x4 σ
    rw [f_X7_whisper_20]
    refine z_iload hX dX7_whisper_20 4 rfl ?_
    refine z_aload_n hX dX7_whisper_22 rfl 0 rfl ?_
    refine z_getI (k := 3) hX (z_mod0 hs) rfl rfl in_X7_whisper_X7 (by decide) lk_X7_whisper_f99 dX7_whisper_23 ?_
    refine z_icmp_ge (tgt := 82) hX dX7_whisper_26 (by decide) ?_ ?_
    · refine z_iload_n hX dX7_whisper_82 rfl 3 rfl ?_
      refine z_bipush (v := -4) hX dX7_whisper_83 (by decide) ?_
      refine z_icmp_ne (tgt := 93) hX dX7_whisper_85 (by decide) ?_ ?_
      · refine z_iload_n hX dX7_whisper_93 rfl 1 rfl ?_
        refine z_if_ne (tgt := 101) hX dX7_whisper_94 (by decide) ?_ ?_
        · refine z_iload_n hX dX7_whisper_101 rfl 2 rfl ?_
          exact z_iret hX dX7_whisper_102
        · refine z_iload_n hX dX7_whisper_97 rfl 3 rfl ?_
          refine z_goto (tgt := 102) hX dX7_whisper_98 (by decide) ?_
          exact z_iret hX dX7_whisper_102
      · refine z_bipush (v := -4) hX dX7_whisper_88 (by decide) ?_
        refine z_goto (tgt := 102) hX dX7_whisper_90 (by decide) ?_
        exact z_iret hX dX7_whisper_102
    · refine z_aload_n hX dX7_whisper_29 rfl 0 rfl ?_
      refine z_callVV (n := 0) hX (c_X7_starts M.2.1 V hX.2.2.2.2.2 hs σ) gX7_whisper_X7_starts rfl (by decide +kernel) ⟨by decide, by decide⟩ rfl rfl (z_mod0 hs) rfl rfl rfl rfl (Nat.le_of_ble_eq_true rfl) dX7_whisper_30 (fun r3 _ => ?_)
      refine z_aload_n hX dX7_whisper_33 rfl 0 rfl ?_
      refine z_iload hX dX7_whisper_34 4 rfl ?_
      refine z_callVI (n := 1) hX (c_X7_rumoured M.2.1 V hX.2.2.2.2.2 hs x4 r3.2) gX7_whisper_X7_rumoured rfl (by decide +kernel) ⟨by decide, by decide⟩ rfl rfl (z_mod0 hs) rfl rfl rfl rfl (Nat.le_of_ble_eq_true rfl) dX7_whisper_36 (fun r4 _ => ?_)
      refine z_pop hX dX7_whisper_39 rfl ?_
      refine z_aload_n hX dX7_whisper_40 rfl 0 rfl ?_
      refine z_aload_n hX dX7_whisper_41 rfl 0 rfl ?_
      refine z_callVI (n := 0) hX (c_X7_weeksLeft M.2.1 V hX.2.2.2.2.2 hs r4.2) gX7_whisper_X7_weeksLeft rfl (by decide +kernel) ⟨by decide, by decide⟩ rfl rfl (z_mod0 hs) rfl rfl rfl rfl (Nat.le_of_ble_eq_true rfl) dX7_whisper_42 (fun r5 _ => ?_)
      refine z_callVI (n := 1) hX (c_X7_brazenIn M.2.1 V hX.2.2.2.2.2 hs r5.1 r5.2) gX7_whisper_X7_brazenIn rfl (by decide +kernel) ⟨by decide, by decide⟩ rfl rfl (z_mod0 hs) rfl rfl rfl rfl (Nat.le_of_ble_eq_true rfl) dX7_whisper_45 (fun r6 _ => ?_)
      refine z_istore (lv' := [(5, .int r6.1), (0, .ref (z_ad V 0)), (1, .int x1), (2, .int x2), (3, .int x3), (4, .int x4)]) hX dX7_whisper_48 (by decide) rfl ?_
      refine z_iload hX dX7_whisper_50 0 rfl ?_
      refine z_iload_n hX dX7_whisper_52 rfl 3 rfl ?_
      refine z_icmp_ge (tgt := 61) hX dX7_whisper_53 (by decide) ?_ ?_
      · refine z_iload_n hX dX7_whisper_61 rfl 4 rfl ?_
        refine z_sub [1, 2, 3, 5, 0] rfl ?_
        exact w_X7_whisper_62 M V hs hX (fun x1 x2 x3 x4 σ => f_X7_whisper_20 n x1 x2 x3 x4 σ) ih x1 x2 x4 r6.1 x3 r6.2
      · refine z_iload hX dX7_whisper_56 5 rfl ?_
        refine z_goto (tgt := 62) hX dX7_whisper_58 (by decide) ?_
        refine z_sub [1, 2, 3, 5, 0] rfl ?_
        exact w_X7_whisper_62 M V hs hX (fun x1 x2 x3 x4 σ => f_X7_whisper_20 n x1 x2 x3 x4 σ) ih x1 x2 x4 r6.1 x4 r6.2
set_option maxHeartbeats 4000000 in
set_option maxRecDepth 100000 in
theorem c_X7_whisper (l : Launch) (V : z_V) (hV : z_ok V) (hs : z_isM V) (x1 : Int32) (σ : z_St) : z_CtI l V yX7_whisper wsX7_whisper rm_X7_whisper [.ref (z_ad V 0), .int x1] σ (f_X7_whisper x1 σ) := by
  refine z_startI (lv := [(0, .ref (z_ad V 0)), (1, .int x1)]) hV (by decide) rfl (Nat.le_of_ble_eq_true rfl) rfl ?_
  intro M hM hX
  have hX : z_Cx M V cX7_whisper 6 (some .int) wsX7_whisper RX7 := hX
  unfold f_X7_whisper
  refine z_iload_n hX dX7_whisper_0 rfl 1 rfl ?_
  refine z_callSI (n := 1) hX (c_X7_isPart M.2.1 V hX.2.2.2.2.2 hs x1 σ) gX7_whisper_X7_isPart rfl (by decide +kernel) ⟨by decide, by decide⟩ rfl rfl rfl rfl (Nat.le_of_ble_eq_true rfl) dX7_whisper_1 (fun r1 _ => ?_)
  refine z_if_ne (tgt := 9) hX dX7_whisper_4 (by decide) ?_ ?_
  · refine z_aload_n hX dX7_whisper_9 rfl 0 rfl ?_
    refine z_callVI (n := 0) hX (c_X7_brazenAsNow M.2.1 V hX.2.2.2.2.2 hs r1.2) gX7_whisper_X7_brazenAsNow rfl (by decide +kernel) ⟨by decide, by decide⟩ rfl rfl (z_mod0 hs) rfl rfl rfl rfl (Nat.le_of_ble_eq_true rfl) dX7_whisper_10 (fun r2 _ => ?_)
    refine z_istore_n (lv' := [(2, .int r2.1), (0, .ref (z_ad V 0)), (1, .int x1)]) hX dX7_whisper_13 rfl (by decide) rfl ?_
    refine z_bipush (v := -4) hX dX7_whisper_14 (by decide) ?_
    refine z_istore_n (lv' := [(3, .int (-4 : Int32)), (2, .int r2.1), (0, .ref (z_ad V 0)), (1, .int x1)]) hX dX7_whisper_16 rfl (by decide) rfl ?_
    refine z_iconst (v := 0) hX dX7_whisper_17 (by decide) ?_
    refine z_istore (lv' := [(4, .int (0 : Int32)), (3, .int (-4 : Int32)), (2, .int r2.1), (0, .ref (z_ad V 0)), (1, .int x1)]) hX dX7_whisper_18 (by decide) rfl ?_
    refine z_sub [3, 4, 2, 1, 0] rfl ?_
    exact w_X7_whisper_20 M V hs hX 200 x1 r2.1 (-4 : Int32) (0 : Int32) r2.2
  · refine z_iconst (v := -1) hX dX7_whisper_7 (by decide) ?_
    exact z_iret hX dX7_whisper_8

abbrev rm_X7_note : Room := { frames := 2, cells := 0, slots := 0, locals := 46 }
theorem in_X7_note_X7 : ∀ w ∈ wsX70, w ∈ wsX7_note := fun w h => List.mem_cons_of_mem _ (List.mem_append_right _ h)
theorem lk_X7_note_c237 : Cond.constantLong RX7 237 9 ∈ wsX7_note := by decide +kernel
theorem lk_X7_note_f7 : Cond.fieldLink RX7 7 (TX7 0).1 (TX7 0).2.1 (TX7 0).2.2.1 ∈ wsX7_note := by decide +kernel
set_option maxHeartbeats 4000000 in
set_option maxRecDepth 100000 in
theorem c_X7_note (l : Launch) (V : z_V) (hV : z_ok V) (hs : z_isM V) (x1 : Int32) (x2 : Int32) (x3 : Int32) (σ : z_St) : z_CtI l V yX7_note wsX7_note rm_X7_note [.ref (z_ad V 0), .int x1, .int x2, .int x3] σ (f_X7_note x1 x2 x3 σ) := by
  refine z_startI (lv := [(0, .ref (z_ad V 0)), (1, .int x1), (2, .int x2), (3, .int x3)]) hV (by decide) rfl (Nat.le_of_ble_eq_true rfl) rfl ?_
  intro M hM hX
  have hX : z_Cx M V cX7_note 5 (some .int) wsX7_note RX7 := hX
  unfold f_X7_note
  refine z_aload_n hX dX7_note_0 rfl 0 rfl ?_
  refine z_iload_n hX dX7_note_1 rfl 1 rfl ?_
  refine z_callVI (n := 1) hX (c_X7_isOne M.2.1 V hX.2.2.2.2.2 hs x1 σ) gX7_note_X7_isOne rfl (by decide +kernel) ⟨by decide, by decide⟩ rfl rfl (z_mod0 hs) rfl rfl rfl rfl (Nat.le_of_ble_eq_true rfl) dX7_note_2 (fun r1 _ => ?_)
  refine z_if_eq (tgt := 20) hX dX7_note_5 (by decide) ?_ ?_
  · refine z_iconst (v := -1) hX dX7_note_20 (by decide) ?_
    exact z_iret hX dX7_note_21
  · refine z_iload_n hX dX7_note_8 rfl 2 rfl ?_
    refine z_i2l hX dX7_note_9 ?_
    refine z_lconst (v := 0) hX dX7_note_10 (by decide) ?_
    refine z_ldc2 (v := 9) hX lk_X7_note_c237 dX7_note_11 ?_
    refine z_callSI (n := 3) hX (c_X7_in M.2.1 V hX.2.2.2.2.2 hs x2.toInt64 (0 : Int64) (9 : Int64) r1.2) gX7_note_X7_in rfl (by decide +kernel) ⟨by decide, by decide⟩ rfl rfl rfl rfl (Nat.le_of_ble_eq_true rfl) dX7_note_14 (fun r2 _ => ?_)
    refine z_if_ne (tgt := 22) hX dX7_note_17 (by decide) ?_ ?_
    · refine z_iload_n hX dX7_note_22 rfl 2 rfl ?_
      refine z_aload_n hX dX7_note_23 rfl 0 rfl ?_
      refine z_getR (k := 0) hX (z_mod0 hs) rfl rfl in_X7_note_X7 (by decide) lk_X7_note_f7 dX7_note_24 ?_
      refine z_bipush (v := 25) hX dX7_note_27 (by decide) ?_
      refine z_ialdc (j := 25) hX (z_mod1 hs) (by decide) dX7_note_29 ?_
      refine z_icmp_ge (tgt := 36) hX dX7_note_30 (by decide) ?_ ?_
      · refine z_aload_n hX dX7_note_36 rfl 0 rfl ?_
        refine z_getR (k := 0) hX (z_mod0 hs) rfl rfl in_X7_note_X7 (by decide) lk_X7_note_f7 dX7_note_37 ?_
        refine z_bipush (v := 26) hX dX7_note_40 (by decide) ?_
        refine z_ialdc (j := 26) hX (z_mod1 hs) (by decide) dX7_note_42 ?_
        refine z_bipush (v := 6) hX dX7_note_43 (by decide) ?_
        refine z_icmp_ne (tgt := 51) hX dX7_note_45 (by decide) ?_ ?_
        · refine z_bipush (v := 27) hX dX7_note_51 (by decide) ?_
          refine z_iconst (v := 3) hX dX7_note_53 (by decide) ?_
          refine z_aload_n hX dX7_note_54 rfl 0 rfl ?_
          refine z_getR (k := 0) hX (z_mod0 hs) rfl rfl in_X7_note_X7 (by decide) lk_X7_note_f7 dX7_note_55 ?_
          refine z_bipush (v := 26) hX dX7_note_58 (by decide) ?_
          refine z_ialdc (j := 26) hX (z_mod1 hs) (by decide) dX7_note_60 ?_
          refine z_imul hX dX7_note_61 ?_
          refine z_iadd hX dX7_note_62 ?_
          refine z_top (fun v3 => ?_)
          refine z_istore (lv' := [(4, .int v3), (0, .ref (z_ad V 0)), (1, .int x1), (2, .int x2), (3, .int x3)]) hX dX7_note_63 (by decide) rfl ?_
          refine z_aload_n hX dX7_note_65 rfl 1 rfl ?_
          refine z_getR (k := 0) hX (z_mod0 hs) rfl rfl in_X7_note_X7 (by decide) lk_X7_note_f7 dX7_note_66 ?_
          refine z_iload hX dX7_note_69 0 rfl ?_
          refine z_iload_n hX dX7_note_71 rfl 2 rfl ?_
          refine z_iast hX (z_mod1 hs) dX7_note_72 (z_bs fun s4 => ?_)
          refine z_aload_n hX dX7_note_73 rfl 1 rfl ?_
          refine z_getR (k := 0) hX (z_mod0 hs) rfl rfl in_X7_note_X7 (by decide) lk_X7_note_f7 dX7_note_74 ?_
          refine z_iload hX dX7_note_77 0 rfl ?_
          refine z_iconst (v := 1) hX dX7_note_79 (by decide) ?_
          refine z_iadd hX dX7_note_80 ?_
          refine z_iload_n hX dX7_note_81 rfl 3 rfl ?_
          refine z_iast hX (z_mod1 hs) dX7_note_82 (z_bs fun s5 => ?_)
          refine z_aload_n hX dX7_note_83 rfl 1 rfl ?_
          refine z_getR (k := 0) hX (z_mod0 hs) rfl rfl in_X7_note_X7 (by decide) lk_X7_note_f7 dX7_note_84 ?_
          refine z_iload hX dX7_note_87 0 rfl ?_
          refine z_iconst (v := 2) hX dX7_note_89 (by decide) ?_
          refine z_iadd hX dX7_note_90 ?_
          refine z_iload_n hX dX7_note_91 rfl 4 rfl ?_
          refine z_callSI (n := 1) hX (c_X7_flag M.2.1 V hX.2.2.2.2.2 hs x3 s5) gX7_note_X7_flag rfl (by decide +kernel) ⟨by decide, by decide⟩ rfl rfl rfl rfl (Nat.le_of_ble_eq_true rfl) dX7_note_92 (fun r6 _ => ?_)
          refine z_iast hX (z_mod1 hs) dX7_note_95 (z_bs fun s7 => ?_)
          refine z_aload_n hX dX7_note_96 rfl 1 rfl ?_
          refine z_getR (k := 0) hX (z_mod0 hs) rfl rfl in_X7_note_X7 (by decide) lk_X7_note_f7 dX7_note_97 ?_
          refine z_bipush (v := 26) hX dX7_note_100 (by decide) ?_
          refine z_dup2 hX dX7_note_102 rfl rfl ?_
          refine z_ialdc (j := 26) hX (z_mod1 hs) (by decide) dX7_note_103 ?_
          refine z_iconst (v := 1) hX dX7_note_104 (by decide) ?_
          refine z_iadd hX dX7_note_105 ?_
          refine z_iastc (j := 26) hX (z_mod1 hs) (by decide) dX7_note_106 (z_bs fun s8 => ?_)
          refine z_aload_n hX dX7_note_107 rfl 1 rfl ?_
          refine z_getR (k := 0) hX (z_mod0 hs) rfl rfl in_X7_note_X7 (by decide) lk_X7_note_f7 dX7_note_108 ?_
          refine z_bipush (v := 26) hX dX7_note_111 (by decide) ?_
          refine z_ialdc (j := 26) hX (z_mod1 hs) (by decide) dX7_note_113 ?_
          exact z_iret hX dX7_note_114
        · refine z_bipush (v := -3) hX dX7_note_48 (by decide) ?_
          exact z_iret hX dX7_note_50
      · refine z_bipush (v := -2) hX dX7_note_33 (by decide) ?_
        exact z_iret hX dX7_note_35
    · refine z_iconst (v := -1) hX dX7_note_20 (by decide) ?_
      exact z_iret hX dX7_note_21

abbrev rm_X7_forget : Room := { frames := 1, cells := 0, slots := 0, locals := 25 }
theorem in_X7_forget_X7 : ∀ w ∈ wsX70, w ∈ wsX7_forget := fun w h => List.mem_cons_of_mem _ (List.mem_append_right _ h)
theorem lk_X7_forget_f7 : Cond.fieldLink RX7 7 (TX7 0).1 (TX7 0).2.1 (TX7 0).2.2.1 ∈ wsX7_forget := by decide +kernel
set_option maxHeartbeats 4000000 in
set_option maxRecDepth 100000 in
theorem c_X7_forget (l : Launch) (V : z_V) (hV : z_ok V) (hs : z_isM V) (x1 : Int32) (σ : z_St) : z_CtI l V yX7_forget wsX7_forget rm_X7_forget [.ref (z_ad V 0), .int x1] σ (f_X7_forget x1 σ) := by
  refine z_startI (lv := [(0, .ref (z_ad V 0)), (1, .int x1)]) hV (by decide) rfl (Nat.le_of_ble_eq_true rfl) rfl ?_
  intro M hM hX
  have hX : z_Cx M V cX7_forget 2 (some .int) wsX7_forget RX7 := hX
  unfold f_X7_forget
  refine z_iload_n hX dX7_forget_0 rfl 1 rfl ?_
  refine z_i2l hX dX7_forget_1 ?_
  refine z_lconst (v := 0) hX dX7_forget_2 (by decide) ?_
  refine z_aload_n hX dX7_forget_3 rfl 0 rfl ?_
  refine z_getR (k := 0) hX (z_mod0 hs) rfl rfl in_X7_forget_X7 (by decide) lk_X7_forget_f7 dX7_forget_4 ?_
  refine z_bipush (v := 26) hX dX7_forget_7 (by decide) ?_
  refine z_ialdc (j := 26) hX (z_mod1 hs) (by decide) dX7_forget_9 ?_
  refine z_i2l hX dX7_forget_10 ?_
  refine z_callSI (n := 3) hX (c_X7_in M.2.1 V hX.2.2.2.2.2 hs x1.toInt64 (0 : Int64) (σ 1 26).toInt64 σ) gX7_forget_X7_in rfl (by decide +kernel) ⟨by decide, by decide⟩ rfl rfl rfl rfl (Nat.le_of_ble_eq_true rfl) dX7_forget_11 (fun r1 _ => ?_)
  refine z_if_eq (tgt := 27) hX dX7_forget_14 (by decide) ?_ ?_
  · refine z_iconst (v := -1) hX dX7_forget_27 (by decide) ?_
    exact z_iret hX dX7_forget_28
  · refine z_aload_n hX dX7_forget_17 rfl 0 rfl ?_
    refine z_bipush (v := 26) hX dX7_forget_18 (by decide) ?_
    refine z_iload_n hX dX7_forget_20 rfl 1 rfl ?_
    refine z_callVI (n := 2) hX (c_X7_becomes M.2.1 V hX.2.2.2.2.2 hs (26 : Int32) x1 r1.2) gX7_forget_X7_becomes rfl (by decide +kernel) ⟨by decide, by decide⟩ rfl rfl (z_mod0 hs) rfl rfl rfl rfl (Nat.le_of_ble_eq_true rfl) dX7_forget_21 (fun r2 _ => ?_)
    refine z_goto (tgt := 28) hX dX7_forget_24 (by decide) ?_
    exact z_iret hX dX7_forget_28

abbrev rm_X7_fitsTo : Room := { frames := 3, cells := 0, slots := 0, locals := 72 }
theorem in_X7_fitsTo_X7 : ∀ w ∈ wsX70, w ∈ wsX7_fitsTo := fun w h => List.mem_cons_of_mem _ (List.mem_append_right _ h)
theorem lk_X7_fitsTo_f13 : Cond.fieldLink RX7 13 (TX7 1).1 (TX7 1).2.1 (TX7 1).2.2.1 ∈ wsX7_fitsTo := by decide +kernel
theorem lk_X7_fitsTo_f7 : Cond.fieldLink RX7 7 (TX7 0).1 (TX7 0).2.1 (TX7 0).2.2.1 ∈ wsX7_fitsTo := by decide +kernel
theorem lk_X7_fitsTo_f192 : Cond.fieldLink RX7 192 (TX7 32).1 (TX7 32).2.1 (TX7 32).2.2.1 ∈ wsX7_fitsTo := by decide +kernel
set_option maxHeartbeats 4000000 in
set_option maxRecDepth 100000 in
theorem w_X7_fitsTo_41 (M : z_M) (V : z_V) (hs : z_isM V) (hX : z_Cx M V cX7_fitsTo 7 (some .boolean) wsX7_fitsTo RX7) (K13 : Int32 → Int32 → z_St → Option (Int32 × z_St)) (hK13 : ∀ (x2 : Int32) (x3 : Int32) (σ : z_St), z_Go M rm_X7_fitsTo 7 V (z_QI V) σ 13 [(0, .ref (z_ad V 0)), (2, .int x2), (3, .int x3)] [] (K13 x2 x3 σ)) : ∀ (n : Nat) (x2 : Int32) (x3 : Int32) (x4 : Int32) (x5 : Int32) (σ : z_St), z_Go M rm_X7_fitsTo 7 V (z_QI V) σ 41 [(0, .ref (z_ad V 0)), (2, .int x2), (3, .int x3), (4, .int x4), (5, .int x5)] [] (f_X7_fitsTo_41 K13 n x2 x3 x4 x5 σ) := by
  intro n
  induction n with
  | zero => intro x2 x3 x4 x5 σ; exact z_none
  | succ n ih =>
    intro x2 x3 x4 x5 σ
    rw [f_X7_fitsTo_41]
    refine z_iload hX dX7_fitsTo_41 4 rfl ?_
    refine z_aload_n hX dX7_fitsTo_43 rfl 0 rfl ?_
    refine z_getR (k := 0) hX (z_mod0 hs) rfl rfl in_X7_fitsTo_X7 (by decide) lk_X7_fitsTo_f7 dX7_fitsTo_44 ?_
    refine z_bipush (v := 26) hX dX7_fitsTo_47 (by decide) ?_
    refine z_ialdc (j := 26) hX (z_mod1 hs) (by decide) dX7_fitsTo_49 ?_
    refine z_icmp_ge (tgt := 118) hX dX7_fitsTo_50 (by decide) ?_ ?_
    · refine z_iinc (v := (x3 + 1)) (lv' := [(3, .int (x3 + 1)), (0, .ref (z_ad V 0)), (2, .int x2), (4, .int x4), (5, .int x5)]) hX dX7_fitsTo_118 2 rfl rfl (by decide) rfl ?_
      refine z_goto (tgt := 13) hX dX7_fitsTo_121 (by decide) ?_
      refine z_sub [1, 2, 0] rfl ?_
      exact hK13 x2 (x3 + 1) σ
    · refine z_bipush (v := 27) hX dX7_fitsTo_53 (by decide) ?_
      refine z_iconst (v := 3) hX dX7_fitsTo_55 (by decide) ?_
      refine z_iload hX dX7_fitsTo_56 4 rfl ?_
      refine z_imul hX dX7_fitsTo_58 ?_
      refine z_iadd hX dX7_fitsTo_59 ?_
      refine z_top (fun v5 => ?_)
      refine z_istore (lv' := [(6, .int v5), (0, .ref (z_ad V 0)), (2, .int x2), (3, .int x3), (4, .int x4), (5, .int x5)]) hX dX7_fitsTo_60 (by decide) rfl ?_
      refine z_iload_n hX dX7_fitsTo_62 rfl 2 rfl ?_
      refine z_if_eq (tgt := 110) hX dX7_fitsTo_63 (by decide) ?_ ?_
      · refine z_iconst (v := 0) hX dX7_fitsTo_110 (by decide) ?_
        refine z_istore_n (lv' := [(2, .int (0 : Int32)), (6, .int v5), (0, .ref (z_ad V 0)), (3, .int x3), (4, .int x4), (5, .int x5)]) hX dX7_fitsTo_111 rfl (by decide) rfl ?_
        refine z_iinc (v := (x5 + 1)) (lv' := [(5, .int (x5 + 1)), (2, .int (0 : Int32)), (6, .int v5), (0, .ref (z_ad V 0)), (3, .int x3), (4, .int x4)]) hX dX7_fitsTo_112 5 rfl rfl (by decide) rfl ?_
        refine z_goto (tgt := 41) hX dX7_fitsTo_115 (by decide) ?_
        refine z_sub [3, 1, 4, 5, 0] rfl ?_
        exact ih (0 : Int32) x3 x4 (x5 + 1) σ
      · refine z_aload_n hX dX7_fitsTo_66 rfl 1 rfl ?_
        refine z_getR (k := 0) hX (z_mod0 hs) rfl rfl in_X7_fitsTo_X7 (by decide) lk_X7_fitsTo_f7 dX7_fitsTo_67 ?_
        refine z_iload hX dX7_fitsTo_70 0 rfl ?_
        refine z_iconst (v := 1) hX dX7_fitsTo_72 (by decide) ?_
        refine z_iadd hX dX7_fitsTo_73 ?_
        refine z_iald hX (z_mod1 hs) dX7_fitsTo_74 ?_
        refine z_iload hX dX7_fitsTo_75 4 rfl ?_
        refine z_icmp_ne (tgt := 106) hX dX7_fitsTo_77 (by decide) ?_ ?_
        · refine z_iconst (v := 1) hX dX7_fitsTo_106 (by decide) ?_
          refine z_goto (tgt := 111) hX dX7_fitsTo_107 (by decide) ?_
          refine z_istore_n (lv' := [(2, .int (1 : Int32)), (6, .int v5), (0, .ref (z_ad V 0)), (3, .int x3), (4, .int x4), (5, .int x5)]) hX dX7_fitsTo_111 rfl (by decide) rfl ?_
          refine z_iinc (v := (x5 + 1)) (lv' := [(5, .int (x5 + 1)), (2, .int (1 : Int32)), (6, .int v5), (0, .ref (z_ad V 0)), (3, .int x3), (4, .int x4)]) hX dX7_fitsTo_112 5 rfl rfl (by decide) rfl ?_
          refine z_goto (tgt := 41) hX dX7_fitsTo_115 (by decide) ?_
          refine z_sub [3, 1, 4, 5, 0] rfl ?_
          exact ih (1 : Int32) x3 x4 (x5 + 1) σ
        · refine z_aload_n hX dX7_fitsTo_80 rfl 1 rfl ?_
          refine z_getI (k := 32) hX (z_mod0 hs) rfl rfl in_X7_fitsTo_X7 (by decide) lk_X7_fitsTo_f192 dX7_fitsTo_81 ?_
          refine z_aload_n hX dX7_fitsTo_84 rfl 1 rfl ?_
          refine z_getR (k := 0) hX (z_mod0 hs) rfl rfl in_X7_fitsTo_X7 (by decide) lk_X7_fitsTo_f7 dX7_fitsTo_85 ?_
          refine z_iload hX dX7_fitsTo_88 0 rfl ?_
          refine z_iald hX (z_mod1 hs) dX7_fitsTo_90 ?_
          refine z_ishr hX dX7_fitsTo_91 ?_
          refine z_iconst (v := 1) hX dX7_fitsTo_92 (by decide) ?_
          refine z_iand hX dX7_fitsTo_93 ?_
          refine z_aload_n hX dX7_fitsTo_94 rfl 1 rfl ?_
          refine z_getR (k := 0) hX (z_mod0 hs) rfl rfl in_X7_fitsTo_X7 (by decide) lk_X7_fitsTo_f7 dX7_fitsTo_95 ?_
          refine z_iload hX dX7_fitsTo_98 0 rfl ?_
          refine z_iconst (v := 2) hX dX7_fitsTo_100 (by decide) ?_
          refine z_iadd hX dX7_fitsTo_101 ?_
          refine z_iald hX (z_mod1 hs) dX7_fitsTo_102 ?_
          refine z_icmp_ne (tgt := 110) hX dX7_fitsTo_103 (by decide) ?_ ?_
          · refine z_iconst (v := 0) hX dX7_fitsTo_110 (by decide) ?_
            refine z_istore_n (lv' := [(2, .int (0 : Int32)), (6, .int v5), (0, .ref (z_ad V 0)), (3, .int x3), (4, .int x4), (5, .int x5)]) hX dX7_fitsTo_111 rfl (by decide) rfl ?_
            refine z_iinc (v := (x5 + 1)) (lv' := [(5, .int (x5 + 1)), (2, .int (0 : Int32)), (6, .int v5), (0, .ref (z_ad V 0)), (3, .int x3), (4, .int x4)]) hX dX7_fitsTo_112 5 rfl rfl (by decide) rfl ?_
            refine z_goto (tgt := 41) hX dX7_fitsTo_115 (by decide) ?_
            refine z_sub [3, 1, 4, 5, 0] rfl ?_
            exact ih (0 : Int32) x3 x4 (x5 + 1) σ
          · refine z_iconst (v := 1) hX dX7_fitsTo_106 (by decide) ?_
            refine z_goto (tgt := 111) hX dX7_fitsTo_107 (by decide) ?_
            refine z_istore_n (lv' := [(2, .int (1 : Int32)), (6, .int v5), (0, .ref (z_ad V 0)), (3, .int x3), (4, .int x4), (5, .int x5)]) hX dX7_fitsTo_111 rfl (by decide) rfl ?_
            refine z_iinc (v := (x5 + 1)) (lv' := [(5, .int (x5 + 1)), (2, .int (1 : Int32)), (6, .int v5), (0, .ref (z_ad V 0)), (3, .int x3), (4, .int x4)]) hX dX7_fitsTo_112 5 rfl rfl (by decide) rfl ?_
            refine z_goto (tgt := 41) hX dX7_fitsTo_115 (by decide) ?_
            refine z_sub [3, 1, 4, 5, 0] rfl ?_
            exact ih (1 : Int32) x3 x4 (x5 + 1) σ
set_option maxHeartbeats 4000000 in
set_option maxRecDepth 100000 in
theorem w_X7_fitsTo_13 (M : z_M) (V : z_V) (hs : z_isM V) (hX : z_Cx M V cX7_fitsTo 7 (some .boolean) wsX7_fitsTo RX7) : ∀ (n : Nat) (x2 : Int32) (x3 : Int32) (σ : z_St), z_Go M rm_X7_fitsTo 7 V (z_QI V) σ 13 [(0, .ref (z_ad V 0)), (2, .int x2), (3, .int x3)] [] (f_X7_fitsTo_13 n x2 x3 σ) := by
  intro n
  induction n with
  | zero => intro x2 x3 σ; exact z_none
  | succ n ih =>
    intro x2 x3 σ
    rw [f_X7_fitsTo_13]
    refine z_iload_n hX dX7_fitsTo_13 rfl 2 rfl ?_
    refine z_aload_n hX dX7_fitsTo_14 rfl 0 rfl ?_
    refine z_callVI (n := 0) hX (c_X7_weeksLeft M.2.1 V hX.2.2.2.2.2 hs σ) gX7_fitsTo_X7_weeksLeft rfl (by decide +kernel) ⟨by decide, by decide⟩ rfl rfl (z_mod0 hs) rfl rfl rfl rfl (Nat.le_of_ble_eq_true rfl) dX7_fitsTo_15 (fun r3 _ => ?_)
    refine z_icmp_ge (tgt := 124) hX dX7_fitsTo_18 (by decide) ?_ ?_
    · refine z_iload_n hX dX7_fitsTo_124 rfl 1 rfl ?_
      exact z_zretv hX dX7_fitsTo_125
    · refine z_iload_n hX dX7_fitsTo_21 rfl 1 rfl ?_
      refine z_if_eq (tgt := 124) hX dX7_fitsTo_22 (by decide) ?_ ?_
      · refine z_iload_n hX dX7_fitsTo_124 rfl 1 rfl ?_
        exact z_zretv hX dX7_fitsTo_125
      · refine z_aload_n hX dX7_fitsTo_25 rfl 0 rfl ?_
        refine z_getR (k := 1) hX (z_mod0 hs) rfl rfl in_X7_fitsTo_X7 (by decide) lk_X7_fitsTo_f13 dX7_fitsTo_26 ?_
        refine z_bipush (v := 25) hX dX7_fitsTo_29 (by decide) ?_
        refine z_ialdc (j := 25) hX (z_mod2 hs) (by decide) dX7_fitsTo_31 ?_
        refine z_istore (lv' := [(4, .int (r3.2 2 25)), (0, .ref (z_ad V 0)), (2, .int x2), (3, .int x3)]) hX dX7_fitsTo_32 (by decide) rfl ?_
        refine z_aload_n hX dX7_fitsTo_34 rfl 1 rfl ?_
        refine z_callVV (n := 0) hX (c_X7_weekGoes M.2.1 V hX.2.2.2.2.2 hs r3.2) gX7_fitsTo_X7_weekGoes rfl (by decide +kernel) ⟨by decide, by decide⟩ rfl rfl (z_mod0 hs) rfl rfl rfl rfl (Nat.le_of_ble_eq_true rfl) dX7_fitsTo_35 (fun r4 _ => ?_)
        refine z_iconst (v := 0) hX dX7_fitsTo_38 (by decide) ?_
        refine z_istore (lv' := [(5, .int (0 : Int32)), (4, .int (r3.2 2 25)), (0, .ref (z_ad V 0)), (2, .int x2), (3, .int x3)]) hX dX7_fitsTo_39 (by decide) rfl ?_
        refine z_sub [2, 3, 4, 1, 0] rfl ?_
        exact w_X7_fitsTo_41 M V hs hX (fun x2 x3 σ => f_X7_fitsTo_13 n x2 x3 σ) ih 200 x2 x3 (r3.2 2 25) (0 : Int32) r4.2
set_option maxHeartbeats 4000000 in
set_option maxRecDepth 100000 in
theorem c_X7_fitsTo (l : Launch) (V : z_V) (hV : z_ok V) (hs : z_isM V) (x1 : Int32) (σ : z_St) : z_CtI l V yX7_fitsTo wsX7_fitsTo rm_X7_fitsTo [.ref (z_ad V 0), .int x1] σ (f_X7_fitsTo x1 σ) := by
  refine z_startI (lv := [(0, .ref (z_ad V 0)), (1, .int x1)]) hV (by decide) rfl (Nat.le_of_ble_eq_true rfl) rfl ?_
  intro M hM hX
  have hX : z_Cx M V cX7_fitsTo 7 (some .boolean) wsX7_fitsTo RX7 := hX
  unfold f_X7_fitsTo
  refine z_aload_n hX dX7_fitsTo_0 rfl 0 rfl ?_
  refine z_iload_n hX dX7_fitsTo_1 rfl 1 rfl ?_
  refine z_callVI (n := 1) hX (c_X7_isPlan M.2.1 V hX.2.2.2.2.2 hs x1 σ) gX7_fitsTo_X7_isPlan rfl (by decide +kernel) ⟨by decide, by decide⟩ rfl rfl (z_mod0 hs) rfl rfl rfl rfl (Nat.le_of_ble_eq_true rfl) dX7_fitsTo_2 (fun r1 _ => ?_)
  refine z_istore_n (lv' := [(2, .int r1.1), (0, .ref (z_ad V 0)), (1, .int x1)]) hX dX7_fitsTo_5 rfl (by decide) rfl ?_
  refine z_aload_n hX dX7_fitsTo_6 rfl 1 rfl ?_
  refine z_iload_n hX dX7_fitsTo_7 rfl 2 rfl ?_
  refine z_callVV (n := 1) hX (c_X7_startsBy M.2.1 V hX.2.2.2.2.2 hs x1 r1.2) gX7_fitsTo_X7_startsBy rfl (by decide +kernel) ⟨by decide, by decide⟩ rfl rfl (z_mod0 hs) rfl rfl rfl rfl (Nat.le_of_ble_eq_true rfl) dX7_fitsTo_8 (fun r2 _ => ?_)
  refine z_iconst (v := 0) hX dX7_fitsTo_11 (by decide) ?_
  refine z_istore_n (lv' := [(3, .int (0 : Int32)), (2, .int r1.1), (0, .ref (z_ad V 0)), (1, .int x1)]) hX dX7_fitsTo_12 rfl (by decide) rfl ?_
  refine z_sub [2, 1, 0] rfl ?_
  exact w_X7_fitsTo_13 M V hs hX 200 r1.1 (0 : Int32) r2.2

abbrev rm_X7_fits : Room := { frames := 4, cells := 0, slots := 0, locals := 98 }
theorem in_X7_fits_X7 : ∀ w ∈ wsX70, w ∈ wsX7_fits := fun w h => List.mem_cons_of_mem _ (List.mem_append_right _ h)
theorem lk_X7_fits_c173 : Cond.constantLong RX7 173 3 ∈ wsX7_fits := by decide +kernel
theorem lk_X7_fits_f102 : Cond.fieldLink RX7 102 (TX7 4).1 (TX7 4).2.1 (TX7 4).2.2.1 ∈ wsX7_fits := by decide +kernel
set_option maxHeartbeats 4000000 in
set_option maxRecDepth 100000 in
theorem w_X7_fits_64 (M : z_M) (V : z_V) (hs : z_isM V) (hX : z_Cx M V cX7_fits 8 (some .int) wsX7_fits RX7) (K38 : Int32 → Int32 → Int32 → Int32 → Int32 → Int32 → Int32 → z_St → Option (Int32 × z_St)) (hK38 : ∀ (x1 : Int32) (x2 : Int32) (x3 : Int32) (x4 : Int32) (x5 : Int32) (x6 : Int32) (x7 : Int32) (σ : z_St), z_Go M rm_X7_fits 8 V (z_QI V) σ 38 [(0, .ref (z_ad V 0)), (1, .int x1), (2, .int x2), (3, .int x3), (4, .int x4), (5, .int x5), (6, .int x6), (7, .int x7)] [] (K38 x1 x2 x3 x4 x5 x6 x7 σ)) (x1 : Int32) (x2 : Int32) (x3 : Int32) (x5 : Int32) (x6 : Int32) (x7 : Int32) (y0 : Int32) (σ : z_St) : z_Go M rm_X7_fits 8 V (z_QI V) σ 64 [(0, .ref (z_ad V 0)), (1, .int x1), (2, .int x2), (3, .int x3), (5, .int x5), (6, .int x6), (7, .int x7)] [.int y0] (f_X7_fits_64 K38 x1 x2 x3 x5 x6 x7 y0 σ) := by
  unfold f_X7_fits_64
  refine z_istore (lv' := [(4, .int y0), (0, .ref (z_ad V 0)), (1, .int x1), (2, .int x2), (3, .int x3), (5, .int x5), (6, .int x6), (7, .int x7)]) hX dX7_fits_64 (by decide) rfl ?_
  refine z_iload hX dX7_fits_66 5 rfl ?_
  refine z_iload hX dX7_fits_68 7 rfl ?_
  refine z_iand hX dX7_fits_70 ?_
  refine z_istore (lv' := [(5, .int (x5 &&& x7)), (4, .int y0), (0, .ref (z_ad V 0)), (1, .int x1), (2, .int x2), (3, .int x3), (6, .int x6), (7, .int x7)]) hX dX7_fits_71 (by decide) rfl ?_
  refine z_iload hX dX7_fits_73 6 rfl ?_
  refine z_iload hX dX7_fits_75 7 rfl ?_
  refine z_ior hX dX7_fits_77 ?_
  refine z_istore (lv' := [(6, .int (x6 ||| x7)), (5, .int (x5 &&& x7)), (4, .int y0), (0, .ref (z_ad V 0)), (1, .int x1), (2, .int x2), (3, .int x3), (7, .int x7)]) hX dX7_fits_78 (by decide) rfl ?_
  refine z_iinc (v := (x3 + 1)) (lv' := [(3, .int (x3 + 1)), (6, .int (x6 ||| x7)), (5, .int (x5 &&& x7)), (4, .int y0), (0, .ref (z_ad V 0)), (1, .int x1), (2, .int x2), (7, .int x7)]) hX dX7_fits_80 6 rfl rfl (by decide) rfl ?_
  refine z_iinc (v := (x7 + 1)) (lv' := [(7, .int (x7 + 1)), (3, .int (x3 + 1)), (6, .int (x6 ||| x7)), (5, .int (x5 &&& x7)), (4, .int y0), (0, .ref (z_ad V 0)), (1, .int x1), (2, .int x2)]) hX dX7_fits_83 7 rfl rfl (by decide) rfl ?_
  refine z_goto (tgt := 38) hX dX7_fits_86 (by decide) ?_
  refine z_sub [5, 6, 7, 1, 4, 3, 2, 0] rfl ?_
  exact hK38 x1 x2 (x3 + 1) y0 (x5 &&& x7) (x6 ||| x7) (x7 + 1) σ
set_option maxHeartbeats 4000000 in
set_option maxRecDepth 100000 in
theorem w_X7_fits_38 (M : z_M) (V : z_V) (hs : z_isM V) (hX : z_Cx M V cX7_fits 8 (some .int) wsX7_fits RX7) : ∀ (n : Nat) (x1 : Int32) (x2 : Int32) (x3 : Int32) (x4 : Int32) (x5 : Int32) (x6 : Int32) (x7 : Int32) (σ : z_St), z_Go M rm_X7_fits 8 V (z_QI V) σ 38 [(0, .ref (z_ad V 0)), (1, .int x1), (2, .int x2), (3, .int x3), (4, .int x4), (5, .int x5), (6, .int x6), (7, .int x7)] [] (f_X7_fits_38 n x1 x2 x3 x4 x5 x6 x7 σ) := by
  intro n
  induction n with
  | zero => intro x1 x2 x3 x4 x5 x6 x7 σ; exact z_none
  | succ n ih =>
    intro x1 x2 x3 x4 x5 x6 x7 σ
    rw [f_X7_fits_38]
    refine z_iload hX dX7_fits_38 7 rfl ?_
    refine z_iload_n hX dX7_fits_40 rfl 2 rfl ?_
    refine z_icmp_gt (tgt := 89) hX dX7_fits_41 (by decide) ?_ ?_
    · refine z_iload_n hX dX7_fits_89 rfl 1 rfl ?_
      refine z_if_eq (tgt := 97) hX dX7_fits_90 (by decide) ?_ ?_
      · refine z_iload_n hX dX7_fits_97 rfl 1 rfl ?_
        refine z_if_ne (tgt := 105) hX dX7_fits_98 (by decide) ?_ ?_
        · refine z_bipush (v := -4) hX dX7_fits_105 (by decide) ?_
          exact z_iret hX dX7_fits_107
        · refine z_iload_n hX dX7_fits_101 rfl 3 rfl ?_
          refine z_goto (tgt := 107) hX dX7_fits_102 (by decide) ?_
          exact z_iret hX dX7_fits_107
      · refine z_iload_n hX dX7_fits_93 rfl 3 rfl ?_
        refine z_if_ne (tgt := 108) hX dX7_fits_94 (by decide) ?_ ?_
        · refine z_iload_n hX dX7_fits_108 rfl 1 rfl ?_
          refine z_iconst (v := 1) hX dX7_fits_109 (by decide) ?_
          refine z_icmp_ne (tgt := 118) hX dX7_fits_110 (by decide) ?_ ?_
          · refine z_iload_n hX dX7_fits_118 rfl 1 rfl ?_
            refine z_iconst (v := 2) hX dX7_fits_119 (by decide) ?_
            refine z_icmp_ne (tgt := 128) hX dX7_fits_120 (by decide) ?_ ?_
            · refine z_iload_n hX dX7_fits_128 rfl 2 rfl ?_
              refine z_iload hX dX7_fits_129 6 rfl ?_
              refine z_iconst (v := -1) hX dX7_fits_131 (by decide) ?_
              refine z_ixor hX dX7_fits_132 ?_
              refine z_iand hX dX7_fits_133 ?_
              exact z_iret hX dX7_fits_134
            · refine z_iload hX dX7_fits_123 5 rfl ?_
              refine z_goto (tgt := 134) hX dX7_fits_125 (by decide) ?_
              exact z_iret hX dX7_fits_134
          · refine z_iload hX dX7_fits_113 4 rfl ?_
            refine z_goto (tgt := 134) hX dX7_fits_115 (by decide) ?_
            exact z_iret hX dX7_fits_134
        · refine z_iload_n hX dX7_fits_97 rfl 1 rfl ?_
          refine z_if_ne (tgt := 105) hX dX7_fits_98 (by decide) ?_ ?_
          · refine z_bipush (v := -4) hX dX7_fits_105 (by decide) ?_
            exact z_iret hX dX7_fits_107
          · refine z_iload_n hX dX7_fits_101 rfl 3 rfl ?_
            refine z_goto (tgt := 107) hX dX7_fits_102 (by decide) ?_
            exact z_iret hX dX7_fits_107
    · refine z_aload_n hX dX7_fits_44 rfl 0 rfl ?_
      refine z_iload hX dX7_fits_45 7 rfl ?_
      refine z_callVI (n := 1) hX (c_X7_fitsTo M.2.1 V hX.2.2.2.2.2 hs x7 σ) gX7_fits_X7_fitsTo rfl (by decide +kernel) ⟨by decide, by decide⟩ rfl rfl (z_mod0 hs) rfl rfl rfl rfl (Nat.le_of_ble_eq_true rfl) dX7_fits_47 (fun r3 _ => ?_)
      refine z_if_eq (tgt := 83) hX dX7_fits_50 (by decide) ?_ ?_
      · refine z_iinc (v := (x7 + 1)) (lv' := [(7, .int (x7 + 1)), (0, .ref (z_ad V 0)), (1, .int x1), (2, .int x2), (3, .int x3), (4, .int x4), (5, .int x5), (6, .int x6)]) hX dX7_fits_83 7 rfl rfl (by decide) rfl ?_
        refine z_goto (tgt := 38) hX dX7_fits_86 (by decide) ?_
        refine z_sub [1, 2, 3, 4, 5, 6, 7, 0] rfl ?_
        exact ih x1 x2 x3 x4 x5 x6 (x7 + 1) r3.2
      · refine z_iload_n hX dX7_fits_53 rfl 3 rfl ?_
        refine z_if_ne (tgt := 62) hX dX7_fits_54 (by decide) ?_ ?_
        · refine z_iload hX dX7_fits_62 4 rfl ?_
          refine z_sub [0, 1, 2, 3, 5, 6, 7] rfl ?_
          exact w_X7_fits_64 M V hs hX (fun x1 x2 x3 x4 x5 x6 x7 σ => f_X7_fits_38 n x1 x2 x3 x4 x5 x6 x7 σ) ih x1 x2 x3 x5 x6 x7 x4 r3.2
        · refine z_iload hX dX7_fits_57 7 rfl ?_
          refine z_goto (tgt := 64) hX dX7_fits_59 (by decide) ?_
          refine z_sub [0, 1, 2, 3, 5, 6, 7] rfl ?_
          exact w_X7_fits_64 M V hs hX (fun x1 x2 x3 x4 x5 x6 x7 σ => f_X7_fits_38 n x1 x2 x3 x4 x5 x6 x7 σ) ih x1 x2 x3 x5 x6 x7 x7 r3.2
set_option maxHeartbeats 4000000 in
set_option maxRecDepth 100000 in
theorem c_X7_fits (l : Launch) (V : z_V) (hV : z_ok V) (hs : z_isM V) (x1 : Int32) (σ : z_St) : z_CtI l V yX7_fits wsX7_fits rm_X7_fits [.ref (z_ad V 0), .int x1] σ (f_X7_fits x1 σ) := by
  refine z_startI (lv := [(0, .ref (z_ad V 0)), (1, .int x1)]) hV (by decide) rfl (Nat.le_of_ble_eq_true rfl) rfl ?_
  intro M hM hX
  have hX : z_Cx M V cX7_fits 8 (some .int) wsX7_fits RX7 := hX
  unfold f_X7_fits
  refine z_iload_n hX dX7_fits_0 rfl 1 rfl ?_
  refine z_i2l hX dX7_fits_1 ?_
  refine z_lconst (v := 0) hX dX7_fits_2 (by decide) ?_
  refine z_ldc2 (v := 3) hX lk_X7_fits_c173 dX7_fits_3 ?_
  refine z_callSI (n := 3) hX (c_X7_in M.2.1 V hX.2.2.2.2.2 hs x1.toInt64 (0 : Int64) (3 : Int64) σ) gX7_fits_X7_in rfl (by decide +kernel) ⟨by decide, by decide⟩ rfl rfl rfl rfl (Nat.le_of_ble_eq_true rfl) dX7_fits_6 (fun r1 _ => ?_)
  refine z_if_ne (tgt := 14) hX dX7_fits_9 (by decide) ?_ ?_
  · refine z_iconst (v := 1) hX dX7_fits_14 (by decide) ?_
    refine z_aload_n hX dX7_fits_15 rfl 0 rfl ?_
    refine z_getI (k := 4) hX (z_mod0 hs) rfl rfl in_X7_fits_X7 (by decide) lk_X7_fits_f102 dX7_fits_16 ?_
    refine z_ishl hX dX7_fits_19 ?_
    refine z_iconst (v := 1) hX dX7_fits_20 (by decide) ?_
    refine z_isub hX dX7_fits_21 ?_
    refine z_top (fun v2 => ?_)
    refine z_istore_n (lv' := [(2, .int v2), (0, .ref (z_ad V 0)), (1, .int x1)]) hX dX7_fits_22 rfl (by decide) rfl ?_
    refine z_iconst (v := 0) hX dX7_fits_23 (by decide) ?_
    refine z_istore_n (lv' := [(3, .int (0 : Int32)), (2, .int v2), (0, .ref (z_ad V 0)), (1, .int x1)]) hX dX7_fits_24 rfl (by decide) rfl ?_
    refine z_bipush (v := -4) hX dX7_fits_25 (by decide) ?_
    refine z_istore (lv' := [(4, .int (-4 : Int32)), (3, .int (0 : Int32)), (2, .int v2), (0, .ref (z_ad V 0)), (1, .int x1)]) hX dX7_fits_27 (by decide) rfl ?_
    refine z_iload_n hX dX7_fits_29 rfl 2 rfl ?_
    refine z_istore (lv' := [(5, .int v2), (4, .int (-4 : Int32)), (3, .int (0 : Int32)), (2, .int v2), (0, .ref (z_ad V 0)), (1, .int x1)]) hX dX7_fits_30 (by decide) rfl ?_
    refine z_iconst (v := 0) hX dX7_fits_32 (by decide) ?_
    refine z_istore (lv' := [(6, .int (0 : Int32)), (5, .int v2), (4, .int (-4 : Int32)), (3, .int (0 : Int32)), (2, .int v2), (0, .ref (z_ad V 0)), (1, .int x1)]) hX dX7_fits_33 (by decide) rfl ?_
    refine z_iconst (v := 0) hX dX7_fits_35 (by decide) ?_
    refine z_istore (lv' := [(7, .int (0 : Int32)), (6, .int (0 : Int32)), (5, .int v2), (4, .int (-4 : Int32)), (3, .int (0 : Int32)), (2, .int v2), (0, .ref (z_ad V 0)), (1, .int x1)]) hX dX7_fits_36 (by decide) rfl ?_
    refine z_sub [6, 7, 5, 4, 3, 2, 1, 0] rfl ?_
    exact w_X7_fits_38 M V hs hX 200 x1 v2 (0 : Int32) (-4 : Int32) v2 (0 : Int32) (0 : Int32) r1.2
  · refine z_iconst (v := -1) hX dX7_fits_12 (by decide) ?_
    exact z_iret hX dX7_fits_13

abbrev rm_X7_drift : Room := { frames := 3, cells := 0, slots := 0, locals := 72 }
theorem in_X7_drift_X7 : ∀ w ∈ wsX70, w ∈ wsX7_drift := fun w h => List.mem_cons_of_mem _ (List.mem_append_right _ h)
theorem lk_X7_drift_c242 : Cond.constantLong RX7 242 20 ∈ wsX7_drift := by decide +kernel
theorem lk_X7_drift_f99 : Cond.fieldLink RX7 99 (TX7 3).1 (TX7 3).2.1 (TX7 3).2.2.1 ∈ wsX7_drift := by decide +kernel
theorem lk_X7_drift_c276 : Cond.constant RX7 276 1103515245 ∈ wsX7_drift := by decide +kernel
theorem lk_X7_drift_f13 : Cond.fieldLink RX7 13 (TX7 1).1 (TX7 1).2.1 (TX7 1).2.2.1 ∈ wsX7_drift := by decide +kernel
set_option maxHeartbeats 4000000 in
set_option maxRecDepth 100000 in
theorem w_X7_drift_41 (M : z_M) (V : z_V) (hs : z_isM V) (hX : z_Cx M V cX7_drift 7 (some .int) wsX7_drift RX7) : ∀ (n : Nat) (x2 : Int32) (x3 : Int32) (x4 : Int32) (x5 : Int32) (σ : z_St), z_Go M rm_X7_drift 7 V (z_QI V) σ 41 [(0, .ref (z_ad V 0)), (2, .int x2), (3, .int x3), (4, .int x4), (5, .int x5)] [] (f_X7_drift_41 n x2 x3 x4 x5 σ) := by
  intro n
  induction n with
  | zero => intro x2 x3 x4 x5 σ; exact z_none
  | succ n ih =>
    intro x2 x3 x4 x5 σ
    rw [f_X7_drift_41]
    refine z_iload hX dX7_drift_41 4 rfl ?_
    refine z_iload_n hX dX7_drift_43 rfl 1 rfl ?_
    refine z_icmp_ge (tgt := 120) hX dX7_drift_44 (by decide) ?_ ?_
    · refine z_iload_n hX dX7_drift_120 rfl 2 rfl ?_
      refine z_if_ne (tgt := 131) hX dX7_drift_121 (by decide) ?_ ?_
      · refine z_aload_n hX dX7_drift_131 rfl 0 rfl ?_
        refine z_iconst (v := 1) hX dX7_drift_132 (by decide) ?_
        refine z_callVI (n := 1) hX (c_X7_allOf M.2.1 V hX.2.2.2.2.2 hs (1 : Int32) σ) gX7_drift_X7_allOf rfl (by decide +kernel) ⟨by decide, by decide⟩ rfl rfl (z_mod0 hs) rfl rfl rfl rfl (Nat.le_of_ble_eq_true rfl) dX7_drift_133 (fun r4 _ => ?_)
        exact z_iret hX dX7_drift_136
      · refine z_aload_n hX dX7_drift_124 rfl 0 rfl ?_
        refine z_callVI (n := 0) hX (c_X7_brazenMore M.2.1 V hX.2.2.2.2.2 hs σ) gX7_drift_X7_brazenMore rfl (by decide +kernel) ⟨by decide, by decide⟩ rfl rfl (z_mod0 hs) rfl rfl rfl rfl (Nat.le_of_ble_eq_true rfl) dX7_drift_125 (fun r5 _ => ?_)
        refine z_goto (tgt := 136) hX dX7_drift_128 (by decide) ?_
        exact z_iret hX dX7_drift_136
    · refine z_iload hX dX7_drift_47 3 rfl ?_
      refine z_ldcw (v := 1103515245) hX lk_X7_drift_c276 dX7_drift_49 ?_
      refine z_imul hX dX7_drift_52 ?_
      refine z_sipush (v := 12345) hX dX7_drift_53 (by decide) ?_
      refine z_iadd hX dX7_drift_56 ?_
      refine z_top (fun v6 => ?_)
      refine z_istore (lv' := [(4, .int v6), (0, .ref (z_ad V 0)), (2, .int x2), (3, .int x3), (5, .int x5)]) hX dX7_drift_57 (by decide) rfl ?_
      refine z_iload hX dX7_drift_59 0 rfl ?_
      refine z_bipush (v := 16) hX dX7_drift_61 (by decide) ?_
      refine z_ishr hX dX7_drift_63 ?_
      refine z_sipush (v := 32767) hX dX7_drift_64 (by decide) ?_
      refine z_iand hX dX7_drift_67 ?_
      refine z_top (fun v7 => ?_)
      refine z_istore (lv' := [(6, .int v7), (4, .int v6), (0, .ref (z_ad V 0)), (2, .int x2), (3, .int x3), (5, .int x5)]) hX dX7_drift_68 (by decide) rfl ?_
      refine z_aload_n hX dX7_drift_70 rfl 2 rfl ?_
      refine z_getR (k := 1) hX (z_mod0 hs) rfl rfl in_X7_drift_X7 (by decide) lk_X7_drift_f13 dX7_drift_71 ?_
      refine z_iconst (v := 4) hX dX7_drift_74 (by decide) ?_
      refine z_iload hX dX7_drift_75 0 rfl ?_
      refine z_aload_n hX dX7_drift_77 rfl 2 rfl ?_
      refine z_getI (k := 3) hX (z_mod0 hs) rfl rfl in_X7_drift_X7 (by decide) lk_X7_drift_f99 dX7_drift_78 ?_
      refine z_irem hX dX7_drift_81 ?_
      refine z_imul hX dX7_drift_82 ?_
      refine z_iconst (v := 1) hX dX7_drift_83 (by decide) ?_
      refine z_iadd hX dX7_drift_84 ?_
      refine z_sipush (v := 999) hX dX7_drift_85 (by decide) ?_
      refine z_aload_n hX dX7_drift_88 rfl 2 rfl ?_
      refine z_iload hX dX7_drift_89 0 rfl ?_
      refine z_aload_n hX dX7_drift_91 rfl 2 rfl ?_
      refine z_getI (k := 3) hX (z_mod0 hs) rfl rfl in_X7_drift_X7 (by decide) lk_X7_drift_f99 dX7_drift_92 ?_
      refine z_irem hX dX7_drift_95 ?_
      refine z_iconst (v := 1) hX dX7_drift_96 (by decide) ?_
      refine z_callVI (n := 2) hX (c_X7_of M.2.1 V hX.2.2.2.2.2 hs (v7 - v7 / (σ 0 3) * (σ 0 3)) (1 : Int32) σ) gX7_drift_X7_of rfl (by decide +kernel) ⟨by decide, by decide⟩ rfl rfl (z_mod0 hs) rfl rfl rfl rfl (Nat.le_of_ble_eq_true rfl) dX7_drift_97 (fun r8 _ => ?_)
      refine z_iload hX dX7_drift_100 0 rfl ?_
      refine z_bipush (v := 10) hX dX7_drift_102 (by decide) ?_
      refine z_iremc hX dX7_drift_104 (by decide) ?_
      refine z_iadd hX dX7_drift_105 ?_
      refine z_callSI (n := 2) hX (c_X7_least M.2.1 V hX.2.2.2.2.2 hs (999 : Int32) (r8.1 + (v7 - v7 / (10 : Int32) * (10 : Int32))) r8.2) gX7_drift_X7_least rfl (by decide +kernel) ⟨by decide, by decide⟩ rfl rfl rfl rfl (Nat.le_of_ble_eq_true rfl) dX7_drift_106 (fun r9 _ => ?_)
      refine z_iast hX (z_mod2 hs) dX7_drift_109 (z_bs fun s10 => ?_)
      refine z_aload_n hX dX7_drift_110 rfl 2 rfl ?_
      refine z_callVV (n := 0) hX (c_X7_weekGoes M.2.1 V hX.2.2.2.2.2 hs s10) gX7_drift_X7_weekGoes rfl (by decide +kernel) ⟨by decide, by decide⟩ rfl rfl (z_mod0 hs) rfl rfl rfl rfl (Nat.le_of_ble_eq_true rfl) dX7_drift_111 (fun r11 _ => ?_)
      refine z_iinc (v := (x5 + 1)) (lv' := [(5, .int (x5 + 1)), (6, .int v7), (4, .int v6), (0, .ref (z_ad V 0)), (2, .int x2), (3, .int x3)]) hX dX7_drift_114 5 rfl rfl (by decide) rfl ?_
      refine z_goto (tgt := 41) hX dX7_drift_117 (by decide) ?_
      refine z_sub [3, 4, 5, 2, 0] rfl ?_
      exact ih x2 x3 v6 (x5 + 1) r11.2
set_option maxHeartbeats 4000000 in
set_option maxRecDepth 100000 in
theorem c_X7_drift (l : Launch) (V : z_V) (hV : z_ok V) (hs : z_isM V) (x1 : Int32) (x2 : Int32) (x3 : Int32) (σ : z_St) : z_CtI l V yX7_drift wsX7_drift rm_X7_drift [.ref (z_ad V 0), .int x1, .int x2, .int x3] σ (f_X7_drift x1 x2 x3 σ) := by
  refine z_startI (lv := [(0, .ref (z_ad V 0)), (1, .int x1), (2, .int x2), (3, .int x3)]) hV (by decide) rfl (Nat.le_of_ble_eq_true rfl) rfl ?_
  intro M hM hX
  have hX : z_Cx M V cX7_drift 7 (some .int) wsX7_drift RX7 := hX
  unfold f_X7_drift
  refine z_iload_n hX dX7_drift_0 rfl 2 rfl ?_
  refine z_i2l hX dX7_drift_1 ?_
  refine z_lconst (v := 1) hX dX7_drift_2 (by decide) ?_
  refine z_ldc2 (v := 20) hX lk_X7_drift_c242 dX7_drift_3 ?_
  refine z_callSI (n := 3) hX (c_X7_in M.2.1 V hX.2.2.2.2.2 hs x2.toInt64 (1 : Int64) (20 : Int64) σ) gX7_drift_X7_in rfl (by decide +kernel) ⟨by decide, by decide⟩ rfl rfl rfl rfl (Nat.le_of_ble_eq_true rfl) dX7_drift_6 (fun r1 _ => ?_)
  refine z_if_eq (tgt := 19) hX dX7_drift_9 (by decide) ?_ ?_
  · refine z_iconst (v := -1) hX dX7_drift_19 (by decide) ?_
    exact z_iret hX dX7_drift_20
  · refine z_iload_n hX dX7_drift_12 rfl 3 rfl ?_
    refine z_callSI (n := 1) hX (c_X7_isPart M.2.1 V hX.2.2.2.2.2 hs x3 r1.2) gX7_drift_X7_isPart rfl (by decide +kernel) ⟨by decide, by decide⟩ rfl rfl rfl rfl (Nat.le_of_ble_eq_true rfl) dX7_drift_13 (fun r2 _ => ?_)
    refine z_if_ne (tgt := 21) hX dX7_drift_16 (by decide) ?_ ?_
    · refine z_aload_n hX dX7_drift_21 rfl 0 rfl ?_
      refine z_getI (k := 3) hX (z_mod0 hs) rfl rfl in_X7_drift_X7 (by decide) lk_X7_drift_f99 dX7_drift_22 ?_
      refine z_if_ne (tgt := 31) hX dX7_drift_25 (by decide) ?_ ?_
      · refine z_iload_n hX dX7_drift_31 rfl 1 rfl ?_
        refine z_istore (lv' := [(4, .int x1), (0, .ref (z_ad V 0)), (1, .int x1), (2, .int x2), (3, .int x3)]) hX dX7_drift_32 (by decide) rfl ?_
        refine z_aload_n hX dX7_drift_34 rfl 1 rfl ?_
        refine z_callVV (n := 0) hX (c_X7_starts M.2.1 V hX.2.2.2.2.2 hs r2.2) gX7_drift_X7_starts rfl (by decide +kernel) ⟨by decide, by decide⟩ rfl rfl (z_mod0 hs) rfl rfl rfl rfl (Nat.le_of_ble_eq_true rfl) dX7_drift_35 (fun r3 _ => ?_)
        refine z_iconst (v := 0) hX dX7_drift_38 (by decide) ?_
        refine z_istore (lv' := [(5, .int (0 : Int32)), (4, .int x1), (0, .ref (z_ad V 0)), (1, .int x1), (2, .int x2), (3, .int x3)]) hX dX7_drift_39 (by decide) rfl ?_
        refine z_sub [2, 4, 5, 1, 0] rfl ?_
        exact w_X7_drift_41 M V hs hX 200 x2 x3 x1 (0 : Int32) r3.2
      · refine z_bipush (v := -2) hX dX7_drift_28 (by decide) ?_
        exact z_iret hX dX7_drift_30
    · refine z_iconst (v := -1) hX dX7_drift_19 (by decide) ?_
      exact z_iret hX dX7_drift_20

abbrev rm_X7_copies : Room := { frames := 0, cells := 0, slots := 0, locals := 0 }
theorem in_X7_copies_X7 : ∀ w ∈ wsX70, w ∈ wsX7_copies := fun w h => List.mem_cons_of_mem _ (List.mem_append_right _ h)
theorem lk_X7_copies_f7 : Cond.fieldLink RX7 7 (TX7 0).1 (TX7 0).2.1 (TX7 0).2.2.1 ∈ wsX7_copies := by decide +kernel
set_option maxHeartbeats 4000000 in
set_option maxRecDepth 100000 in
theorem w_X7_copies_2 (M : z_M) (V : z_V) (hs : z_isM V) (hX : z_Cx M V cX7_copies 4 none wsX7_copies RX7) : ∀ (n : Nat) (x1 : Int32) (x2 : Int32) (x3 : Int32) (σ : z_St), z_Go M rm_X7_copies 4 V (z_QV V) σ 2 [(0, .ref (z_ad V 0)), (1, .int x1), (2, .int x2), (3, .int x3)] [] (f_X7_copies_2 n x1 x2 x3 σ) := by
  intro n
  induction n with
  | zero => intro x1 x2 x3 σ; exact z_none
  | succ n ih =>
    intro x1 x2 x3 σ
    rw [f_X7_copies_2]
    refine z_iload_n hX dX7_copies_2 rfl 3 rfl ?_
    refine z_bipush (v := 45) hX dX7_copies_3 (by decide) ?_
    refine z_icmp_ge (tgt := 30) hX dX7_copies_5 (by decide) ?_ ?_
    · exact z_vret hX dX7_copies_30
    · refine z_aload_n hX dX7_copies_8 rfl 0 rfl ?_
      refine z_getR (k := 0) hX (z_mod0 hs) rfl rfl in_X7_copies_X7 (by decide) lk_X7_copies_f7 dX7_copies_9 ?_
      refine z_iload_n hX dX7_copies_12 rfl 1 rfl ?_
      refine z_iload_n hX dX7_copies_13 rfl 3 rfl ?_
      refine z_iadd hX dX7_copies_14 ?_
      refine z_aload_n hX dX7_copies_15 rfl 0 rfl ?_
      refine z_getR (k := 0) hX (z_mod0 hs) rfl rfl in_X7_copies_X7 (by decide) lk_X7_copies_f7 dX7_copies_16 ?_
      refine z_iload_n hX dX7_copies_19 rfl 2 rfl ?_
      refine z_iload_n hX dX7_copies_20 rfl 3 rfl ?_
      refine z_iadd hX dX7_copies_21 ?_
      refine z_iald hX (z_mod1 hs) dX7_copies_22 ?_
      refine z_iast hX (z_mod1 hs) dX7_copies_23 (z_bs fun s1 => ?_)
      refine z_iinc (v := (x3 + 1)) (lv' := [(3, .int (x3 + 1)), (0, .ref (z_ad V 0)), (1, .int x1), (2, .int x2)]) hX dX7_copies_24 3 rfl rfl (by decide) rfl ?_
      refine z_goto (tgt := 2) hX dX7_copies_27 (by decide) ?_
      refine z_sub [1, 2, 3, 0] rfl ?_
      exact ih x1 x2 (x3 + 1) s1
set_option maxHeartbeats 4000000 in
set_option maxRecDepth 100000 in
theorem c_X7_copies (l : Launch) (V : z_V) (hV : z_ok V) (hs : z_isM V) (x1 : Int32) (x2 : Int32) (σ : z_St) : z_CtV l V yX7_copies wsX7_copies rm_X7_copies [.ref (z_ad V 0), .int x1, .int x2] σ (f_X7_copies x1 x2 σ) := by
  refine z_startV (lv := [(0, .ref (z_ad V 0)), (1, .int x1), (2, .int x2)]) hV (by decide) rfl (Nat.le_of_ble_eq_true rfl) rfl ?_
  intro M hM hX
  have hX : z_Cx M V cX7_copies 4 none wsX7_copies RX7 := hX
  unfold f_X7_copies
  refine z_iconst (v := 0) hX dX7_copies_0 (by decide) ?_
  refine z_istore_n (lv' := [(3, .int (0 : Int32)), (0, .ref (z_ad V 0)), (1, .int x1), (2, .int x2)]) hX dX7_copies_1 rfl (by decide) rfl ?_
  refine z_sub [1, 2, 3, 0] rfl ?_
  exact w_X7_copies_2 M V hs hX 200 x1 x2 (0 : Int32) σ

abbrev rm_X7_keep : Room := { frames := 1, cells := 0, slots := 0, locals := 25 }
theorem in_X7_keep_X7 : ∀ w ∈ wsX70, w ∈ wsX7_keep := fun w h => List.mem_cons_of_mem _ (List.mem_append_right _ h)
theorem lk_X7_keep_f16 : Cond.fieldLink RX7 16 (TX7 2).1 (TX7 2).2.1 (TX7 2).2.2.1 ∈ wsX7_keep := by decide +kernel
set_option maxHeartbeats 4000000 in
set_option maxRecDepth 100000 in
theorem c_X7_keep (l : Launch) (V : z_V) (hV : z_ok V) (hs : z_isM V) (x1 : Int32) (σ : z_St) : z_CtI l V yX7_keep wsX7_keep rm_X7_keep [.ref (z_ad V 0), .int x1] σ (f_X7_keep x1 σ) := by
  refine z_startI (lv := [(0, .ref (z_ad V 0)), (1, .int x1)]) hV (by decide) rfl (Nat.le_of_ble_eq_true rfl) rfl ?_
  intro M hM hX
  have hX : z_Cx M V cX7_keep 3 (some .int) wsX7_keep RX7 := hX
  unfold f_X7_keep
  refine z_iload_n hX dX7_keep_0 rfl 1 rfl ?_
  refine z_i2l hX dX7_keep_1 ?_
  refine z_lconst (v := 0) hX dX7_keep_2 (by decide) ?_
  refine z_lconst (v := 1) hX dX7_keep_3 (by decide) ?_
  refine z_callSI (n := 3) hX (c_X7_in M.2.1 V hX.2.2.2.2.2 hs x1.toInt64 (0 : Int64) (1 : Int64) σ) gX7_keep_X7_in rfl (by decide +kernel) ⟨by decide, by decide⟩ rfl rfl rfl rfl (Nat.le_of_ble_eq_true rfl) dX7_keep_4 (fun r1 _ => ?_)
  refine z_if_ne (tgt := 12) hX dX7_keep_7 (by decide) ?_ ?_
  · refine z_aload_n hX dX7_keep_12 rfl 0 rfl ?_
    refine z_getR (k := 2) hX (z_mod0 hs) rfl rfl in_X7_keep_X7 (by decide) lk_X7_keep_f16 dX7_keep_13 ?_
    refine z_iload_n hX dX7_keep_16 rfl 1 rfl ?_
    refine z_zald hX (z_mod3 hs) dX7_keep_17 ?_
    refine z_callSI (n := 1) hX (c_X7_flag M.2.1 V hX.2.2.2.2.2 hs (r1.2 3 x1.toNatClampNeg) r1.2) gX7_keep_X7_flag rfl (by decide +kernel) ⟨by decide, by decide⟩ rfl rfl rfl rfl (Nat.le_of_ble_eq_true rfl) dX7_keep_18 (fun r2 _ => ?_)
    refine z_istore_n (lv' := [(2, .int r2.1), (0, .ref (z_ad V 0)), (1, .int x1)]) hX dX7_keep_21 rfl (by decide) rfl ?_
    refine z_aload_n hX dX7_keep_22 rfl 1 rfl ?_
    refine z_getR (k := 2) hX (z_mod0 hs) rfl rfl in_X7_keep_X7 (by decide) lk_X7_keep_f16 dX7_keep_23 ?_
    refine z_iload_n hX dX7_keep_26 rfl 2 rfl ?_
    refine z_iconst (v := 1) hX dX7_keep_27 (by decide) ?_
    refine z_zast hX (z_mod3 hs) dX7_keep_28 (z_bs fun s3 => ?_)
    refine z_aload_n hX dX7_keep_29 rfl 1 rfl ?_
    refine z_bipush (v := 45) hX dX7_keep_30 (by decide) ?_
    refine z_iload_n hX dX7_keep_32 rfl 2 rfl ?_
    refine z_iconst (v := 1) hX dX7_keep_33 (by decide) ?_
    refine z_iadd hX dX7_keep_34 ?_
    refine z_imul hX dX7_keep_35 ?_
    refine z_iconst (v := 0) hX dX7_keep_36 (by decide) ?_
    refine z_callVV (n := 2) hX (c_X7_copies M.2.1 V hX.2.2.2.2.2 hs ((45 : Int32) * (x1 + (1 : Int32))) (0 : Int32) s3) gX7_keep_X7_copies rfl (by decide +kernel) ⟨by decide, by decide⟩ rfl rfl (z_mod0 hs) rfl rfl rfl rfl (Nat.le_of_ble_eq_true rfl) dX7_keep_37 (fun r4 _ => ?_)
    refine z_iload_n hX dX7_keep_40 rfl 0 rfl ?_
    exact z_iret hX dX7_keep_41
  · refine z_iconst (v := -1) hX dX7_keep_10 (by decide) ?_
    exact z_iret hX dX7_keep_11

abbrev rm_X7_back : Room := { frames := 1, cells := 0, slots := 0, locals := 25 }
theorem in_X7_back_X7 : ∀ w ∈ wsX70, w ∈ wsX7_back := fun w h => List.mem_cons_of_mem _ (List.mem_append_right _ h)
theorem lk_X7_back_f16 : Cond.fieldLink RX7 16 (TX7 2).1 (TX7 2).2.1 (TX7 2).2.2.1 ∈ wsX7_back := by decide +kernel
theorem lk_X7_back_f7 : Cond.fieldLink RX7 7 (TX7 0).1 (TX7 0).2.1 (TX7 0).2.2.1 ∈ wsX7_back := by decide +kernel
set_option maxHeartbeats 4000000 in
set_option maxRecDepth 100000 in
theorem c_X7_back (l : Launch) (V : z_V) (hV : z_ok V) (hs : z_isM V) (x1 : Int32) (σ : z_St) : z_CtI l V yX7_back wsX7_back rm_X7_back [.ref (z_ad V 0), .int x1] σ (f_X7_back x1 σ) := by
  refine z_startI (lv := [(0, .ref (z_ad V 0)), (1, .int x1)]) hV (by decide) rfl (Nat.le_of_ble_eq_true rfl) rfl ?_
  intro M hM hX
  have hX : z_Cx M V cX7_back 2 (some .int) wsX7_back RX7 := hX
  unfold f_X7_back
  refine z_iload_n hX dX7_back_0 rfl 1 rfl ?_
  refine z_i2l hX dX7_back_1 ?_
  refine z_lconst (v := 0) hX dX7_back_2 (by decide) ?_
  refine z_lconst (v := 1) hX dX7_back_3 (by decide) ?_
  refine z_callSI (n := 3) hX (c_X7_in M.2.1 V hX.2.2.2.2.2 hs x1.toInt64 (0 : Int64) (1 : Int64) σ) gX7_back_X7_in rfl (by decide +kernel) ⟨by decide, by decide⟩ rfl rfl rfl rfl (Nat.le_of_ble_eq_true rfl) dX7_back_4 (fun r1 _ => ?_)
  refine z_if_ne (tgt := 12) hX dX7_back_7 (by decide) ?_ ?_
  · refine z_aload_n hX dX7_back_12 rfl 0 rfl ?_
    refine z_getR (k := 2) hX (z_mod0 hs) rfl rfl in_X7_back_X7 (by decide) lk_X7_back_f16 dX7_back_13 ?_
    refine z_iload_n hX dX7_back_16 rfl 1 rfl ?_
    refine z_zald hX (z_mod3 hs) dX7_back_17 ?_
    refine z_if_ne (tgt := 24) hX dX7_back_18 (by decide) ?_ ?_
    · refine z_aload_n hX dX7_back_24 rfl 0 rfl ?_
      refine z_iconst (v := 0) hX dX7_back_25 (by decide) ?_
      refine z_bipush (v := 45) hX dX7_back_26 (by decide) ?_
      refine z_iload_n hX dX7_back_28 rfl 1 rfl ?_
      refine z_iconst (v := 1) hX dX7_back_29 (by decide) ?_
      refine z_iadd hX dX7_back_30 ?_
      refine z_imul hX dX7_back_31 ?_
      refine z_callVV (n := 2) hX (c_X7_copies M.2.1 V hX.2.2.2.2.2 hs (0 : Int32) ((45 : Int32) * (x1 + (1 : Int32))) r1.2) gX7_back_X7_copies rfl (by decide +kernel) ⟨by decide, by decide⟩ rfl rfl (z_mod0 hs) rfl rfl rfl rfl (Nat.le_of_ble_eq_true rfl) dX7_back_32 (fun r2 _ => ?_)
      refine z_aload_n hX dX7_back_35 rfl 0 rfl ?_
      refine z_getR (k := 0) hX (z_mod0 hs) rfl rfl in_X7_back_X7 (by decide) lk_X7_back_f7 dX7_back_36 ?_
      refine z_bipush (v := 25) hX dX7_back_39 (by decide) ?_
      refine z_ialdc (j := 25) hX (z_mod1 hs) (by decide) dX7_back_41 ?_
      exact z_iret hX dX7_back_42
    · refine z_bipush (v := -2) hX dX7_back_21 (by decide) ?_
      exact z_iret hX dX7_back_23
  · refine z_iconst (v := -1) hX dX7_back_10 (by decide) ?_
    exact z_iret hX dX7_back_11

abbrev rm_X7_isSheet : Room := { frames := 1, cells := 0, slots := 0, locals := 25 }
theorem lk_X7_isSheet_c173 : Cond.constantLong RX7 173 3 ∈ wsX7_isSheet := by decide +kernel
theorem lk_X7_isSheet_c220 : Cond.constantLong RX7 220 2 ∈ wsX7_isSheet := by decide +kernel
set_option maxHeartbeats 4000000 in
set_option maxRecDepth 100000 in
theorem c_X7_isSheet (l : Launch) (V : z_V) (hV : z_ok V) (hs : z_isM V) (x0 : Int32) (x1 : Int32) (σ : z_St) : z_CtI l V yX7_isSheet wsX7_isSheet rm_X7_isSheet [.int x0, .int x1] σ (f_X7_isSheet x0 x1 σ) := by
  refine z_startI (lv := [(0, .int x0), (1, .int x1)]) hV (by decide) rfl (Nat.le_of_ble_eq_true rfl) rfl ?_
  intro M hM hX
  have hX : z_Cx M V cX7_isSheet 2 (some .boolean) wsX7_isSheet RX7 := hX
  unfold f_X7_isSheet
  refine z_iload_n hX dX7_isSheet_0 rfl 0 rfl ?_
  refine z_i2l hX dX7_isSheet_1 ?_
  refine z_lconst (v := 0) hX dX7_isSheet_2 (by decide) ?_
  refine z_ldc2 (v := 3) hX lk_X7_isSheet_c173 dX7_isSheet_3 ?_
  refine z_callSI (n := 3) hX (c_X7_in M.2.1 V hX.2.2.2.2.2 hs x0.toInt64 (0 : Int64) (3 : Int64) σ) gX7_isSheet_X7_in rfl (by decide +kernel) ⟨by decide, by decide⟩ rfl rfl rfl rfl (Nat.le_of_ble_eq_true rfl) dX7_isSheet_6 (fun r1 _ => ?_)
  refine z_if_eq (tgt := 28) hX dX7_isSheet_9 (by decide) ?_ ?_
  · refine z_iconst (v := 0) hX dX7_isSheet_28 (by decide) ?_
    exact z_zret hX dX7_isSheet_29 rfl
  · refine z_iload_n hX dX7_isSheet_12 rfl 1 rfl ?_
    refine z_i2l hX dX7_isSheet_13 ?_
    refine z_lconst (v := 0) hX dX7_isSheet_14 (by decide) ?_
    refine z_ldc2 (v := 2) hX lk_X7_isSheet_c220 dX7_isSheet_15 ?_
    refine z_callSI (n := 3) hX (c_X7_in M.2.1 V hX.2.2.2.2.2 hs x1.toInt64 (0 : Int64) (2 : Int64) r1.2) gX7_isSheet_X7_in rfl (by decide +kernel) ⟨by decide, by decide⟩ rfl rfl rfl rfl (Nat.le_of_ble_eq_true rfl) dX7_isSheet_18 (fun r2 _ => ?_)
    refine z_if_eq (tgt := 28) hX dX7_isSheet_21 (by decide) ?_ ?_
    · refine z_iconst (v := 0) hX dX7_isSheet_28 (by decide) ?_
      exact z_zret hX dX7_isSheet_29 rfl
    · refine z_iconst (v := 1) hX dX7_isSheet_24 (by decide) ?_
      refine z_goto (tgt := 29) hX dX7_isSheet_25 (by decide) ?_
      exact z_zret hX dX7_isSheet_29 rfl

abbrev rm_X7_sheet : Room := { frames := 2, cells := 0, slots := 0, locals := 46 }
theorem in_X7_sheet_X7 : ∀ w ∈ wsX70, w ∈ wsX7_sheet := fun w h => List.mem_cons_of_mem _ (List.mem_append_right _ h)
theorem lk_X7_sheet_f65 : Cond.fieldLink RX7 65 (TX7 34).1 (TX7 34).2.1 (TX7 34).2.2.1 ∈ wsX7_sheet := by decide +kernel
theorem lk_X7_sheet_f68 : Cond.fieldLink RX7 68 (TX7 35).1 (TX7 35).2.1 (TX7 35).2.2.1 ∈ wsX7_sheet := by decide +kernel
theorem lk_X7_sheet_f71 : Cond.fieldLink RX7 71 (TX7 36).1 (TX7 36).2.1 (TX7 36).2.2.1 ∈ wsX7_sheet := by decide +kernel
set_option maxHeartbeats 4000000 in
set_option maxRecDepth 100000 in
theorem w_X7_sheet_40 (M : z_M) (V : z_V) (hs : z_isM V) (hX : z_Cx M V cX7_sheet 5 (some .int) wsX7_sheet RX7) : ∀ (n : Nat) (x1 : Int32) (x4 : Int32) (σ : z_St), z_Go M rm_X7_sheet 5 V (z_QI V) σ 40 [(0, .ref (z_ad V 0)), (1, .int x1), (4, .int x4)] [] (f_X7_sheet_40 n x1 x4 σ) := by
  intro n
  induction n with
  | zero => intro x1 x4 σ; exact z_none
  | succ n ih =>
    intro x1 x4 σ
    rw [f_X7_sheet_40]
    refine z_iload hX dX7_sheet_40 2 rfl ?_
    refine z_bipush (v := 40) hX dX7_sheet_42 (by decide) ?_
    refine z_icmp_ge (tgt := 66) hX dX7_sheet_44 (by decide) ?_ ?_
    · refine z_iconst (v := 1) hX dX7_sheet_66 (by decide) ?_
      exact z_iret hX dX7_sheet_67
    · refine z_aload_n hX dX7_sheet_47 rfl 0 rfl ?_
      refine z_getR (k := 36) hX (z_mod0 hs) rfl rfl in_X7_sheet_X7 (by decide) lk_X7_sheet_f71 dX7_sheet_48 ?_
      refine z_bipush (v := 40) hX dX7_sheet_51 (by decide) ?_
      refine z_iload_n hX dX7_sheet_53 rfl 1 rfl ?_
      refine z_imul hX dX7_sheet_54 ?_
      refine z_iload hX dX7_sheet_55 2 rfl ?_
      refine z_iadd hX dX7_sheet_57 ?_
      refine z_iconst (v := 0) hX dX7_sheet_58 (by decide) ?_
      refine z_iast hX (z_mod21 hs) dX7_sheet_59 (z_bs fun s4 => ?_)
      refine z_iinc (v := (x4 + 1)) (lv' := [(4, .int (x4 + 1)), (0, .ref (z_ad V 0)), (1, .int x1)]) hX dX7_sheet_60 2 rfl rfl (by decide) rfl ?_
      refine z_goto (tgt := 40) hX dX7_sheet_63 (by decide) ?_
      refine z_sub [1, 2, 0] rfl ?_
      exact ih x1 (x4 + 1) s4
set_option maxHeartbeats 4000000 in
set_option maxRecDepth 100000 in
theorem c_X7_sheet (l : Launch) (V : z_V) (hV : z_ok V) (hs : z_isM V) (x1 : Int32) (x2 : Int32) (x3 : Int32) (σ : z_St) : z_CtI l V yX7_sheet wsX7_sheet rm_X7_sheet [.ref (z_ad V 0), .int x1, .int x2, .int x3] σ (f_X7_sheet x1 x2 x3 σ) := by
  refine z_startI (lv := [(0, .ref (z_ad V 0)), (1, .int x1), (2, .int x2), (3, .int x3)]) hV (by decide) rfl (Nat.le_of_ble_eq_true rfl) rfl ?_
  intro M hM hX
  have hX : z_Cx M V cX7_sheet 5 (some .int) wsX7_sheet RX7 := hX
  unfold f_X7_sheet
  refine z_iload_n hX dX7_sheet_0 rfl 1 rfl ?_
  refine z_iload_n hX dX7_sheet_1 rfl 2 rfl ?_
  refine z_callSI (n := 2) hX (c_X7_isSheet M.2.1 V hX.2.2.2.2.2 hs x1 x2 σ) gX7_sheet_X7_isSheet rfl (by decide +kernel) ⟨by decide, by decide⟩ rfl rfl rfl rfl (Nat.le_of_ble_eq_true rfl) dX7_sheet_2 (fun r1 _ => ?_)
  refine z_if_eq (tgt := 14) hX dX7_sheet_5 (by decide) ?_ ?_
  · refine z_iconst (v := -1) hX dX7_sheet_14 (by decide) ?_
    exact z_iret hX dX7_sheet_15
  · refine z_iload_n hX dX7_sheet_8 rfl 3 rfl ?_
    refine z_bipush (v := 40) hX dX7_sheet_9 (by decide) ?_
    refine z_icmp_le (tgt := 16) hX dX7_sheet_11 (by decide) ?_ ?_
    · refine z_iload_n hX dX7_sheet_16 rfl 3 rfl ?_
      refine z_if_ge (tgt := 23) hX dX7_sheet_17 (by decide) ?_ ?_
      · refine z_aload_n hX dX7_sheet_23 rfl 0 rfl ?_
        refine z_getR (k := 34) hX (z_mod0 hs) rfl rfl in_X7_sheet_X7 (by decide) lk_X7_sheet_f65 dX7_sheet_24 ?_
        refine z_iload_n hX dX7_sheet_27 rfl 1 rfl ?_
        refine z_iload_n hX dX7_sheet_28 rfl 2 rfl ?_
        refine z_iast hX (z_mod19 hs) dX7_sheet_29 (z_bs fun s2 => ?_)
        refine z_aload_n hX dX7_sheet_30 rfl 0 rfl ?_
        refine z_getR (k := 35) hX (z_mod0 hs) rfl rfl in_X7_sheet_X7 (by decide) lk_X7_sheet_f68 dX7_sheet_31 ?_
        refine z_iload_n hX dX7_sheet_34 rfl 1 rfl ?_
        refine z_iload_n hX dX7_sheet_35 rfl 3 rfl ?_
        refine z_iast hX (z_mod20 hs) dX7_sheet_36 (z_bs fun s3 => ?_)
        refine z_iconst (v := 0) hX dX7_sheet_37 (by decide) ?_
        refine z_istore (lv' := [(4, .int (0 : Int32)), (0, .ref (z_ad V 0)), (1, .int x1), (2, .int x2), (3, .int x3)]) hX dX7_sheet_38 (by decide) rfl ?_
        refine z_sub [1, 2, 0] rfl ?_
        exact w_X7_sheet_40 M V hs hX 200 x1 (0 : Int32) s3
      · refine z_bipush (v := -14) hX dX7_sheet_20 (by decide) ?_
        exact z_iret hX dX7_sheet_22
    · refine z_iconst (v := -1) hX dX7_sheet_14 (by decide) ?_
      exact z_iret hX dX7_sheet_15

abbrev rm_X7_lay : Room := { frames := 2, cells := 0, slots := 0, locals := 46 }
theorem in_X7_lay_X7 : ∀ w ∈ wsX70, w ∈ wsX7_lay := fun w h => List.mem_cons_of_mem _ (List.mem_append_right _ h)
theorem lk_X7_lay_f65 : Cond.fieldLink RX7 65 (TX7 34).1 (TX7 34).2.1 (TX7 34).2.2.1 ∈ wsX7_lay := by decide +kernel
theorem lk_X7_lay_f68 : Cond.fieldLink RX7 68 (TX7 35).1 (TX7 35).2.1 (TX7 35).2.2.1 ∈ wsX7_lay := by decide +kernel
theorem lk_X7_lay_f71 : Cond.fieldLink RX7 71 (TX7 36).1 (TX7 36).2.1 (TX7 36).2.2.1 ∈ wsX7_lay := by decide +kernel
set_option maxHeartbeats 4000000 in
set_option maxRecDepth 100000 in
theorem c_X7_lay (l : Launch) (V : z_V) (hV : z_ok V) (hs : z_isM V) (x1 : Int32) (x2 : Int32) (x3 : Int32) (σ : z_St) : z_CtI l V yX7_lay wsX7_lay rm_X7_lay [.ref (z_ad V 0), .int x1, .int x2, .int x3] σ (f_X7_lay x1 x2 x3 σ) := by
  refine z_startI (lv := [(0, .ref (z_ad V 0)), (1, .int x1), (2, .int x2), (3, .int x3)]) hV (by decide) rfl (Nat.le_of_ble_eq_true rfl) rfl ?_
  intro M hM hX
  have hX : z_Cx M V cX7_lay 4 (some .int) wsX7_lay RX7 := hX
  unfold f_X7_lay
  refine z_iload_n hX dX7_lay_0 rfl 1 rfl ?_
  refine z_iconst (v := 0) hX dX7_lay_1 (by decide) ?_
  refine z_callSI (n := 2) hX (c_X7_isSheet M.2.1 V hX.2.2.2.2.2 hs x1 (0 : Int32) σ) gX7_lay_X7_isSheet rfl (by decide +kernel) ⟨by decide, by decide⟩ rfl rfl rfl rfl (Nat.le_of_ble_eq_true rfl) dX7_lay_2 (fun r1 _ => ?_)
  refine z_if_ne (tgt := 10) hX dX7_lay_5 (by decide) ?_ ?_
  · refine z_aload_n hX dX7_lay_10 rfl 0 rfl ?_
    refine z_getR (k := 34) hX (z_mod0 hs) rfl rfl in_X7_lay_X7 (by decide) lk_X7_lay_f65 dX7_lay_11 ?_
    refine z_iload_n hX dX7_lay_14 rfl 1 rfl ?_
    refine z_iald hX (z_mod19 hs) dX7_lay_15 ?_
    refine z_bipush (v := -4) hX dX7_lay_16 (by decide) ?_
    refine z_icmp_ne (tgt := 24) hX dX7_lay_18 (by decide) ?_ ?_
    · refine z_iload_n hX dX7_lay_24 rfl 2 rfl ?_
      refine z_i2l hX dX7_lay_25 ?_
      refine z_lconst (v := 0) hX dX7_lay_26 (by decide) ?_
      refine z_aload_n hX dX7_lay_27 rfl 0 rfl ?_
      refine z_getR (k := 35) hX (z_mod0 hs) rfl rfl in_X7_lay_X7 (by decide) lk_X7_lay_f68 dX7_lay_28 ?_
      refine z_iload_n hX dX7_lay_31 rfl 1 rfl ?_
      refine z_iald hX (z_mod20 hs) dX7_lay_32 ?_
      refine z_iconst (v := 1) hX dX7_lay_33 (by decide) ?_
      refine z_isub hX dX7_lay_34 ?_
      refine z_i2l hX dX7_lay_35 ?_
      refine z_callSI (n := 3) hX (c_X7_in M.2.1 V hX.2.2.2.2.2 hs x2.toInt64 (0 : Int64) ((r1.2 20 x1.toNatClampNeg) - (1 : Int32)).toInt64 r1.2) gX7_lay_X7_in rfl (by decide +kernel) ⟨by decide, by decide⟩ rfl rfl rfl rfl (Nat.le_of_ble_eq_true rfl) dX7_lay_36 (fun r2 _ => ?_)
      refine z_if_ne (tgt := 45) hX dX7_lay_39 (by decide) ?_ ?_
      · refine z_aload_n hX dX7_lay_45 rfl 0 rfl ?_
        refine z_getR (k := 36) hX (z_mod0 hs) rfl rfl in_X7_lay_X7 (by decide) lk_X7_lay_f71 dX7_lay_46 ?_
        refine z_bipush (v := 40) hX dX7_lay_49 (by decide) ?_
        refine z_iload_n hX dX7_lay_51 rfl 1 rfl ?_
        refine z_imul hX dX7_lay_52 ?_
        refine z_iload_n hX dX7_lay_53 rfl 2 rfl ?_
        refine z_iadd hX dX7_lay_54 ?_
        refine z_aload_n hX dX7_lay_55 rfl 0 rfl ?_
        refine z_getR (k := 34) hX (z_mod0 hs) rfl rfl in_X7_lay_X7 (by decide) lk_X7_lay_f65 dX7_lay_56 ?_
        refine z_iload_n hX dX7_lay_59 rfl 1 rfl ?_
        refine z_iald hX (z_mod19 hs) dX7_lay_60 ?_
        refine z_if_ne (tgt := 69) hX dX7_lay_61 (by decide) ?_ ?_
        · refine z_aload_n hX dX7_lay_69 rfl 0 rfl ?_
          refine z_getR (k := 34) hX (z_mod0 hs) rfl rfl in_X7_lay_X7 (by decide) lk_X7_lay_f65 dX7_lay_70 ?_
          refine z_iload_n hX dX7_lay_73 rfl 1 rfl ?_
          refine z_iald hX (z_mod19 hs) dX7_lay_74 ?_
          refine z_iconst (v := 1) hX dX7_lay_75 (by decide) ?_
          refine z_icmp_ne (tgt := 84) hX dX7_lay_76 (by decide) ?_ ?_
          · refine z_iload_n hX dX7_lay_84 rfl 3 rfl ?_
            refine z_iast hX (z_mod21 hs) dX7_lay_85 (z_bs fun s3 => ?_)
            refine z_iconst (v := 1) hX dX7_lay_86 (by decide) ?_
            exact z_iret hX dX7_lay_87
          · refine z_iload_n hX dX7_lay_79 rfl 3 rfl ?_
            refine z_i2s hX dX7_lay_80 ?_
            refine z_goto (tgt := 85) hX dX7_lay_81 (by decide) ?_
            refine z_iast hX (z_mod21 hs) dX7_lay_85 (z_bs fun s4 => ?_)
            refine z_iconst (v := 1) hX dX7_lay_86 (by decide) ?_
            exact z_iret hX dX7_lay_87
        · refine z_iload_n hX dX7_lay_64 rfl 3 rfl ?_
          refine z_i2b hX dX7_lay_65 ?_
          refine z_goto (tgt := 85) hX dX7_lay_66 (by decide) ?_
          refine z_iast hX (z_mod21 hs) dX7_lay_85 (z_bs fun s5 => ?_)
          refine z_iconst (v := 1) hX dX7_lay_86 (by decide) ?_
          exact z_iret hX dX7_lay_87
      · refine z_bipush (v := -12) hX dX7_lay_42 (by decide) ?_
        exact z_iret hX dX7_lay_44
    · refine z_bipush (v := -11) hX dX7_lay_21 (by decide) ?_
      exact z_iret hX dX7_lay_23
  · refine z_iconst (v := -1) hX dX7_lay_8 (by decide) ?_
    exact z_iret hX dX7_lay_9

abbrev rm_X7_read : Room := { frames := 3, cells := 0, slots := 0, locals := 68 }
theorem in_X7_read_X7 : ∀ w ∈ wsX70, w ∈ wsX7_read := fun w h => List.mem_cons_of_mem _ (List.mem_append_right _ h)
theorem lk_X7_read_c242 : Cond.constantLong RX7 242 20 ∈ wsX7_read := by decide +kernel
theorem lk_X7_read_f288 : Cond.fieldLink RX7 288 (TX7 37).1 (TX7 37).2.1 (TX7 37).2.2.1 ∈ wsX7_read := by decide +kernel
theorem lk_X7_read_f71 : Cond.fieldLink RX7 71 (TX7 36).1 (TX7 36).2.1 (TX7 36).2.2.1 ∈ wsX7_read := by decide +kernel
theorem lk_X7_read_f7 : Cond.fieldLink RX7 7 (TX7 0).1 (TX7 0).2.1 (TX7 0).2.2.1 ∈ wsX7_read := by decide +kernel
theorem lk_X7_read_f74 : Cond.fieldLink RX7 74 (TX7 38).1 (TX7 38).2.1 (TX7 38).2.2.1 ∈ wsX7_read := by decide +kernel
theorem lk_X7_read_f65 : Cond.fieldLink RX7 65 (TX7 34).1 (TX7 34).2.1 (TX7 34).2.2.1 ∈ wsX7_read := by decide +kernel
theorem lk_X7_read_f68 : Cond.fieldLink RX7 68 (TX7 35).1 (TX7 35).2.1 (TX7 35).2.2.1 ∈ wsX7_read := by decide +kernel
set_option maxHeartbeats 4000000 in
set_option maxRecDepth 100000 in
theorem w_X7_read_208 (M : z_M) (V : z_V) (hs : z_isM V) (hX : z_Cx M V cX7_read 11 (some .int) wsX7_read RX7) : ∀ (n : Nat) (x7 : Int32) (x9 : Int32) (σ : z_St), z_Go M rm_X7_read 11 V (z_QI V) σ 208 [(0, .ref (z_ad V 0)), (7, .int x7), (9, .int x9)] [] (f_X7_read_208 n x7 x9 σ) := by
  intro n
  induction n with
  | zero => intro x7 x9 σ; exact z_none
  | succ n ih =>
    intro x7 x9 σ
    rw [f_X7_read_208]
    refine z_iload hX dX7_read_208 2 rfl ?_
    refine z_bipush (v := 45) hX dX7_read_210 (by decide) ?_
    refine z_icmp_ge (tgt := 235) hX dX7_read_212 (by decide) ?_ ?_
    · refine z_bipush (v := -20) hX dX7_read_235 (by decide) ?_
      refine z_iload hX dX7_read_237 1 rfl ?_
      refine z_isub hX dX7_read_239 ?_
      exact z_iret hX dX7_read_240
    · refine z_aload_n hX dX7_read_215 rfl 0 rfl ?_
      refine z_getR (k := 0) hX (z_mod0 hs) rfl rfl in_X7_read_X7 (by decide) lk_X7_read_f7 dX7_read_216 ?_
      refine z_iload hX dX7_read_219 2 rfl ?_
      refine z_aload_n hX dX7_read_221 rfl 0 rfl ?_
      refine z_getR (k := 38) hX (z_mod0 hs) rfl rfl in_X7_read_X7 (by decide) lk_X7_read_f74 dX7_read_222 ?_
      refine z_iload hX dX7_read_225 2 rfl ?_
      refine z_iald hX (z_mod22 hs) dX7_read_227 ?_
      refine z_iast hX (z_mod1 hs) dX7_read_228 (z_bs fun s7 => ?_)
      refine z_iinc (v := (x9 + 1)) (lv' := [(9, .int (x9 + 1)), (0, .ref (z_ad V 0)), (7, .int x7)]) hX dX7_read_229 2 rfl rfl (by decide) rfl ?_
      refine z_goto (tgt := 208) hX dX7_read_232 (by decide) ?_
      refine z_sub [1, 2, 0] rfl ?_
      exact ih x7 (x9 + 1) s7
set_option maxHeartbeats 4000000 in
set_option maxRecDepth 100000 in
theorem w_X7_read_164 (M : z_M) (V : z_V) (hs : z_isM V) (hX : z_Cx M V cX7_read 11 (some .int) wsX7_read RX7) (K62 : Int32 → Int32 → Int32 → Int32 → Int32 → Int32 → Int32 → z_St → Option (Int32 × z_St)) (hK62 : ∀ (x1 : Int32) (x2 : Int32) (x3 : Int32) (x4 : Int32) (x5 : Int32) (x6 : Int32) (x7 : Int32) (σ : z_St), z_Go M rm_X7_read 11 V (z_QI V) σ 62 [(0, .ref (z_ad V 0)), (1, .int x1), (2, .int x2), (3, .int x3), (4, .int x4), (5, .int x5), (6, .int x6), (7, .int x7)] [] (K62 x1 x2 x3 x4 x5 x6 x7 σ)) (x1 : Int32) (x2 : Int32) (x3 : Int32) (x4 : Int32) (x5 : Int32) (x6 : Int32) (x7 : Int32) (σ : z_St) : z_Go M rm_X7_read 11 V (z_QI V) σ 164 [(0, .ref (z_ad V 0)), (1, .int x1), (2, .int x2), (3, .int x3), (4, .int x4), (5, .int x5), (6, .int x6), (7, .int x7)] [] (f_X7_read_164 K62 x1 x2 x3 x4 x5 x6 x7 σ) := by
  unfold f_X7_read_164
  refine z_iload hX dX7_read_164 5 rfl ?_
  refine z_if_ne (tgt := 244) hX dX7_read_166 (by decide) ?_ ?_
  · refine z_iinc (v := (x7 + 1)) (lv' := [(7, .int (x7 + 1)), (0, .ref (z_ad V 0)), (1, .int x1), (2, .int x2), (3, .int x3), (4, .int x4), (5, .int x5), (6, .int x6)]) hX dX7_read_244 7 rfl rfl (by decide) rfl ?_
    refine z_goto (tgt := 62) hX dX7_read_247 (by decide) ?_
    refine z_sub [1, 2, 3, 4, 5, 6, 7, 0] rfl ?_
    exact hK62 x1 x2 x3 x4 x5 x6 (x7 + 1) σ
  · refine z_bipush (v := 40) hX dX7_read_169 (by decide) ?_
    refine z_iload_n hX dX7_read_171 rfl 1 rfl ?_
    refine z_imul hX dX7_read_172 ?_
    refine z_iload_n hX dX7_read_173 rfl 3 rfl ?_
    refine z_iadd hX dX7_read_174 ?_
    refine z_iconst (v := 2) hX dX7_read_175 (by decide) ?_
    refine z_iload hX dX7_read_176 7 rfl ?_
    refine z_imul hX dX7_read_178 ?_
    refine z_iadd hX dX7_read_179 ?_
    refine z_top (fun v5 => ?_)
    refine z_istore (lv' := [(8, .int v5), (0, .ref (z_ad V 0)), (1, .int x1), (2, .int x2), (3, .int x3), (4, .int x4), (5, .int x5), (6, .int x6), (7, .int x7)]) hX dX7_read_180 (by decide) rfl ?_
    refine z_aload_n hX dX7_read_182 rfl 1 rfl ?_
    refine z_aload_n hX dX7_read_183 rfl 1 rfl ?_
    refine z_getR (k := 36) hX (z_mod0 hs) rfl rfl in_X7_read_X7 (by decide) lk_X7_read_f71 dX7_read_184 ?_
    refine z_iload hX dX7_read_187 0 rfl ?_
    refine z_iald hX (z_mod21 hs) dX7_read_189 ?_
    refine z_aload_n hX dX7_read_190 rfl 1 rfl ?_
    refine z_getR (k := 36) hX (z_mod0 hs) rfl rfl in_X7_read_X7 (by decide) lk_X7_read_f71 dX7_read_191 ?_
    refine z_iload hX dX7_read_194 0 rfl ?_
    refine z_iconst (v := 1) hX dX7_read_196 (by decide) ?_
    refine z_iadd hX dX7_read_197 ?_
    refine z_iald hX (z_mod21 hs) dX7_read_198 ?_
    refine z_callVI (n := 2) hX (c_X7_draw M.2.1 V hX.2.2.2.2.2 hs (σ 21 v5.toNatClampNeg) (σ 21 (v5 + (1 : Int32)).toNatClampNeg) σ) gX7_read_X7_draw rfl (by decide +kernel) ⟨by decide, by decide⟩ rfl rfl (z_mod0 hs) rfl rfl rfl rfl (Nat.le_of_ble_eq_true rfl) dX7_read_199 (fun r6 _ => ?_)
    refine z_if_ge (tgt := 241) hX dX7_read_202 (by decide) ?_ ?_
    · refine z_iinc (v := (x6 + 1)) (lv' := [(6, .int (x6 + 1)), (8, .int v5), (0, .ref (z_ad V 0)), (1, .int x1), (2, .int x2), (3, .int x3), (4, .int x4), (5, .int x5), (7, .int x7)]) hX dX7_read_241 7 rfl rfl (by decide) rfl ?_
      refine z_iinc (v := (x7 + 1)) (lv' := [(7, .int (x7 + 1)), (6, .int (x6 + 1)), (8, .int v5), (0, .ref (z_ad V 0)), (1, .int x1), (2, .int x2), (3, .int x3), (4, .int x4), (5, .int x5)]) hX dX7_read_244 8 rfl rfl (by decide) rfl ?_
      refine z_goto (tgt := 62) hX dX7_read_247 (by decide) ?_
      refine z_sub [3, 4, 5, 6, 7, 8, 1, 0] rfl ?_
      exact hK62 x1 x2 x3 x4 x5 (x6 + 1) (x7 + 1) r6.2
    · refine z_iconst (v := 0) hX dX7_read_205 (by decide) ?_
      refine z_istore (lv' := [(9, .int (0 : Int32)), (8, .int v5), (0, .ref (z_ad V 0)), (1, .int x1), (2, .int x2), (3, .int x3), (4, .int x4), (5, .int x5), (6, .int x6), (7, .int x7)]) hX dX7_read_206 (by decide) rfl ?_
      refine z_sub [2, 9, 0] rfl ?_
      exact w_X7_read_208 M V hs hX 200 x7 (0 : Int32) r6.2
set_option maxHeartbeats 4000000 in
set_option maxRecDepth 100000 in
theorem w_X7_read_77 (M : z_M) (V : z_V) (hs : z_isM V) (hX : z_Cx M V cX7_read 11 (some .int) wsX7_read RX7) (K62 : Int32 → Int32 → Int32 → Int32 → Int32 → Int32 → Int32 → z_St → Option (Int32 × z_St)) (hK62 : ∀ (x1 : Int32) (x2 : Int32) (x3 : Int32) (x4 : Int32) (x5 : Int32) (x6 : Int32) (x7 : Int32) (σ : z_St), z_Go M rm_X7_read 11 V (z_QI V) σ 62 [(0, .ref (z_ad V 0)), (1, .int x1), (2, .int x2), (3, .int x3), (4, .int x4), (5, .int x5), (6, .int x6), (7, .int x7)] [] (K62 x1 x2 x3 x4 x5 x6 x7 σ)) : ∀ (n : Nat) (x1 : Int32) (x2 : Int32) (x3 : Int32) (x4 : Int32) (x5 : Int32) (x6 : Int32) (x7 : Int32) (x8 : Int32) (σ : z_St), z_Go M rm_X7_read 11 V (z_QI V) σ 77 [(0, .ref (z_ad V 0)), (1, .int x1), (2, .int x2), (3, .int x3), (4, .int x4), (5, .int x5), (6, .int x6), (7, .int x7), (8, .int x8)] [] (f_X7_read_77 K62 n x1 x2 x3 x4 x5 x6 x7 x8 σ) := by
  intro n
  induction n with
  | zero => intro x1 x2 x3 x4 x5 x6 x7 x8 σ; exact z_none
  | succ n ih =>
    intro x1 x2 x3 x4 x5 x6 x7 x8 σ
    rw [f_X7_read_77]
    refine z_iload hX dX7_read_77 8 rfl ?_
    refine z_iconst (v := 2) hX dX7_read_79 (by decide) ?_
    refine z_icmp_ge (tgt := 164) hX dX7_read_80 (by decide) ?_ ?_
    · refine z_sub [0, 1, 2, 3, 4, 5, 6, 7] rfl ?_
      exact w_X7_read_164 M V hs hX K62 hK62 x1 x2 x3 x4 x5 x6 x7 σ
    · refine z_iload hX dX7_read_83 5 rfl ?_
      refine z_if_ne (tgt := 164) hX dX7_read_85 (by decide) ?_ ?_
      · refine z_sub [0, 1, 2, 3, 4, 5, 6, 7] rfl ?_
        exact w_X7_read_164 M V hs hX K62 hK62 x1 x2 x3 x4 x5 x6 x7 σ
      · refine z_iload_n hX dX7_read_88 rfl 3 rfl ?_
        refine z_i2l hX dX7_read_89 ?_
        refine z_iconst (v := 2) hX dX7_read_90 (by decide) ?_
        refine z_iload hX dX7_read_91 7 rfl ?_
        refine z_imul hX dX7_read_93 ?_
        refine z_i2l hX dX7_read_94 ?_
        refine z_ladd hX dX7_read_95 ?_
        refine z_iload hX dX7_read_96 8 rfl ?_
        refine z_i2l hX dX7_read_98 ?_
        refine z_ladd hX dX7_read_99 ?_
        refine z_lstore (lv' := [(9, .long ((x3.toInt64 + ((2 : Int32) * x7).toInt64) + x8.toInt64)), (0, .ref (z_ad V 0)), (1, .int x1), (2, .int x2), (3, .int x3), (4, .int x4), (5, .int x5), (6, .int x6), (7, .int x7), (8, .int x8)]) hX dX7_read_100 (by decide) rfl ?_
        refine z_aload_n hX dX7_read_102 rfl 1 rfl ?_
        refine z_getR (k := 34) hX (z_mod0 hs) rfl rfl in_X7_read_X7 (by decide) lk_X7_read_f65 dX7_read_103 ?_
        refine z_iload_n hX dX7_read_106 rfl 2 rfl ?_
        refine z_iald hX (z_mod19 hs) dX7_read_107 ?_
        refine z_bipush (v := -4) hX dX7_read_108 (by decide) ?_
        refine z_icmp_ne (tgt := 117) hX dX7_read_110 (by decide) ?_ ?_
        · refine z_aload_n hX dX7_read_117 rfl 1 rfl ?_
          refine z_getR (k := 34) hX (z_mod0 hs) rfl rfl in_X7_read_X7 (by decide) lk_X7_read_f65 dX7_read_118 ?_
          refine z_iload_n hX dX7_read_121 rfl 2 rfl ?_
          refine z_iald hX (z_mod19 hs) dX7_read_122 ?_
          refine z_iload_n hX dX7_read_123 rfl 3 rfl ?_
          refine z_icmp_eq (tgt := 131) hX dX7_read_124 (by decide) ?_ ?_
          · refine z_lload hX dX7_read_131 0 rfl ?_
            refine z_lconst (v := 0) hX dX7_read_133 (by decide) ?_
            refine z_lcmp hX dX7_read_134 ?_
            refine z_if_lt (tgt := 151) hX dX7_read_135 (by decide) ?_ ?_
            · refine z_iconst (v := 2) hX dX7_read_151 (by decide) ?_
              refine z_goto (tgt := 156) hX dX7_read_152 (by decide) ?_
              refine z_istore (lv' := [(5, .int (2 : Int32)), (9, .long ((x3.toInt64 + ((2 : Int32) * x7).toInt64) + x8.toInt64)), (0, .ref (z_ad V 0)), (1, .int x1), (2, .int x2), (3, .int x3), (4, .int x4), (6, .int x6), (7, .int x7), (8, .int x8)]) hX dX7_read_156 (by decide) rfl ?_
              refine z_iinc (v := (x8 + 1)) (lv' := [(8, .int (x8 + 1)), (5, .int (2 : Int32)), (9, .long ((x3.toInt64 + ((2 : Int32) * x7).toInt64) + x8.toInt64)), (0, .ref (z_ad V 0)), (1, .int x1), (2, .int x2), (3, .int x3), (4, .int x4), (6, .int x6), (7, .int x7)]) hX dX7_read_158 9 rfl rfl (by decide) rfl ?_
              refine z_goto (tgt := 77) hX dX7_read_161 (by decide) ?_
              refine z_sub [3, 4, 5, 6, 7, 1, 8, 9, 0] rfl ?_
              exact ih x1 x2 x3 x4 (2 : Int32) x6 x7 (x8 + 1) σ
            · refine z_lload hX dX7_read_138 0 rfl ?_
              refine z_aload_n hX dX7_read_140 rfl 1 rfl ?_
              refine z_getR (k := 35) hX (z_mod0 hs) rfl rfl in_X7_read_X7 (by decide) lk_X7_read_f68 dX7_read_141 ?_
              refine z_iload_n hX dX7_read_144 rfl 2 rfl ?_
              refine z_iald hX (z_mod20 hs) dX7_read_145 ?_
              refine z_i2l hX dX7_read_146 ?_
              refine z_lcmp hX dX7_read_147 ?_
              refine z_if_lt (tgt := 155) hX dX7_read_148 (by decide) ?_ ?_
              · refine z_iconst (v := 0) hX dX7_read_155 (by decide) ?_
                refine z_istore (lv' := [(5, .int (0 : Int32)), (9, .long ((x3.toInt64 + ((2 : Int32) * x7).toInt64) + x8.toInt64)), (0, .ref (z_ad V 0)), (1, .int x1), (2, .int x2), (3, .int x3), (4, .int x4), (6, .int x6), (7, .int x7), (8, .int x8)]) hX dX7_read_156 (by decide) rfl ?_
                refine z_iinc (v := (x8 + 1)) (lv' := [(8, .int (x8 + 1)), (5, .int (0 : Int32)), (9, .long ((x3.toInt64 + ((2 : Int32) * x7).toInt64) + x8.toInt64)), (0, .ref (z_ad V 0)), (1, .int x1), (2, .int x2), (3, .int x3), (4, .int x4), (6, .int x6), (7, .int x7)]) hX dX7_read_158 9 rfl rfl (by decide) rfl ?_
                refine z_goto (tgt := 77) hX dX7_read_161 (by decide) ?_
                refine z_sub [3, 4, 5, 6, 7, 1, 8, 9, 0] rfl ?_
                exact ih x1 x2 x3 x4 (0 : Int32) x6 x7 (x8 + 1) σ
              · refine z_iconst (v := 2) hX dX7_read_151 (by decide) ?_
                refine z_goto (tgt := 156) hX dX7_read_152 (by decide) ?_
                refine z_istore (lv' := [(5, .int (2 : Int32)), (9, .long ((x3.toInt64 + ((2 : Int32) * x7).toInt64) + x8.toInt64)), (0, .ref (z_ad V 0)), (1, .int x1), (2, .int x2), (3, .int x3), (4, .int x4), (6, .int x6), (7, .int x7), (8, .int x8)]) hX dX7_read_156 (by decide) rfl ?_
                refine z_iinc (v := (x8 + 1)) (lv' := [(8, .int (x8 + 1)), (5, .int (2 : Int32)), (9, .long ((x3.toInt64 + ((2 : Int32) * x7).toInt64) + x8.toInt64)), (0, .ref (z_ad V 0)), (1, .int x1), (2, .int x2), (3, .int x3), (4, .int x4), (6, .int x6), (7, .int x7)]) hX dX7_read_158 9 rfl rfl (by decide) rfl ?_
                refine z_goto (tgt := 77) hX dX7_read_161 (by decide) ?_
                refine z_sub [3, 4, 5, 6, 7, 1, 8, 9, 0] rfl ?_
                exact ih x1 x2 x3 x4 (2 : Int32) x6 x7 (x8 + 1) σ
          · refine z_iconst (v := 3) hX dX7_read_127 (by decide) ?_
            refine z_goto (tgt := 156) hX dX7_read_128 (by decide) ?_
            refine z_istore (lv' := [(5, .int (3 : Int32)), (9, .long ((x3.toInt64 + ((2 : Int32) * x7).toInt64) + x8.toInt64)), (0, .ref (z_ad V 0)), (1, .int x1), (2, .int x2), (3, .int x3), (4, .int x4), (6, .int x6), (7, .int x7), (8, .int x8)]) hX dX7_read_156 (by decide) rfl ?_
            refine z_iinc (v := (x8 + 1)) (lv' := [(8, .int (x8 + 1)), (5, .int (3 : Int32)), (9, .long ((x3.toInt64 + ((2 : Int32) * x7).toInt64) + x8.toInt64)), (0, .ref (z_ad V 0)), (1, .int x1), (2, .int x2), (3, .int x3), (4, .int x4), (6, .int x6), (7, .int x7)]) hX dX7_read_158 9 rfl rfl (by decide) rfl ?_
            refine z_goto (tgt := 77) hX dX7_read_161 (by decide) ?_
            refine z_sub [3, 4, 5, 6, 7, 1, 8, 9, 0] rfl ?_
            exact ih x1 x2 x3 x4 (3 : Int32) x6 x7 (x8 + 1) σ
        · refine z_iconst (v := 1) hX dX7_read_113 (by decide) ?_
          refine z_goto (tgt := 156) hX dX7_read_114 (by decide) ?_
          refine z_istore (lv' := [(5, .int (1 : Int32)), (9, .long ((x3.toInt64 + ((2 : Int32) * x7).toInt64) + x8.toInt64)), (0, .ref (z_ad V 0)), (1, .int x1), (2, .int x2), (3, .int x3), (4, .int x4), (6, .int x6), (7, .int x7), (8, .int x8)]) hX dX7_read_156 (by decide) rfl ?_
          refine z_iinc (v := (x8 + 1)) (lv' := [(8, .int (x8 + 1)), (5, .int (1 : Int32)), (9, .long ((x3.toInt64 + ((2 : Int32) * x7).toInt64) + x8.toInt64)), (0, .ref (z_ad V 0)), (1, .int x1), (2, .int x2), (3, .int x3), (4, .int x4), (6, .int x6), (7, .int x7)]) hX dX7_read_158 9 rfl rfl (by decide) rfl ?_
          refine z_goto (tgt := 77) hX dX7_read_161 (by decide) ?_
          refine z_sub [3, 4, 5, 6, 7, 1, 8, 9, 0] rfl ?_
          exact ih x1 x2 x3 x4 (1 : Int32) x6 x7 (x8 + 1) σ
set_option maxHeartbeats 4000000 in
set_option maxRecDepth 100000 in
theorem w_X7_read_62 (M : z_M) (V : z_V) (hs : z_isM V) (hX : z_Cx M V cX7_read 11 (some .int) wsX7_read RX7) : ∀ (n : Nat) (x1 : Int32) (x2 : Int32) (x3 : Int32) (x4 : Int32) (x5 : Int32) (x6 : Int32) (x7 : Int32) (σ : z_St), z_Go M rm_X7_read 11 V (z_QI V) σ 62 [(0, .ref (z_ad V 0)), (1, .int x1), (2, .int x2), (3, .int x3), (4, .int x4), (5, .int x5), (6, .int x6), (7, .int x7)] [] (f_X7_read_62 n x1 x2 x3 x4 x5 x6 x7 σ) := by
  intro n
  induction n with
  | zero => intro x1 x2 x3 x4 x5 x6 x7 σ; exact z_none
  | succ n ih =>
    intro x1 x2 x3 x4 x5 x6 x7 σ
    rw [f_X7_read_62]
    refine z_iload hX dX7_read_62 7 rfl ?_
    refine z_iload hX dX7_read_64 4 rfl ?_
    refine z_icmp_ge (tgt := 250) hX dX7_read_66 (by decide) ?_ ?_
    · refine z_aload_n hX dX7_read_250 rfl 0 rfl ?_
      refine z_iload hX dX7_read_251 5 rfl ?_
      refine z_put1 (k := 37) hX (z_mod0 hs) rfl rfl in_X7_read_X7 (by decide) lk_X7_read_f288 tyX7 tyX7_ok nmX7 rfl rfl rfl dX7_read_253 (z_bs fun s3 => ?_)
      refine z_iload hX dX7_read_256 6 rfl ?_
      exact z_iret hX dX7_read_258
    · refine z_iload hX dX7_read_69 5 rfl ?_
      refine z_if_ne (tgt := 250) hX dX7_read_71 (by decide) ?_ ?_
      · refine z_aload_n hX dX7_read_250 rfl 0 rfl ?_
        refine z_iload hX dX7_read_251 5 rfl ?_
        refine z_put1 (k := 37) hX (z_mod0 hs) rfl rfl in_X7_read_X7 (by decide) lk_X7_read_f288 tyX7 tyX7_ok nmX7 rfl rfl rfl dX7_read_253 (z_bs fun s4 => ?_)
        refine z_iload hX dX7_read_256 6 rfl ?_
        exact z_iret hX dX7_read_258
      · refine z_iconst (v := 0) hX dX7_read_74 (by decide) ?_
        refine z_istore (lv' := [(8, .int (0 : Int32)), (0, .ref (z_ad V 0)), (1, .int x1), (2, .int x2), (3, .int x3), (4, .int x4), (5, .int x5), (6, .int x6), (7, .int x7)]) hX dX7_read_75 (by decide) rfl ?_
        refine z_sub [1, 2, 3, 4, 5, 6, 7, 8, 0] rfl ?_
        exact w_X7_read_77 M V hs hX (fun x1 x2 x3 x4 x5 x6 x7 σ => f_X7_read_62 n x1 x2 x3 x4 x5 x6 x7 σ) ih 200 x1 x2 x3 x4 x5 x6 x7 (0 : Int32) σ
set_option maxHeartbeats 4000000 in
set_option maxRecDepth 100000 in
theorem w_X7_read_26 (M : z_M) (V : z_V) (hs : z_isM V) (hX : z_Cx M V cX7_read 11 (some .int) wsX7_read RX7) : ∀ (n : Nat) (x1 : Int32) (x2 : Int32) (x3 : Int32) (x4 : Int32) (x5 : Int32) (σ : z_St), z_Go M rm_X7_read 11 V (z_QI V) σ 26 [(0, .ref (z_ad V 0)), (1, .int x1), (2, .int x2), (3, .int x3), (4, .int x4), (5, .int x5)] [] (f_X7_read_26 n x1 x2 x3 x4 x5 σ) := by
  intro n
  induction n with
  | zero => intro x1 x2 x3 x4 x5 σ; exact z_none
  | succ n ih =>
    intro x1 x2 x3 x4 x5 σ
    rw [f_X7_read_26]
    refine z_iload hX dX7_read_26 5 rfl ?_
    refine z_bipush (v := 45) hX dX7_read_28 (by decide) ?_
    refine z_icmp_ge (tgt := 53) hX dX7_read_30 (by decide) ?_ ?_
    · refine z_iconst (v := 0) hX dX7_read_53 (by decide) ?_
      refine z_istore (lv' := [(5, .int (0 : Int32)), (0, .ref (z_ad V 0)), (1, .int x1), (2, .int x2), (3, .int x3), (4, .int x4)]) hX dX7_read_54 (by decide) rfl ?_
      refine z_iconst (v := 0) hX dX7_read_56 (by decide) ?_
      refine z_istore (lv' := [(6, .int (0 : Int32)), (5, .int (0 : Int32)), (0, .ref (z_ad V 0)), (1, .int x1), (2, .int x2), (3, .int x3), (4, .int x4)]) hX dX7_read_57 (by decide) rfl ?_
      refine z_iconst (v := 0) hX dX7_read_59 (by decide) ?_
      refine z_istore (lv' := [(7, .int (0 : Int32)), (6, .int (0 : Int32)), (5, .int (0 : Int32)), (0, .ref (z_ad V 0)), (1, .int x1), (2, .int x2), (3, .int x3), (4, .int x4)]) hX dX7_read_60 (by decide) rfl ?_
      refine z_sub [3, 4, 5, 6, 7, 2, 1, 0] rfl ?_
      exact w_X7_read_62 M V hs hX 200 x1 x2 x3 x4 (0 : Int32) (0 : Int32) (0 : Int32) σ
    · refine z_aload_n hX dX7_read_33 rfl 0 rfl ?_
      refine z_getR (k := 38) hX (z_mod0 hs) rfl rfl in_X7_read_X7 (by decide) lk_X7_read_f74 dX7_read_34 ?_
      refine z_iload hX dX7_read_37 5 rfl ?_
      refine z_aload_n hX dX7_read_39 rfl 0 rfl ?_
      refine z_getR (k := 0) hX (z_mod0 hs) rfl rfl in_X7_read_X7 (by decide) lk_X7_read_f7 dX7_read_40 ?_
      refine z_iload hX dX7_read_43 5 rfl ?_
      refine z_iald hX (z_mod1 hs) dX7_read_45 ?_
      refine z_iast hX (z_mod22 hs) dX7_read_46 (z_bs fun s8 => ?_)
      refine z_iinc (v := (x5 + 1)) (lv' := [(5, .int (x5 + 1)), (0, .ref (z_ad V 0)), (1, .int x1), (2, .int x2), (3, .int x3), (4, .int x4)]) hX dX7_read_47 5 rfl rfl (by decide) rfl ?_
      refine z_goto (tgt := 26) hX dX7_read_50 (by decide) ?_
      refine z_sub [1, 2, 3, 4, 5, 0] rfl ?_
      exact ih x1 x2 x3 x4 (x5 + 1) s8
set_option maxHeartbeats 4000000 in
set_option maxRecDepth 100000 in
theorem c_X7_read (l : Launch) (V : z_V) (hV : z_ok V) (hs : z_isM V) (x1 : Int32) (x2 : Int32) (x3 : Int32) (x4 : Int32) (σ : z_St) : z_CtI l V yX7_read wsX7_read rm_X7_read [.ref (z_ad V 0), .int x1, .int x2, .int x3, .int x4] σ (f_X7_read x1 x2 x3 x4 σ) := by
  refine z_startI (lv := [(0, .ref (z_ad V 0)), (1, .int x1), (2, .int x2), (3, .int x3), (4, .int x4)]) hV (by decide) rfl (Nat.le_of_ble_eq_true rfl) rfl ?_
  intro M hM hX
  have hX : z_Cx M V cX7_read 11 (some .int) wsX7_read RX7 := hX
  unfold f_X7_read
  refine z_iload_n hX dX7_read_0 rfl 1 rfl ?_
  refine z_iload_n hX dX7_read_1 rfl 2 rfl ?_
  refine z_callSI (n := 2) hX (c_X7_isSheet M.2.1 V hX.2.2.2.2.2 hs x1 x2 σ) gX7_read_X7_isSheet rfl (by decide +kernel) ⟨by decide, by decide⟩ rfl rfl rfl rfl (Nat.le_of_ble_eq_true rfl) dX7_read_2 (fun r1 _ => ?_)
  refine z_if_eq (tgt := 21) hX dX7_read_5 (by decide) ?_ ?_
  · refine z_iconst (v := -1) hX dX7_read_21 (by decide) ?_
    exact z_iret hX dX7_read_22
  · refine z_iload hX dX7_read_8 4 rfl ?_
    refine z_i2l hX dX7_read_10 ?_
    refine z_lconst (v := 0) hX dX7_read_11 (by decide) ?_
    refine z_ldc2 (v := 20) hX lk_X7_read_c242 dX7_read_12 ?_
    refine z_callSI (n := 3) hX (c_X7_in M.2.1 V hX.2.2.2.2.2 hs x4.toInt64 (0 : Int64) (20 : Int64) r1.2) gX7_read_X7_in rfl (by decide +kernel) ⟨by decide, by decide⟩ rfl rfl rfl rfl (Nat.le_of_ble_eq_true rfl) dX7_read_15 (fun r2 _ => ?_)
    refine z_if_ne (tgt := 23) hX dX7_read_18 (by decide) ?_ ?_
    · refine z_iconst (v := 0) hX dX7_read_23 (by decide) ?_
      refine z_istore (lv' := [(5, .int (0 : Int32)), (0, .ref (z_ad V 0)), (1, .int x1), (2, .int x2), (3, .int x3), (4, .int x4)]) hX dX7_read_24 (by decide) rfl ?_
      refine z_sub [1, 2, 3, 4, 5, 0] rfl ?_
      exact w_X7_read_26 M V hs hX 200 x1 x2 x3 x4 (0 : Int32) r2.2
    · refine z_iconst (v := -1) hX dX7_read_21 (by decide) ?_
      exact z_iret hX dX7_read_22

abbrev rm_X7_torn : Room := { frames := 0, cells := 0, slots := 0, locals := 0 }
theorem in_X7_torn_X7 : ∀ w ∈ wsX70, w ∈ wsX7_torn := fun w h => List.mem_cons_of_mem _ (List.mem_append_right _ h)
theorem lk_X7_torn_f288 : Cond.fieldLink RX7 288 (TX7 37).1 (TX7 37).2.1 (TX7 37).2.2.1 ∈ wsX7_torn := by decide +kernel
set_option maxHeartbeats 4000000 in
set_option maxRecDepth 100000 in
theorem c_X7_torn (l : Launch) (V : z_V) (hV : z_ok V) (hs : z_isM V) (σ : z_St) : z_CtI l V yX7_torn wsX7_torn rm_X7_torn [.ref (z_ad V 0)] σ (f_X7_torn σ) := by
  refine z_startI (lv := [(0, .ref (z_ad V 0))]) hV (by decide) rfl (Nat.le_of_ble_eq_true rfl) rfl ?_
  intro M hM hX
  have hX : z_Cx M V cX7_torn 1 (some .int) wsX7_torn RX7 := hX
  unfold f_X7_torn
  refine z_aload_n hX dX7_torn_0 rfl 0 rfl ?_
  refine z_getI (k := 37) hX (z_mod0 hs) rfl rfl in_X7_torn_X7 (by decide) lk_X7_torn_f288 dX7_torn_1 ?_
  exact z_iret hX dX7_torn_4

abbrev rm_X7_count : Room := { frames := 2, cells := 0, slots := 0, locals := 45 }
theorem in_X7_count_X7 : ∀ w ∈ wsX70, w ∈ wsX7_count := fun w h => List.mem_cons_of_mem _ (List.mem_append_right _ h)
theorem lk_X7_count_f7 : Cond.fieldLink RX7 7 (TX7 0).1 (TX7 0).2.1 (TX7 0).2.2.1 ∈ wsX7_count := by decide +kernel
theorem lk_X7_count_f16 : Cond.fieldLink RX7 16 (TX7 2).1 (TX7 2).2.1 (TX7 2).2.2.1 ∈ wsX7_count := by decide +kernel
theorem lk_X7_count_f114 : Cond.fieldLink RX7 114 (TX7 25).1 (TX7 25).2.1 (TX7 25).2.2.1 ∈ wsX7_count := by decide +kernel
theorem lk_X7_count_f65 : Cond.fieldLink RX7 65 (TX7 34).1 (TX7 34).2.1 (TX7 34).2.2.1 ∈ wsX7_count := by decide +kernel
theorem lk_X7_count_f68 : Cond.fieldLink RX7 68 (TX7 35).1 (TX7 35).2.1 (TX7 35).2.2.1 ∈ wsX7_count := by decide +kernel
set_option maxHeartbeats 4000000 in
set_option maxRecDepth 100000 in
theorem c_X7_count (l : Launch) (V : z_V) (hV : z_ok V) (hs : z_isM V) (x1 : Int32) (σ : z_St) : z_CtI l V yX7_count wsX7_count rm_X7_count [.ref (z_ad V 0), .int x1] σ (f_X7_count x1 σ) := by
  refine z_startI (lv := [(0, .ref (z_ad V 0)), (1, .int x1)]) hV (by decide) rfl (Nat.le_of_ble_eq_true rfl) rfl ?_
  intro M hM hX
  have hX : z_Cx M V cX7_count 2 (some .int) wsX7_count RX7 := hX
  unfold f_X7_count
  refine z_aload_n hX dX7_count_0 rfl 0 rfl ?_
  refine z_callVV (n := 0) hX (c_X7_starts M.2.1 V hX.2.2.2.2.2 hs σ) gX7_count_X7_starts rfl (by decide +kernel) ⟨by decide, by decide⟩ rfl rfl (z_mod0 hs) rfl rfl rfl rfl (Nat.le_of_ble_eq_true rfl) dX7_count_1 (fun r1 _ => ?_)
  refine z_iload_n hX dX7_count_4 rfl 1 rfl ?_
  refine z_case (fun h2 => ?_) (fun h2 => ?_)
  · refine z_tabIn (tgt := 44) hX dX7_count_5 (0 : Int32) h2 (by decide) (by decide) rfl (by decide) ?_
    refine z_aload_n hX dX7_count_44 rfl 0 rfl ?_
    refine z_iconst (v := 1) hX dX7_count_45 (by decide) ?_
    refine z_callVI (n := 1) hX (c_X7_allOf M.2.1 V hX.2.2.2.2.2 hs (1 : Int32) r1.2) gX7_count_X7_allOf rfl (by decide +kernel) ⟨by decide, by decide⟩ rfl rfl (z_mod0 hs) rfl rfl rfl rfl (Nat.le_of_ble_eq_true rfl) dX7_count_46 (fun r3 _ => ?_)
    exact z_iret hX dX7_count_49
  · skip
    refine z_case (fun h4 => ?_) (fun h4 => ?_)
    · refine z_tabIn (tgt := 50) hX dX7_count_5 (1 : Int32) h4 (by decide) (by decide) rfl (by decide) ?_
      refine z_aload_n hX dX7_count_50 rfl 0 rfl ?_
      refine z_iconst (v := 2) hX dX7_count_51 (by decide) ?_
      refine z_callVI (n := 1) hX (c_X7_allOf M.2.1 V hX.2.2.2.2.2 hs (2 : Int32) r1.2) gX7_count_X7_allOf rfl (by decide +kernel) ⟨by decide, by decide⟩ rfl rfl (z_mod0 hs) rfl rfl rfl rfl (Nat.le_of_ble_eq_true rfl) dX7_count_52 (fun r5 _ => ?_)
      exact z_iret hX dX7_count_55
    · skip
      refine z_case (fun h6 => ?_) (fun h6 => ?_)
      · refine z_tabIn (tgt := 56) hX dX7_count_5 (2 : Int32) h6 (by decide) (by decide) rfl (by decide) ?_
        refine z_aload_n hX dX7_count_56 rfl 0 rfl ?_
        refine z_getR (k := 0) hX (z_mod0 hs) rfl rfl in_X7_count_X7 (by decide) lk_X7_count_f7 dX7_count_57 ?_
        refine z_bipush (v := 26) hX dX7_count_60 (by decide) ?_
        refine z_ialdc (j := 26) hX (z_mod1 hs) (by decide) dX7_count_62 ?_
        exact z_iret hX dX7_count_63
      · skip
        refine z_case (fun h7 => ?_) (fun h7 => ?_)
        · refine z_tabIn (tgt := 64) hX dX7_count_5 (3 : Int32) h7 (by decide) (by decide) rfl (by decide) ?_
          refine z_aload_n hX dX7_count_64 rfl 0 rfl ?_
          refine z_getR (k := 2) hX (z_mod0 hs) rfl rfl in_X7_count_X7 (by decide) lk_X7_count_f16 dX7_count_65 ?_
          refine z_iconst (v := 0) hX dX7_count_68 (by decide) ?_
          refine z_zaldc (j := 0) hX (z_mod3 hs) (by decide) dX7_count_69 ?_
          refine z_callSI (n := 1) hX (c_X7_flag M.2.1 V hX.2.2.2.2.2 hs (r1.2 3 0) r1.2) gX7_count_X7_flag rfl (by decide +kernel) ⟨by decide, by decide⟩ rfl rfl rfl rfl (Nat.le_of_ble_eq_true rfl) dX7_count_70 (fun r8 _ => ?_)
          refine z_aload_n hX dX7_count_73 rfl 0 rfl ?_
          refine z_getR (k := 2) hX (z_mod0 hs) rfl rfl in_X7_count_X7 (by decide) lk_X7_count_f16 dX7_count_74 ?_
          refine z_iconst (v := 1) hX dX7_count_77 (by decide) ?_
          refine z_zaldc (j := 1) hX (z_mod3 hs) (by decide) dX7_count_78 ?_
          refine z_callSI (n := 1) hX (c_X7_flag M.2.1 V hX.2.2.2.2.2 hs (r8.2 3 1) r8.2) gX7_count_X7_flag rfl (by decide +kernel) ⟨by decide, by decide⟩ rfl rfl rfl rfl (Nat.le_of_ble_eq_true rfl) dX7_count_79 (fun r9 _ => ?_)
          refine z_iadd hX dX7_count_82 ?_
          exact z_iret hX dX7_count_83
        · skip
          refine z_case (fun h10 => ?_) (fun h10 => ?_)
          · refine z_tabIn (tgt := 84) hX dX7_count_5 (4 : Int32) h10 (by decide) (by decide) rfl (by decide) ?_
            refine z_aload_n hX dX7_count_84 rfl 0 rfl ?_
            refine z_getI (k := 25) hX (z_mod0 hs) rfl rfl in_X7_count_X7 (by decide) lk_X7_count_f114 dX7_count_85 ?_
            exact z_iret hX dX7_count_88
          · skip
            refine z_case (fun h11 => ?_) (fun h11 => ?_)
            · refine z_tabIn (tgt := 89) hX dX7_count_5 (5 : Int32) h11 (by decide) (by decide) rfl (by decide) ?_
              refine z_aload_n hX dX7_count_89 rfl 0 rfl ?_
              refine z_getR (k := 34) hX (z_mod0 hs) rfl rfl in_X7_count_X7 (by decide) lk_X7_count_f65 dX7_count_90 ?_
              refine z_iconst (v := 0) hX dX7_count_93 (by decide) ?_
              refine z_ialdc (j := 0) hX (z_mod19 hs) (by decide) dX7_count_94 ?_
              refine z_bipush (v := -4) hX dX7_count_95 (by decide) ?_
              refine z_icmp_ne (tgt := 105) hX dX7_count_97 (by decide) ?_ ?_
              · refine z_aload_n hX dX7_count_105 rfl 0 rfl ?_
                refine z_getR (k := 35) hX (z_mod0 hs) rfl rfl in_X7_count_X7 (by decide) lk_X7_count_f68 dX7_count_106 ?_
                refine z_iconst (v := 0) hX dX7_count_109 (by decide) ?_
                refine z_ialdc (j := 0) hX (z_mod20 hs) (by decide) dX7_count_110 ?_
                exact z_iret hX dX7_count_111
              · refine z_bipush (v := -4) hX dX7_count_100 (by decide) ?_
                refine z_goto (tgt := 111) hX dX7_count_102 (by decide) ?_
                exact z_iret hX dX7_count_111
            · skip
              refine z_tabOut (tgt := 112) hX dX7_count_5 (by have qh2 := lv_neT (a := 0) h2 (by decide); have qh4 := lv_neT (a := 1) h4 (by decide); have qh6 := lv_neT (a := 2) h6 (by decide); have qh7 := lv_neT (a := 3) h7 (by decide); have qh10 := lv_neT (a := 4) h10 (by decide); have qh11 := lv_neT (a := 5) h11 (by decide); omega) (by decide) ?_
              refine z_iconst (v := -1) hX dX7_count_112 (by decide) ?_
              exact z_iret hX dX7_count_113
