abbrev rm_X7_in : Room := { frames := 0, cells := 0, slots := 0, locals := 0 }
set_option maxHeartbeats 4000000 in
set_option maxRecDepth 100000 in
theorem c_X7_in (l : Launch) (V : z_V) (hV : z_ok V) (hs : z_isM V) (x0 : Int64) (x2 : Int64) (x4 : Int64) (σ : z_St) : z_CtI l V yX7_in wsX7_in rm_X7_in [.long x0, .long x2, .long x4] σ (f_X7_in x0 x2 x4 σ) := by
  refine z_startI (lv := [(0, .long x0), (2, .long x2), (4, .long x4)]) hV (by decide) rfl (Nat.le_of_ble_eq_true rfl) rfl ?_
  intro M hM hX
  have hX : z_Cx M V cX7_in 6 (some .boolean) wsX7_in RX7 := hX
  unfold f_X7_in
  refine z_lload_n hX dX7_in_0 rfl 0 rfl ?_
  refine z_lload_n hX dX7_in_1 rfl 1 rfl ?_
  refine z_lcmp hX dX7_in_2 ?_
  refine z_if_lt (tgt := 17) hX dX7_in_3 (by decide) ?_ ?_
  · refine z_iconst (v := 0) hX dX7_in_17 (by decide) ?_
    exact z_zret hX dX7_in_18 rfl
  · refine z_lload_n hX dX7_in_6 rfl 0 rfl ?_
    refine z_lload hX dX7_in_7 2 rfl ?_
    refine z_lcmp hX dX7_in_9 ?_
    refine z_if_gt (tgt := 17) hX dX7_in_10 (by decide) ?_ ?_
    · refine z_iconst (v := 0) hX dX7_in_17 (by decide) ?_
      exact z_zret hX dX7_in_18 rfl
    · refine z_iconst (v := 1) hX dX7_in_13 (by decide) ?_
      refine z_goto (tgt := 18) hX dX7_in_14 (by decide) ?_
      exact z_zret hX dX7_in_18 rfl

abbrev rm_X7_flag : Room := { frames := 0, cells := 0, slots := 0, locals := 0 }
set_option maxHeartbeats 4000000 in
set_option maxRecDepth 100000 in
theorem c_X7_flag (l : Launch) (V : z_V) (hV : z_ok V) (hs : z_isM V) (x0 : Int32) (σ : z_St) : z_CtI l V yX7_flag wsX7_flag rm_X7_flag [.int x0] σ (f_X7_flag x0 σ) := by
  refine z_startI (lv := [(0, .int x0)]) hV (by decide) rfl (Nat.le_of_ble_eq_true rfl) rfl ?_
  intro M hM hX
  have hX : z_Cx M V cX7_flag 1 (some .int) wsX7_flag RX7 := hX
  unfold f_X7_flag
  refine z_iload_n hX dX7_flag_0 rfl 0 rfl ?_
  refine z_if_eq (tgt := 8) hX dX7_flag_1 (by decide) ?_ ?_
  · refine z_iconst (v := 0) hX dX7_flag_8 (by decide) ?_
    exact z_iret hX dX7_flag_9
  · refine z_iconst (v := 1) hX dX7_flag_4 (by decide) ?_
    refine z_goto (tgt := 9) hX dX7_flag_5 (by decide) ?_
    exact z_iret hX dX7_flag_9

abbrev rm_X7_firstDraft : Room := { frames := 0, cells := 0, slots := 0, locals := 0 }
theorem in_X7_firstDraft_X7 : ∀ w ∈ wsX70, w ∈ wsX7_firstDraft := fun w h => List.mem_cons_of_mem _ (List.mem_append_right _ h)
theorem lk_X7_firstDraft_f38 : Cond.fieldLink RX7 38 (TX7 12).1 (TX7 12).2.1 (TX7 12).2.2.1 ∈ wsX7_firstDraft := by decide +kernel
theorem lk_X7_firstDraft_f83 : Cond.fieldLink RX7 83 (TX7 13).1 (TX7 13).2.1 (TX7 13).2.2.1 ∈ wsX7_firstDraft := by decide +kernel
theorem lk_X7_firstDraft_f87 : Cond.fieldLink RX7 87 (TX7 14).1 (TX7 14).2.1 (TX7 14).2.2.1 ∈ wsX7_firstDraft := by decide +kernel
theorem lk_X7_firstDraft_f90 : Cond.fieldLink RX7 90 (TX7 15).1 (TX7 15).2.1 (TX7 15).2.2.1 ∈ wsX7_firstDraft := by decide +kernel
theorem lk_X7_firstDraft_f93 : Cond.fieldLink RX7 93 (TX7 22).1 (TX7 22).2.1 (TX7 22).2.2.1 ∈ wsX7_firstDraft := by decide +kernel
theorem lk_X7_firstDraft_f96 : Cond.fieldLink RX7 96 (TX7 23).1 (TX7 23).2.1 (TX7 23).2.2.1 ∈ wsX7_firstDraft := by decide +kernel
set_option maxHeartbeats 4000000 in
set_option maxRecDepth 100000 in
theorem w_X7_firstDraft_2 (M : z_M) (V : z_V) (hs : z_isM V) (hX : z_Cx M V cX7_firstDraft 2 none wsX7_firstDraft RX7) : ∀ (n : Nat) (x1 : Int32) (σ : z_St), z_Go M rm_X7_firstDraft 2 V (z_QV V) σ 2 [(0, .ref (z_ad V 0)), (1, .int x1)] [] (f_X7_firstDraft_2 n x1 σ) := by
  intro n
  induction n with
  | zero => intro x1 σ; exact z_none
  | succ n ih =>
    intro x1 σ
    rw [f_X7_firstDraft_2]
    refine z_iload_n hX dX7_firstDraft_2 rfl 1 rfl ?_
    refine z_bipush (v := 45) hX dX7_firstDraft_3 (by decide) ?_
    refine z_icmp_ge (tgt := 21) hX dX7_firstDraft_5 (by decide) ?_ ?_
    · refine z_aload_n hX dX7_firstDraft_21 rfl 0 rfl ?_
      refine z_getR (k := 12) hX (z_mod0 hs) rfl rfl in_X7_firstDraft_X7 (by decide) lk_X7_firstDraft_f38 dX7_firstDraft_22 ?_
      refine z_bipush (v := 23) hX dX7_firstDraft_25 (by decide) ?_
      refine z_iconst (v := 1) hX dX7_firstDraft_27 (by decide) ?_
      refine z_iastc (j := 23) hX (z_mod10 hs) (by decide) dX7_firstDraft_28 (z_bs fun s1 => ?_)
      refine z_aload_n hX dX7_firstDraft_29 rfl 0 rfl ?_
      refine z_getR (k := 12) hX (z_mod0 hs) rfl rfl in_X7_firstDraft_X7 (by decide) lk_X7_firstDraft_f38 dX7_firstDraft_30 ?_
      refine z_bipush (v := 24) hX dX7_firstDraft_33 (by decide) ?_
      refine z_bipush (v := 20) hX dX7_firstDraft_35 (by decide) ?_
      refine z_iastc (j := 24) hX (z_mod10 hs) (by decide) dX7_firstDraft_37 (z_bs fun s2 => ?_)
      refine z_aload_n hX dX7_firstDraft_38 rfl 0 rfl ?_
      refine z_iconst (v := 0) hX dX7_firstDraft_39 (by decide) ?_
      refine z_put1 (k := 13) hX (z_mod0 hs) rfl rfl in_X7_firstDraft_X7 (by decide) lk_X7_firstDraft_f83 tyX7 tyX7_ok nmX7 rfl rfl rfl dX7_firstDraft_40 (z_bs fun s3 => ?_)
      refine z_aload_n hX dX7_firstDraft_43 rfl 0 rfl ?_
      refine z_iconst (v := 0) hX dX7_firstDraft_44 (by decide) ?_
      refine z_put1 (k := 14) hX (z_mod0 hs) rfl rfl in_X7_firstDraft_X7 (by decide) lk_X7_firstDraft_f87 tyX7 tyX7_ok nmX7 rfl rfl rfl dX7_firstDraft_45 (z_bs fun s4 => ?_)
      refine z_aload_n hX dX7_firstDraft_48 rfl 0 rfl ?_
      refine z_iconst (v := 0) hX dX7_firstDraft_49 (by decide) ?_
      refine z_put1 (k := 15) hX (z_mod0 hs) rfl rfl in_X7_firstDraft_X7 (by decide) lk_X7_firstDraft_f90 tyX7 tyX7_ok nmX7 rfl rfl rfl dX7_firstDraft_50 (z_bs fun s5 => ?_)
      refine z_aload_n hX dX7_firstDraft_53 rfl 0 rfl ?_
      refine z_iconst (v := 0) hX dX7_firstDraft_54 (by decide) ?_
      refine z_put1 (k := 22) hX (z_mod0 hs) rfl rfl in_X7_firstDraft_X7 (by decide) lk_X7_firstDraft_f93 tyX7 tyX7_ok nmX7 rfl rfl rfl dX7_firstDraft_55 (z_bs fun s6 => ?_)
      refine z_aload_n hX dX7_firstDraft_58 rfl 0 rfl ?_
      refine z_bipush (v := -4) hX dX7_firstDraft_59 (by decide) ?_
      refine z_put1 (k := 23) hX (z_mod0 hs) rfl rfl in_X7_firstDraft_X7 (by decide) lk_X7_firstDraft_f96 tyX7 tyX7_ok nmX7 rfl rfl rfl dX7_firstDraft_61 (z_bs fun s7 => ?_)
      exact z_vret hX dX7_firstDraft_64
    · refine z_aload_n hX dX7_firstDraft_8 rfl 0 rfl ?_
      refine z_getR (k := 12) hX (z_mod0 hs) rfl rfl in_X7_firstDraft_X7 (by decide) lk_X7_firstDraft_f38 dX7_firstDraft_9 ?_
      refine z_iload_n hX dX7_firstDraft_12 rfl 1 rfl ?_
      refine z_iconst (v := 0) hX dX7_firstDraft_13 (by decide) ?_
      refine z_iast hX (z_mod10 hs) dX7_firstDraft_14 (z_bs fun s8 => ?_)
      refine z_iinc (v := (x1 + 1)) (lv' := [(1, .int (x1 + 1)), (0, .ref (z_ad V 0))]) hX dX7_firstDraft_15 1 rfl rfl (by decide) rfl ?_
      refine z_goto (tgt := 2) hX dX7_firstDraft_18 (by decide) ?_
      refine z_sub [1, 0] rfl ?_
      exact ih (x1 + 1) s8
set_option maxHeartbeats 4000000 in
set_option maxRecDepth 100000 in
theorem c_X7_firstDraft (l : Launch) (V : z_V) (hV : z_ok V) (hs : z_isM V) (σ : z_St) : z_CtV l V yX7_firstDraft wsX7_firstDraft rm_X7_firstDraft [.ref (z_ad V 0)] σ (f_X7_firstDraft σ) := by
  refine z_startV (lv := [(0, .ref (z_ad V 0))]) hV (by decide) rfl (Nat.le_of_ble_eq_true rfl) rfl ?_
  intro M hM hX
  have hX : z_Cx M V cX7_firstDraft 2 none wsX7_firstDraft RX7 := hX
  unfold f_X7_firstDraft
  refine z_iconst (v := 0) hX dX7_firstDraft_0 (by decide) ?_
  refine z_istore_n (lv' := [(1, .int (0 : Int32)), (0, .ref (z_ad V 0))]) hX dX7_firstDraft_1 rfl (by decide) rfl ?_
  refine z_sub [1, 0] rfl ?_
  exact w_X7_firstDraft_2 M V hs hX 200 (0 : Int32) σ

abbrev rm_X7_keepDraft : Room := { frames := 0, cells := 0, slots := 0, locals := 0 }
theorem in_X7_keepDraft_X7 : ∀ w ∈ wsX70, w ∈ wsX7_keepDraft := fun w h => List.mem_cons_of_mem _ (List.mem_append_right _ h)
theorem lk_X7_keepDraft_f83 : Cond.fieldLink RX7 83 (TX7 13).1 (TX7 13).2.1 (TX7 13).2.2.1 ∈ wsX7_keepDraft := by decide +kernel
theorem lk_X7_keepDraft_f99 : Cond.fieldLink RX7 99 (TX7 3).1 (TX7 3).2.1 (TX7 3).2.2.1 ∈ wsX7_keepDraft := by decide +kernel
theorem lk_X7_keepDraft_f87 : Cond.fieldLink RX7 87 (TX7 14).1 (TX7 14).2.1 (TX7 14).2.2.1 ∈ wsX7_keepDraft := by decide +kernel
theorem lk_X7_keepDraft_f102 : Cond.fieldLink RX7 102 (TX7 4).1 (TX7 4).2.1 (TX7 4).2.2.1 ∈ wsX7_keepDraft := by decide +kernel
theorem lk_X7_keepDraft_f90 : Cond.fieldLink RX7 90 (TX7 15).1 (TX7 15).2.1 (TX7 15).2.2.1 ∈ wsX7_keepDraft := by decide +kernel
theorem lk_X7_keepDraft_f105 : Cond.fieldLink RX7 105 (TX7 5).1 (TX7 5).2.1 (TX7 5).2.2.1 ∈ wsX7_keepDraft := by decide +kernel
theorem lk_X7_keepDraft_f16 : Cond.fieldLink RX7 16 (TX7 2).1 (TX7 2).2.1 (TX7 2).2.2.1 ∈ wsX7_keepDraft := by decide +kernel
theorem lk_X7_keepDraft_f29 : Cond.fieldLink RX7 29 (TX7 9).1 (TX7 9).2.1 (TX7 9).2.2.1 ∈ wsX7_keepDraft := by decide +kernel
theorem lk_X7_keepDraft_f50 : Cond.fieldLink RX7 50 (TX7 19).1 (TX7 19).2.1 (TX7 19).2.2.1 ∈ wsX7_keepDraft := by decide +kernel
theorem lk_X7_keepDraft_f32 : Cond.fieldLink RX7 32 (TX7 10).1 (TX7 10).2.1 (TX7 10).2.2.1 ∈ wsX7_keepDraft := by decide +kernel
theorem lk_X7_keepDraft_f53 : Cond.fieldLink RX7 53 (TX7 20).1 (TX7 20).2.1 (TX7 20).2.2.1 ∈ wsX7_keepDraft := by decide +kernel
theorem lk_X7_keepDraft_f35 : Cond.fieldLink RX7 35 (TX7 11).1 (TX7 11).2.1 (TX7 11).2.2.1 ∈ wsX7_keepDraft := by decide +kernel
theorem lk_X7_keepDraft_f56 : Cond.fieldLink RX7 56 (TX7 21).1 (TX7 21).2.1 (TX7 21).2.2.1 ∈ wsX7_keepDraft := by decide +kernel
theorem lk_X7_keepDraft_f20 : Cond.fieldLink RX7 20 (TX7 6).1 (TX7 6).2.1 (TX7 6).2.2.1 ∈ wsX7_keepDraft := by decide +kernel
theorem lk_X7_keepDraft_f41 : Cond.fieldLink RX7 41 (TX7 16).1 (TX7 16).2.1 (TX7 16).2.2.1 ∈ wsX7_keepDraft := by decide +kernel
theorem lk_X7_keepDraft_f23 : Cond.fieldLink RX7 23 (TX7 7).1 (TX7 7).2.1 (TX7 7).2.2.1 ∈ wsX7_keepDraft := by decide +kernel
theorem lk_X7_keepDraft_f44 : Cond.fieldLink RX7 44 (TX7 17).1 (TX7 17).2.1 (TX7 17).2.2.1 ∈ wsX7_keepDraft := by decide +kernel
theorem lk_X7_keepDraft_f26 : Cond.fieldLink RX7 26 (TX7 8).1 (TX7 8).2.1 (TX7 8).2.2.1 ∈ wsX7_keepDraft := by decide +kernel
theorem lk_X7_keepDraft_f47 : Cond.fieldLink RX7 47 (TX7 18).1 (TX7 18).2.1 (TX7 18).2.2.1 ∈ wsX7_keepDraft := by decide +kernel
theorem lk_X7_keepDraft_f7 : Cond.fieldLink RX7 7 (TX7 0).1 (TX7 0).2.1 (TX7 0).2.2.1 ∈ wsX7_keepDraft := by decide +kernel
theorem lk_X7_keepDraft_f38 : Cond.fieldLink RX7 38 (TX7 12).1 (TX7 12).2.1 (TX7 12).2.2.1 ∈ wsX7_keepDraft := by decide +kernel
set_option maxHeartbeats 4000000 in
set_option maxRecDepth 100000 in
theorem w_X7_keepDraft_104 (M : z_M) (V : z_V) (hs : z_isM V) (hX : z_Cx M V cX7_keepDraft 2 none wsX7_keepDraft RX7) : ∀ (n : Nat) (x1 : Int32) (σ : z_St), z_Go M rm_X7_keepDraft 2 V (z_QV V) σ 104 [(0, .ref (z_ad V 0)), (1, .int x1)] [] (f_X7_keepDraft_104 n x1 σ) := by
  intro n
  induction n with
  | zero => intro x1 σ; exact z_none
  | succ n ih =>
    intro x1 σ
    rw [f_X7_keepDraft_104]
    refine z_iload_n hX dX7_keepDraft_104 rfl 1 rfl ?_
    refine z_aload_n hX dX7_keepDraft_105 rfl 0 rfl ?_
    refine z_getI (k := 5) hX (z_mod0 hs) rfl rfl in_X7_keepDraft_X7 (by decide) lk_X7_keepDraft_f105 dX7_keepDraft_106 ?_
    refine z_icmp_ge (tgt := 154) hX dX7_keepDraft_109 (by decide) ?_ ?_
    · refine z_aload_n hX dX7_keepDraft_154 rfl 0 rfl ?_
      refine z_getR (k := 2) hX (z_mod0 hs) rfl rfl in_X7_keepDraft_X7 (by decide) lk_X7_keepDraft_f16 dX7_keepDraft_155 ?_
      refine z_iconst (v := 0) hX dX7_keepDraft_158 (by decide) ?_
      refine z_iconst (v := 0) hX dX7_keepDraft_159 (by decide) ?_
      refine z_zastc (j := 0) hX (z_mod3 hs) (by decide) dX7_keepDraft_160 (z_bs fun s4 => ?_)
      refine z_aload_n hX dX7_keepDraft_161 rfl 0 rfl ?_
      refine z_getR (k := 2) hX (z_mod0 hs) rfl rfl in_X7_keepDraft_X7 (by decide) lk_X7_keepDraft_f16 dX7_keepDraft_162 ?_
      refine z_iconst (v := 1) hX dX7_keepDraft_165 (by decide) ?_
      refine z_iconst (v := 0) hX dX7_keepDraft_166 (by decide) ?_
      refine z_zastc (j := 1) hX (z_mod3 hs) (by decide) dX7_keepDraft_167 (z_bs fun s5 => ?_)
      exact z_vret hX dX7_keepDraft_168
    · refine z_aload_n hX dX7_keepDraft_112 rfl 0 rfl ?_
      refine z_getR (k := 9) hX (z_mod0 hs) rfl rfl in_X7_keepDraft_X7 (by decide) lk_X7_keepDraft_f29 dX7_keepDraft_113 ?_
      refine z_iload_n hX dX7_keepDraft_116 rfl 1 rfl ?_
      refine z_aload_n hX dX7_keepDraft_117 rfl 0 rfl ?_
      refine z_getR (k := 19) hX (z_mod0 hs) rfl rfl in_X7_keepDraft_X7 (by decide) lk_X7_keepDraft_f50 dX7_keepDraft_118 ?_
      refine z_iload_n hX dX7_keepDraft_121 rfl 1 rfl ?_
      refine z_iald hX (z_mod14 hs) dX7_keepDraft_122 ?_
      refine z_iast hX (z_mod7 hs) dX7_keepDraft_123 (z_bs fun s6 => ?_)
      refine z_aload_n hX dX7_keepDraft_124 rfl 0 rfl ?_
      refine z_getR (k := 10) hX (z_mod0 hs) rfl rfl in_X7_keepDraft_X7 (by decide) lk_X7_keepDraft_f32 dX7_keepDraft_125 ?_
      refine z_iload_n hX dX7_keepDraft_128 rfl 1 rfl ?_
      refine z_aload_n hX dX7_keepDraft_129 rfl 0 rfl ?_
      refine z_getR (k := 20) hX (z_mod0 hs) rfl rfl in_X7_keepDraft_X7 (by decide) lk_X7_keepDraft_f53 dX7_keepDraft_130 ?_
      refine z_iload_n hX dX7_keepDraft_133 rfl 1 rfl ?_
      refine z_iald hX (z_mod15 hs) dX7_keepDraft_134 ?_
      refine z_iast hX (z_mod8 hs) dX7_keepDraft_135 (z_bs fun s7 => ?_)
      refine z_aload_n hX dX7_keepDraft_136 rfl 0 rfl ?_
      refine z_getR (k := 11) hX (z_mod0 hs) rfl rfl in_X7_keepDraft_X7 (by decide) lk_X7_keepDraft_f35 dX7_keepDraft_137 ?_
      refine z_iload_n hX dX7_keepDraft_140 rfl 1 rfl ?_
      refine z_aload_n hX dX7_keepDraft_141 rfl 0 rfl ?_
      refine z_getR (k := 21) hX (z_mod0 hs) rfl rfl in_X7_keepDraft_X7 (by decide) lk_X7_keepDraft_f56 dX7_keepDraft_142 ?_
      refine z_iload_n hX dX7_keepDraft_145 rfl 1 rfl ?_
      refine z_iald hX (z_mod16 hs) dX7_keepDraft_146 ?_
      refine z_iast hX (z_mod9 hs) dX7_keepDraft_147 (z_bs fun s8 => ?_)
      refine z_iinc (v := (x1 + 1)) (lv' := [(1, .int (x1 + 1)), (0, .ref (z_ad V 0))]) hX dX7_keepDraft_148 1 rfl rfl (by decide) rfl ?_
      refine z_goto (tgt := 104) hX dX7_keepDraft_151 (by decide) ?_
      refine z_sub [1, 0] rfl ?_
      exact ih (x1 + 1) s8
set_option maxHeartbeats 4000000 in
set_option maxRecDepth 100000 in
theorem w_X7_keepDraft_52 (M : z_M) (V : z_V) (hs : z_isM V) (hX : z_Cx M V cX7_keepDraft 2 none wsX7_keepDraft RX7) : ∀ (n : Nat) (x1 : Int32) (σ : z_St), z_Go M rm_X7_keepDraft 2 V (z_QV V) σ 52 [(0, .ref (z_ad V 0)), (1, .int x1)] [] (f_X7_keepDraft_52 n x1 σ) := by
  intro n
  induction n with
  | zero => intro x1 σ; exact z_none
  | succ n ih =>
    intro x1 σ
    rw [f_X7_keepDraft_52]
    refine z_iload_n hX dX7_keepDraft_52 rfl 1 rfl ?_
    refine z_aload_n hX dX7_keepDraft_53 rfl 0 rfl ?_
    refine z_getI (k := 4) hX (z_mod0 hs) rfl rfl in_X7_keepDraft_X7 (by decide) lk_X7_keepDraft_f102 dX7_keepDraft_54 ?_
    refine z_icmp_ge (tgt := 102) hX dX7_keepDraft_57 (by decide) ?_ ?_
    · refine z_iconst (v := 0) hX dX7_keepDraft_102 (by decide) ?_
      refine z_istore_n (lv' := [(1, .int (0 : Int32)), (0, .ref (z_ad V 0))]) hX dX7_keepDraft_103 rfl (by decide) rfl ?_
      refine z_sub [1, 0] rfl ?_
      exact w_X7_keepDraft_104 M V hs hX 200 (0 : Int32) σ
    · refine z_aload_n hX dX7_keepDraft_60 rfl 0 rfl ?_
      refine z_getR (k := 6) hX (z_mod0 hs) rfl rfl in_X7_keepDraft_X7 (by decide) lk_X7_keepDraft_f20 dX7_keepDraft_61 ?_
      refine z_iload_n hX dX7_keepDraft_64 rfl 1 rfl ?_
      refine z_aload_n hX dX7_keepDraft_65 rfl 0 rfl ?_
      refine z_getR (k := 16) hX (z_mod0 hs) rfl rfl in_X7_keepDraft_X7 (by decide) lk_X7_keepDraft_f41 dX7_keepDraft_66 ?_
      refine z_iload_n hX dX7_keepDraft_69 rfl 1 rfl ?_
      refine z_iald hX (z_mod11 hs) dX7_keepDraft_70 ?_
      refine z_iast hX (z_mod4 hs) dX7_keepDraft_71 (z_bs fun s9 => ?_)
      refine z_aload_n hX dX7_keepDraft_72 rfl 0 rfl ?_
      refine z_getR (k := 7) hX (z_mod0 hs) rfl rfl in_X7_keepDraft_X7 (by decide) lk_X7_keepDraft_f23 dX7_keepDraft_73 ?_
      refine z_iload_n hX dX7_keepDraft_76 rfl 1 rfl ?_
      refine z_aload_n hX dX7_keepDraft_77 rfl 0 rfl ?_
      refine z_getR (k := 17) hX (z_mod0 hs) rfl rfl in_X7_keepDraft_X7 (by decide) lk_X7_keepDraft_f44 dX7_keepDraft_78 ?_
      refine z_iload_n hX dX7_keepDraft_81 rfl 1 rfl ?_
      refine z_iald hX (z_mod12 hs) dX7_keepDraft_82 ?_
      refine z_iast hX (z_mod5 hs) dX7_keepDraft_83 (z_bs fun s10 => ?_)
      refine z_aload_n hX dX7_keepDraft_84 rfl 0 rfl ?_
      refine z_getR (k := 8) hX (z_mod0 hs) rfl rfl in_X7_keepDraft_X7 (by decide) lk_X7_keepDraft_f26 dX7_keepDraft_85 ?_
      refine z_iload_n hX dX7_keepDraft_88 rfl 1 rfl ?_
      refine z_aload_n hX dX7_keepDraft_89 rfl 0 rfl ?_
      refine z_getR (k := 18) hX (z_mod0 hs) rfl rfl in_X7_keepDraft_X7 (by decide) lk_X7_keepDraft_f47 dX7_keepDraft_90 ?_
      refine z_iload_n hX dX7_keepDraft_93 rfl 1 rfl ?_
      refine z_iald hX (z_mod13 hs) dX7_keepDraft_94 ?_
      refine z_iast hX (z_mod6 hs) dX7_keepDraft_95 (z_bs fun s11 => ?_)
      refine z_iinc (v := (x1 + 1)) (lv' := [(1, .int (x1 + 1)), (0, .ref (z_ad V 0))]) hX dX7_keepDraft_96 1 rfl rfl (by decide) rfl ?_
      refine z_goto (tgt := 52) hX dX7_keepDraft_99 (by decide) ?_
      refine z_sub [1, 0] rfl ?_
      exact ih (x1 + 1) s11
set_option maxHeartbeats 4000000 in
set_option maxRecDepth 100000 in
theorem w_X7_keepDraft_2 (M : z_M) (V : z_V) (hs : z_isM V) (hX : z_Cx M V cX7_keepDraft 2 none wsX7_keepDraft RX7) : ∀ (n : Nat) (x1 : Int32) (σ : z_St), z_Go M rm_X7_keepDraft 2 V (z_QV V) σ 2 [(0, .ref (z_ad V 0)), (1, .int x1)] [] (f_X7_keepDraft_2 n x1 σ) := by
  intro n
  induction n with
  | zero => intro x1 σ; exact z_none
  | succ n ih =>
    intro x1 σ
    rw [f_X7_keepDraft_2]
    refine z_iload_n hX dX7_keepDraft_2 rfl 1 rfl ?_
    refine z_bipush (v := 45) hX dX7_keepDraft_3 (by decide) ?_
    refine z_icmp_ge (tgt := 26) hX dX7_keepDraft_5 (by decide) ?_ ?_
    · refine z_aload_n hX dX7_keepDraft_26 rfl 0 rfl ?_
      refine z_aload_n hX dX7_keepDraft_27 rfl 0 rfl ?_
      refine z_getI (k := 13) hX (z_mod0 hs) rfl rfl in_X7_keepDraft_X7 (by decide) lk_X7_keepDraft_f83 dX7_keepDraft_28 ?_
      refine z_put1 (k := 3) hX (z_mod0 hs) rfl rfl in_X7_keepDraft_X7 (by decide) lk_X7_keepDraft_f99 tyX7 tyX7_ok nmX7 rfl rfl rfl dX7_keepDraft_31 (z_bs fun s1 => ?_)
      refine z_aload_n hX dX7_keepDraft_34 rfl 0 rfl ?_
      refine z_aload_n hX dX7_keepDraft_35 rfl 0 rfl ?_
      refine z_getI (k := 14) hX (z_mod0 hs) rfl rfl in_X7_keepDraft_X7 (by decide) lk_X7_keepDraft_f87 dX7_keepDraft_36 ?_
      refine z_put1 (k := 4) hX (z_mod0 hs) rfl rfl in_X7_keepDraft_X7 (by decide) lk_X7_keepDraft_f102 tyX7 tyX7_ok nmX7 rfl rfl rfl dX7_keepDraft_39 (z_bs fun s2 => ?_)
      refine z_aload_n hX dX7_keepDraft_42 rfl 0 rfl ?_
      refine z_aload_n hX dX7_keepDraft_43 rfl 0 rfl ?_
      refine z_getI (k := 15) hX (z_mod0 hs) rfl rfl in_X7_keepDraft_X7 (by decide) lk_X7_keepDraft_f90 dX7_keepDraft_44 ?_
      refine z_put1 (k := 5) hX (z_mod0 hs) rfl rfl in_X7_keepDraft_X7 (by decide) lk_X7_keepDraft_f105 tyX7 tyX7_ok nmX7 rfl rfl rfl dX7_keepDraft_47 (z_bs fun s3 => ?_)
      refine z_iconst (v := 0) hX dX7_keepDraft_50 (by decide) ?_
      refine z_istore_n (lv' := [(1, .int (0 : Int32)), (0, .ref (z_ad V 0))]) hX dX7_keepDraft_51 rfl (by decide) rfl ?_
      refine z_sub [1, 0] rfl ?_
      exact w_X7_keepDraft_52 M V hs hX 200 (0 : Int32) s3
    · refine z_aload_n hX dX7_keepDraft_8 rfl 0 rfl ?_
      refine z_getR (k := 0) hX (z_mod0 hs) rfl rfl in_X7_keepDraft_X7 (by decide) lk_X7_keepDraft_f7 dX7_keepDraft_9 ?_
      refine z_iload_n hX dX7_keepDraft_12 rfl 1 rfl ?_
      refine z_aload_n hX dX7_keepDraft_13 rfl 0 rfl ?_
      refine z_getR (k := 12) hX (z_mod0 hs) rfl rfl in_X7_keepDraft_X7 (by decide) lk_X7_keepDraft_f38 dX7_keepDraft_14 ?_
      refine z_iload_n hX dX7_keepDraft_17 rfl 1 rfl ?_
      refine z_iald hX (z_mod10 hs) dX7_keepDraft_18 ?_
      refine z_iast hX (z_mod1 hs) dX7_keepDraft_19 (z_bs fun s12 => ?_)
      refine z_iinc (v := (x1 + 1)) (lv' := [(1, .int (x1 + 1)), (0, .ref (z_ad V 0))]) hX dX7_keepDraft_20 1 rfl rfl (by decide) rfl ?_
      refine z_goto (tgt := 2) hX dX7_keepDraft_23 (by decide) ?_
      refine z_sub [1, 0] rfl ?_
      exact ih (x1 + 1) s12
set_option maxHeartbeats 4000000 in
set_option maxRecDepth 100000 in
theorem c_X7_keepDraft (l : Launch) (V : z_V) (hV : z_ok V) (hs : z_isM V) (σ : z_St) : z_CtV l V yX7_keepDraft wsX7_keepDraft rm_X7_keepDraft [.ref (z_ad V 0)] σ (f_X7_keepDraft σ) := by
  refine z_startV (lv := [(0, .ref (z_ad V 0))]) hV (by decide) rfl (Nat.le_of_ble_eq_true rfl) rfl ?_
  intro M hM hX
  have hX : z_Cx M V cX7_keepDraft 2 none wsX7_keepDraft RX7 := hX
  unfold f_X7_keepDraft
  refine z_iconst (v := 0) hX dX7_keepDraft_0 (by decide) ?_
  refine z_istore_n (lv' := [(1, .int (0 : Int32)), (0, .ref (z_ad V 0))]) hX dX7_keepDraft_1 rfl (by decide) rfl ?_
  refine z_sub [1, 0] rfl ?_
  exact w_X7_keepDraft_2 M V hs hX 200 (0 : Int32) σ

abbrev rm_X7_feed : Room := { frames := 1, cells := 0, slots := 0, locals := 25 }
theorem in_X7_feed_X7 : ∀ w ∈ wsX70, w ∈ wsX7_feed := fun w h => List.mem_cons_of_mem _ (List.mem_append_right _ h)
theorem lk_X7_feed_c108 : Cond.constantLong RX7 108 127 ∈ wsX7_feed := by decide +kernel
theorem lk_X7_feed_f114 : Cond.fieldLink RX7 114 (TX7 25).1 (TX7 25).2.1 (TX7 25).2.2.1 ∈ wsX7_feed := by decide +kernel
theorem lk_X7_feed_f59 : Cond.fieldLink RX7 59 (TX7 24).1 (TX7 24).2.1 (TX7 24).2.2.1 ∈ wsX7_feed := by decide +kernel
set_option maxHeartbeats 4000000 in
set_option maxRecDepth 100000 in
theorem c_X7_feed (l : Launch) (V : z_V) (hV : z_ok V) (hs : z_isM V) (x1 : Int32) (σ : z_St) : z_CtI l V yX7_feed wsX7_feed rm_X7_feed [.ref (z_ad V 0), .int x1] σ (f_X7_feed x1 σ) := by
  refine z_startI (lv := [(0, .ref (z_ad V 0)), (1, .int x1)]) hV (by decide) rfl (Nat.le_of_ble_eq_true rfl) rfl ?_
  intro M hM hX
  have hX : z_Cx M V cX7_feed 2 (some .int) wsX7_feed RX7 := hX
  unfold f_X7_feed
  refine z_iload_n hX dX7_feed_0 rfl 1 rfl ?_
  refine z_i2l hX dX7_feed_1 ?_
  refine z_lconst (v := 0) hX dX7_feed_2 (by decide) ?_
  refine z_ldc2 (v := 127) hX lk_X7_feed_c108 dX7_feed_3 ?_
  refine z_callSI (n := 3) hX (c_X7_in M.2.1 V hX.2.2.2.2.2 hs x1.toInt64 (0 : Int64) (127 : Int64) σ) gX7_feed_X7_in rfl (by decide +kernel) ⟨by decide, by decide⟩ rfl rfl rfl rfl (Nat.le_of_ble_eq_true rfl) dX7_feed_6 (fun r1 _ => ?_)
  refine z_if_ne (tgt := 14) hX dX7_feed_9 (by decide) ?_ ?_
  · refine z_aload_n hX dX7_feed_14 rfl 0 rfl ?_
    refine z_getI (k := 25) hX (z_mod0 hs) rfl rfl in_X7_feed_X7 (by decide) lk_X7_feed_f114 dX7_feed_15 ?_
    refine z_sipush (v := 160) hX dX7_feed_18 (by decide) ?_
    refine z_icmp_ne (tgt := 27) hX dX7_feed_21 (by decide) ?_ ?_
    · refine z_aload_n hX dX7_feed_27 rfl 0 rfl ?_
      refine z_getR (k := 24) hX (z_mod0 hs) rfl rfl in_X7_feed_X7 (by decide) lk_X7_feed_f59 dX7_feed_28 ?_
      refine z_aload_n hX dX7_feed_31 rfl 0 rfl ?_
      refine z_getI (k := 25) hX (z_mod0 hs) rfl rfl in_X7_feed_X7 (by decide) lk_X7_feed_f114 dX7_feed_32 ?_
      refine z_iload_n hX dX7_feed_35 rfl 1 rfl ?_
      refine z_iast hX (z_mod17 hs) dX7_feed_36 (z_bs fun s2 => ?_)
      refine z_aload_n hX dX7_feed_37 rfl 0 rfl ?_
      refine z_dup hX dX7_feed_38 rfl ?_
      refine z_getI (k := 25) hX (z_mod0 hs) rfl rfl in_X7_feed_X7 (by decide) lk_X7_feed_f114 dX7_feed_39 ?_
      refine z_iconst (v := 1) hX dX7_feed_42 (by decide) ?_
      refine z_iadd hX dX7_feed_43 ?_
      refine z_put1 (k := 25) hX (z_mod0 hs) rfl rfl in_X7_feed_X7 (by decide) lk_X7_feed_f114 tyX7 tyX7_ok nmX7 rfl rfl rfl dX7_feed_44 (z_bs fun s3 => ?_)
      refine z_aload_n hX dX7_feed_47 rfl 0 rfl ?_
      refine z_getI (k := 25) hX (z_mod0 hs) rfl rfl in_X7_feed_X7 (by decide) lk_X7_feed_f114 dX7_feed_48 ?_
      exact z_iret hX dX7_feed_51
    · refine z_bipush (v := -3) hX dX7_feed_24 (by decide) ?_
      exact z_iret hX dX7_feed_26
  · refine z_iconst (v := -1) hX dX7_feed_12 (by decide) ?_
    exact z_iret hX dX7_feed_13

abbrev rm_X7_end : Room := { frames := 1, cells := 0, slots := 0, locals := 25 }
theorem in_X7_end_X7 : ∀ w ∈ wsX70, w ∈ wsX7_end := fun w h => List.mem_cons_of_mem _ (List.mem_append_right _ h)
theorem lk_X7_end_f114 : Cond.fieldLink RX7 114 (TX7 25).1 (TX7 25).2.1 (TX7 25).2.2.1 ∈ wsX7_end := by decide +kernel
set_option maxHeartbeats 4000000 in
set_option maxRecDepth 100000 in
theorem c_X7_end (l : Launch) (V : z_V) (hV : z_ok V) (hs : z_isM V) (x1 : Int32) (σ : z_St) : z_CtI l V yX7_end wsX7_end rm_X7_end [.ref (z_ad V 0), .int x1] σ (f_X7_end x1 σ) := by
  refine z_startI (lv := [(0, .ref (z_ad V 0)), (1, .int x1)]) hV (by decide) rfl (Nat.le_of_ble_eq_true rfl) rfl ?_
  intro M hM hX
  have hX : z_Cx M V cX7_end 3 (some .int) wsX7_end RX7 := hX
  unfold f_X7_end
  refine z_iload_n hX dX7_end_0 rfl 1 rfl ?_
  refine z_i2l hX dX7_end_1 ?_
  refine z_lconst (v := 0) hX dX7_end_2 (by decide) ?_
  refine z_aload_n hX dX7_end_3 rfl 0 rfl ?_
  refine z_getI (k := 25) hX (z_mod0 hs) rfl rfl in_X7_end_X7 (by decide) lk_X7_end_f114 dX7_end_4 ?_
  refine z_i2l hX dX7_end_7 ?_
  refine z_callSI (n := 3) hX (c_X7_in M.2.1 V hX.2.2.2.2.2 hs x1.toInt64 (0 : Int64) (σ 0 25).toInt64 σ) gX7_end_X7_in rfl (by decide +kernel) ⟨by decide, by decide⟩ rfl rfl rfl rfl (Nat.le_of_ble_eq_true rfl) dX7_end_8 (fun r1 _ => ?_)
  refine z_if_ne (tgt := 16) hX dX7_end_11 (by decide) ?_ ?_
  · refine z_aload_n hX dX7_end_16 rfl 0 rfl ?_
    refine z_getI (k := 25) hX (z_mod0 hs) rfl rfl in_X7_end_X7 (by decide) lk_X7_end_f114 dX7_end_17 ?_
    refine z_istore_n (lv' := [(2, .int (r1.2 0 25)), (0, .ref (z_ad V 0)), (1, .int x1)]) hX dX7_end_20 rfl (by decide) rfl ?_
    refine z_aload_n hX dX7_end_21 rfl 1 rfl ?_
    refine z_iload_n hX dX7_end_22 rfl 2 rfl ?_
    refine z_put1 (k := 25) hX (z_mod0 hs) rfl rfl in_X7_end_X7 (by decide) lk_X7_end_f114 tyX7 tyX7_ok nmX7 rfl rfl rfl dX7_end_23 (z_bs fun s2 => ?_)
    refine z_iload_n hX dX7_end_26 rfl 0 rfl ?_
    exact z_iret hX dX7_end_27
  · refine z_iconst (v := -1) hX dX7_end_14 (by decide) ?_
    exact z_iret hX dX7_end_15

abbrev rm_X7_needs : Room := { frames := 0, cells := 0, slots := 0, locals := 0 }
theorem in_X7_needs_X7 : ∀ w ∈ wsX70, w ∈ wsX7_needs := fun w h => List.mem_cons_of_mem _ (List.mem_append_right _ h)
theorem lk_X7_needs_f117 : Cond.fieldLink RX7 117 (TX7 30).1 (TX7 30).2.1 (TX7 30).2.2.1 ∈ wsX7_needs := by decide +kernel
theorem lk_X7_needs_f120 : Cond.fieldLink RX7 120 (TX7 27).1 (TX7 27).2.1 (TX7 27).2.2.1 ∈ wsX7_needs := by decide +kernel
theorem lk_X7_needs_f123 : Cond.fieldLink RX7 123 (TX7 31).1 (TX7 31).2.1 (TX7 31).2.2.1 ∈ wsX7_needs := by decide +kernel
set_option maxHeartbeats 4000000 in
set_option maxRecDepth 100000 in
theorem c_X7_needs (l : Launch) (V : z_V) (hV : z_ok V) (hs : z_isM V) (x1 : Int32) (x2 : Int32) (σ : z_St) : z_CtV l V yX7_needs wsX7_needs rm_X7_needs [.ref (z_ad V 0), .int x1, .int x2] σ (f_X7_needs x1 x2 σ) := by
  refine z_startV (lv := [(0, .ref (z_ad V 0)), (1, .int x1), (2, .int x2)]) hV (by decide) rfl (Nat.le_of_ble_eq_true rfl) rfl ?_
  intro M hM hX
  have hX : z_Cx M V cX7_needs 3 none wsX7_needs RX7 := hX
  unfold f_X7_needs
  refine z_iload_n hX dX7_needs_0 rfl 1 rfl ?_
  refine z_if_ne (tgt := 24) hX dX7_needs_1 (by decide) ?_ ?_
  · exact z_vret hX dX7_needs_24
  · refine z_aload_n hX dX7_needs_4 rfl 0 rfl ?_
    refine z_getI (k := 30) hX (z_mod0 hs) rfl rfl in_X7_needs_X7 (by decide) lk_X7_needs_f117 dX7_needs_5 ?_
    refine z_if_ne (tgt := 24) hX dX7_needs_8 (by decide) ?_ ?_
    · exact z_vret hX dX7_needs_24
    · refine z_aload_n hX dX7_needs_11 rfl 0 rfl ?_
      refine z_iload_n hX dX7_needs_12 rfl 2 rfl ?_
      refine z_put1 (k := 30) hX (z_mod0 hs) rfl rfl in_X7_needs_X7 (by decide) lk_X7_needs_f117 tyX7 tyX7_ok nmX7 rfl rfl rfl dX7_needs_13 (z_bs fun s1 => ?_)
      refine z_aload_n hX dX7_needs_16 rfl 0 rfl ?_
      refine z_aload_n hX dX7_needs_17 rfl 0 rfl ?_
      refine z_getI (k := 27) hX (z_mod0 hs) rfl rfl in_X7_needs_X7 (by decide) lk_X7_needs_f120 dX7_needs_18 ?_
      refine z_put1 (k := 31) hX (z_mod0 hs) rfl rfl in_X7_needs_X7 (by decide) lk_X7_needs_f123 tyX7 tyX7_ok nmX7 rfl rfl rfl dX7_needs_21 (z_bs fun s2 => ?_)
      exact z_vret hX dX7_needs_24

abbrev rm_X7_byteAt : Room := { frames := 0, cells := 0, slots := 0, locals := 0 }
theorem in_X7_byteAt_X7 : ∀ w ∈ wsX70, w ∈ wsX7_byteAt := fun w h => List.mem_cons_of_mem _ (List.mem_append_right _ h)
theorem lk_X7_byteAt_f114 : Cond.fieldLink RX7 114 (TX7 25).1 (TX7 25).2.1 (TX7 25).2.2.1 ∈ wsX7_byteAt := by decide +kernel
theorem lk_X7_byteAt_f59 : Cond.fieldLink RX7 59 (TX7 24).1 (TX7 24).2.1 (TX7 24).2.2.1 ∈ wsX7_byteAt := by decide +kernel
set_option maxHeartbeats 4000000 in
set_option maxRecDepth 100000 in
theorem c_X7_byteAt (l : Launch) (V : z_V) (hV : z_ok V) (hs : z_isM V) (x1 : Int32) (σ : z_St) : z_CtI l V yX7_byteAt wsX7_byteAt rm_X7_byteAt [.ref (z_ad V 0), .int x1] σ (f_X7_byteAt x1 σ) := by
  refine z_startI (lv := [(0, .ref (z_ad V 0)), (1, .int x1)]) hV (by decide) rfl (Nat.le_of_ble_eq_true rfl) rfl ?_
  intro M hM hX
  have hX : z_Cx M V cX7_byteAt 2 (some .int) wsX7_byteAt RX7 := hX
  unfold f_X7_byteAt
  refine z_iload_n hX dX7_byteAt_0 rfl 1 rfl ?_
  refine z_aload_n hX dX7_byteAt_1 rfl 0 rfl ?_
  refine z_getI (k := 25) hX (z_mod0 hs) rfl rfl in_X7_byteAt_X7 (by decide) lk_X7_byteAt_f114 dX7_byteAt_2 ?_
  refine z_icmp_ge (tgt := 17) hX dX7_byteAt_5 (by decide) ?_ ?_
  · refine z_iconst (v := -1) hX dX7_byteAt_17 (by decide) ?_
    exact z_iret hX dX7_byteAt_18
  · refine z_aload_n hX dX7_byteAt_8 rfl 0 rfl ?_
    refine z_getR (k := 24) hX (z_mod0 hs) rfl rfl in_X7_byteAt_X7 (by decide) lk_X7_byteAt_f59 dX7_byteAt_9 ?_
    refine z_iload_n hX dX7_byteAt_12 rfl 1 rfl ?_
    refine z_iald hX (z_mod17 hs) dX7_byteAt_13 ?_
    refine z_goto (tgt := 18) hX dX7_byteAt_14 (by decide) ?_
    exact z_iret hX dX7_byteAt_18

abbrev rm_X7_is : Room := { frames := 1, cells := 0, slots := 0, locals := 21 }
theorem in_X7_is_X7 : ∀ w ∈ wsX70, w ∈ wsX7_is := fun w h => List.mem_cons_of_mem _ (List.mem_append_right _ h)
theorem lk_X7_is_f126 : Cond.fieldLink RX7 126 (TX7 26).1 (TX7 26).2.1 (TX7 26).2.2.1 ∈ wsX7_is := by decide +kernel
theorem lk_X7_is_f120 : Cond.fieldLink RX7 120 (TX7 27).1 (TX7 27).2.1 (TX7 27).2.2.1 ∈ wsX7_is := by decide +kernel
set_option maxHeartbeats 4000000 in
set_option maxRecDepth 100000 in
theorem c_X7_is (l : Launch) (V : z_V) (hV : z_ok V) (hs : z_isM V) (x1 : Int32) (x2 : Int32) (x3 : Int32) (x4 : Int32) (x5 : Int32) (σ : z_St) : z_CtI l V yX7_is wsX7_is rm_X7_is [.ref (z_ad V 0), .int x1, .int x2, .int x3, .int x4, .int x5] σ (f_X7_is x1 x2 x3 x4 x5 σ) := by
  refine z_startI (lv := [(0, .ref (z_ad V 0)), (1, .int x1), (2, .int x2), (3, .int x3), (4, .int x4), (5, .int x5)]) hV (by decide) rfl (Nat.le_of_ble_eq_true rfl) rfl ?_
  intro M hM hX
  have hX : z_Cx M V cX7_is 6 (some .boolean) wsX7_is RX7 := hX
  unfold f_X7_is
  refine z_aload_n hX dX7_is_0 rfl 0 rfl ?_
  refine z_getI (k := 26) hX (z_mod0 hs) rfl rfl in_X7_is_X7 (by decide) lk_X7_is_f126 dX7_is_1 ?_
  refine z_aload_n hX dX7_is_4 rfl 0 rfl ?_
  refine z_getI (k := 27) hX (z_mod0 hs) rfl rfl in_X7_is_X7 (by decide) lk_X7_is_f120 dX7_is_5 ?_
  refine z_isub hX dX7_is_8 ?_
  refine z_iload_n hX dX7_is_9 rfl 1 rfl ?_
  refine z_icmp_ne (tgt := 73) hX dX7_is_10 (by decide) ?_ ?_
  · refine z_iconst (v := 0) hX dX7_is_73 (by decide) ?_
    exact z_zret hX dX7_is_74 rfl
  · refine z_aload_n hX dX7_is_13 rfl 0 rfl ?_
    refine z_aload_n hX dX7_is_14 rfl 0 rfl ?_
    refine z_getI (k := 27) hX (z_mod0 hs) rfl rfl in_X7_is_X7 (by decide) lk_X7_is_f120 dX7_is_15 ?_
    refine z_callVI (n := 1) hX (c_X7_byteAt M.2.1 V hX.2.2.2.2.2 hs (σ 0 27) σ) gX7_is_X7_byteAt rfl (by decide +kernel) ⟨by decide, by decide⟩ rfl rfl (z_mod0 hs) rfl rfl rfl rfl (Nat.le_of_ble_eq_true rfl) dX7_is_18 (fun r1 _ => ?_)
    refine z_iload_n hX dX7_is_21 rfl 2 rfl ?_
    refine z_icmp_ne (tgt := 73) hX dX7_is_22 (by decide) ?_ ?_
    · refine z_iconst (v := 0) hX dX7_is_73 (by decide) ?_
      exact z_zret hX dX7_is_74 rfl
    · refine z_aload_n hX dX7_is_25 rfl 0 rfl ?_
      refine z_aload_n hX dX7_is_26 rfl 0 rfl ?_
      refine z_getI (k := 27) hX (z_mod0 hs) rfl rfl in_X7_is_X7 (by decide) lk_X7_is_f120 dX7_is_27 ?_
      refine z_iconst (v := 1) hX dX7_is_30 (by decide) ?_
      refine z_iadd hX dX7_is_31 ?_
      refine z_callVI (n := 1) hX (c_X7_byteAt M.2.1 V hX.2.2.2.2.2 hs ((r1.2 0 27) + (1 : Int32)) r1.2) gX7_is_X7_byteAt rfl (by decide +kernel) ⟨by decide, by decide⟩ rfl rfl (z_mod0 hs) rfl rfl rfl rfl (Nat.le_of_ble_eq_true rfl) dX7_is_32 (fun r2 _ => ?_)
      refine z_iload_n hX dX7_is_35 rfl 3 rfl ?_
      refine z_icmp_ne (tgt := 73) hX dX7_is_36 (by decide) ?_ ?_
      · refine z_iconst (v := 0) hX dX7_is_73 (by decide) ?_
        exact z_zret hX dX7_is_74 rfl
      · refine z_aload_n hX dX7_is_39 rfl 0 rfl ?_
        refine z_aload_n hX dX7_is_40 rfl 0 rfl ?_
        refine z_getI (k := 27) hX (z_mod0 hs) rfl rfl in_X7_is_X7 (by decide) lk_X7_is_f120 dX7_is_41 ?_
        refine z_iconst (v := 2) hX dX7_is_44 (by decide) ?_
        refine z_iadd hX dX7_is_45 ?_
        refine z_callVI (n := 1) hX (c_X7_byteAt M.2.1 V hX.2.2.2.2.2 hs ((r2.2 0 27) + (2 : Int32)) r2.2) gX7_is_X7_byteAt rfl (by decide +kernel) ⟨by decide, by decide⟩ rfl rfl (z_mod0 hs) rfl rfl rfl rfl (Nat.le_of_ble_eq_true rfl) dX7_is_46 (fun r3 _ => ?_)
        refine z_iload hX dX7_is_49 4 rfl ?_
        refine z_icmp_ne (tgt := 73) hX dX7_is_51 (by decide) ?_ ?_
        · refine z_iconst (v := 0) hX dX7_is_73 (by decide) ?_
          exact z_zret hX dX7_is_74 rfl
        · refine z_aload_n hX dX7_is_54 rfl 0 rfl ?_
          refine z_aload_n hX dX7_is_55 rfl 0 rfl ?_
          refine z_getI (k := 27) hX (z_mod0 hs) rfl rfl in_X7_is_X7 (by decide) lk_X7_is_f120 dX7_is_56 ?_
          refine z_iconst (v := 3) hX dX7_is_59 (by decide) ?_
          refine z_iadd hX dX7_is_60 ?_
          refine z_callVI (n := 1) hX (c_X7_byteAt M.2.1 V hX.2.2.2.2.2 hs ((r3.2 0 27) + (3 : Int32)) r3.2) gX7_is_X7_byteAt rfl (by decide +kernel) ⟨by decide, by decide⟩ rfl rfl (z_mod0 hs) rfl rfl rfl rfl (Nat.le_of_ble_eq_true rfl) dX7_is_61 (fun r4 _ => ?_)
          refine z_iload hX dX7_is_64 5 rfl ?_
          refine z_icmp_ne (tgt := 73) hX dX7_is_66 (by decide) ?_ ?_
          · refine z_iconst (v := 0) hX dX7_is_73 (by decide) ?_
            exact z_zret hX dX7_is_74 rfl
          · refine z_iconst (v := 1) hX dX7_is_69 (by decide) ?_
            refine z_goto (tgt := 74) hX dX7_is_70 (by decide) ?_
            exact z_zret hX dX7_is_74 rfl

abbrev rm_X7_ends : Room := { frames := 1, cells := 0, slots := 0, locals := 21 }
theorem in_X7_ends_X7 : ∀ w ∈ wsX70, w ∈ wsX7_ends := fun w h => List.mem_cons_of_mem _ (List.mem_append_right _ h)
theorem lk_X7_ends_f120 : Cond.fieldLink RX7 120 (TX7 27).1 (TX7 27).2.1 (TX7 27).2.2.1 ∈ wsX7_ends := by decide +kernel
set_option maxHeartbeats 4000000 in
set_option maxRecDepth 100000 in
theorem w_X7_ends_51 (M : z_M) (V : z_V) (hs : z_isM V) (hX : z_Cx M V cX7_ends 5 (some .boolean) wsX7_ends RX7) (x4 : Int32) (σ : z_St) : z_Go M rm_X7_ends 5 V (z_QI V) σ 51 [(0, .ref (z_ad V 0)), (4, .int x4)] [] (f_X7_ends_51 x4 σ) := by
  unfold f_X7_ends_51
  refine z_iload hX dX7_ends_51 1 rfl ?_
  refine z_if_eq (tgt := 72) hX dX7_ends_53 (by decide) ?_ ?_
  · refine z_iconst (v := 1) hX dX7_ends_72 (by decide) ?_
    refine z_goto (tgt := 77) hX dX7_ends_73 (by decide) ?_
    exact z_zret hX dX7_ends_77 rfl
  · refine z_aload_n hX dX7_ends_56 rfl 0 rfl ?_
    refine z_aload_n hX dX7_ends_57 rfl 0 rfl ?_
    refine z_getI (k := 27) hX (z_mod0 hs) rfl rfl in_X7_ends_X7 (by decide) lk_X7_ends_f120 dX7_ends_58 ?_
    refine z_bipush (v := 7) hX dX7_ends_61 (by decide) ?_
    refine z_iadd hX dX7_ends_63 ?_
    refine z_callVI (n := 1) hX (c_X7_byteAt M.2.1 V hX.2.2.2.2.2 hs ((σ 0 27) + (7 : Int32)) σ) gX7_ends_X7_byteAt rfl (by decide +kernel) ⟨by decide, by decide⟩ rfl rfl (z_mod0 hs) rfl rfl rfl rfl (Nat.le_of_ble_eq_true rfl) dX7_ends_64 (fun r2 _ => ?_)
    refine z_iload hX dX7_ends_67 1 rfl ?_
    refine z_icmp_ne (tgt := 76) hX dX7_ends_69 (by decide) ?_ ?_
    · refine z_iconst (v := 0) hX dX7_ends_76 (by decide) ?_
      exact z_zret hX dX7_ends_77 rfl
    · refine z_iconst (v := 1) hX dX7_ends_72 (by decide) ?_
      refine z_goto (tgt := 77) hX dX7_ends_73 (by decide) ?_
      exact z_zret hX dX7_ends_77 rfl
set_option maxHeartbeats 4000000 in
set_option maxRecDepth 100000 in
theorem w_X7_ends_32 (M : z_M) (V : z_V) (hs : z_isM V) (hX : z_Cx M V cX7_ends 5 (some .boolean) wsX7_ends RX7) (x3 : Int32) (x4 : Int32) (σ : z_St) : z_Go M rm_X7_ends 5 V (z_QI V) σ 32 [(0, .ref (z_ad V 0)), (3, .int x3), (4, .int x4)] [] (f_X7_ends_32 x3 x4 σ) := by
  unfold f_X7_ends_32
  refine z_iload_n hX dX7_ends_32 rfl 1 rfl ?_
  refine z_if_eq (tgt := 51) hX dX7_ends_33 (by decide) ?_ ?_
  · refine z_sub [0, 2] rfl ?_
    exact w_X7_ends_51 M V hs hX x4 σ
  · refine z_aload_n hX dX7_ends_36 rfl 0 rfl ?_
    refine z_aload_n hX dX7_ends_37 rfl 0 rfl ?_
    refine z_getI (k := 27) hX (z_mod0 hs) rfl rfl in_X7_ends_X7 (by decide) lk_X7_ends_f120 dX7_ends_38 ?_
    refine z_bipush (v := 6) hX dX7_ends_41 (by decide) ?_
    refine z_iadd hX dX7_ends_43 ?_
    refine z_callVI (n := 1) hX (c_X7_byteAt M.2.1 V hX.2.2.2.2.2 hs ((σ 0 27) + (6 : Int32)) σ) gX7_ends_X7_byteAt rfl (by decide +kernel) ⟨by decide, by decide⟩ rfl rfl (z_mod0 hs) rfl rfl rfl rfl (Nat.le_of_ble_eq_true rfl) dX7_ends_44 (fun r3 _ => ?_)
    refine z_iload_n hX dX7_ends_47 rfl 1 rfl ?_
    refine z_icmp_ne (tgt := 76) hX dX7_ends_48 (by decide) ?_ ?_
    · refine z_iconst (v := 0) hX dX7_ends_76 (by decide) ?_
      exact z_zret hX dX7_ends_77 rfl
    · refine z_sub [0, 2] rfl ?_
      exact w_X7_ends_51 M V hs hX x4 r3.2
set_option maxHeartbeats 4000000 in
set_option maxRecDepth 100000 in
theorem c_X7_ends (l : Launch) (V : z_V) (hV : z_ok V) (hs : z_isM V) (x1 : Int32) (x2 : Int32) (x3 : Int32) (x4 : Int32) (σ : z_St) : z_CtI l V yX7_ends wsX7_ends rm_X7_ends [.ref (z_ad V 0), .int x1, .int x2, .int x3, .int x4] σ (f_X7_ends x1 x2 x3 x4 σ) := by
  refine z_startI (lv := [(0, .ref (z_ad V 0)), (1, .int x1), (2, .int x2), (3, .int x3), (4, .int x4)]) hV (by decide) rfl (Nat.le_of_ble_eq_true rfl) rfl ?_
  intro M hM hX
  have hX : z_Cx M V cX7_ends 5 (some .boolean) wsX7_ends RX7 := hX
  unfold f_X7_ends
  refine z_aload_n hX dX7_ends_0 rfl 0 rfl ?_
  refine z_aload_n hX dX7_ends_1 rfl 0 rfl ?_
  refine z_getI (k := 27) hX (z_mod0 hs) rfl rfl in_X7_ends_X7 (by decide) lk_X7_ends_f120 dX7_ends_2 ?_
  refine z_iconst (v := 4) hX dX7_ends_5 (by decide) ?_
  refine z_iadd hX dX7_ends_6 ?_
  refine z_callVI (n := 1) hX (c_X7_byteAt M.2.1 V hX.2.2.2.2.2 hs ((σ 0 27) + (4 : Int32)) σ) gX7_ends_X7_byteAt rfl (by decide +kernel) ⟨by decide, by decide⟩ rfl rfl (z_mod0 hs) rfl rfl rfl rfl (Nat.le_of_ble_eq_true rfl) dX7_ends_7 (fun r1 _ => ?_)
  refine z_iload_n hX dX7_ends_10 rfl 1 rfl ?_
  refine z_icmp_ne (tgt := 76) hX dX7_ends_11 (by decide) ?_ ?_
  · refine z_iconst (v := 0) hX dX7_ends_76 (by decide) ?_
    exact z_zret hX dX7_ends_77 rfl
  · refine z_iload_n hX dX7_ends_14 rfl 2 rfl ?_
    refine z_if_eq (tgt := 32) hX dX7_ends_15 (by decide) ?_ ?_
    · refine z_sub [0, 3, 4] rfl ?_
      exact w_X7_ends_32 M V hs hX x3 x4 r1.2
    · refine z_aload_n hX dX7_ends_18 rfl 0 rfl ?_
      refine z_aload_n hX dX7_ends_19 rfl 0 rfl ?_
      refine z_getI (k := 27) hX (z_mod0 hs) rfl rfl in_X7_ends_X7 (by decide) lk_X7_ends_f120 dX7_ends_20 ?_
      refine z_iconst (v := 5) hX dX7_ends_23 (by decide) ?_
      refine z_iadd hX dX7_ends_24 ?_
      refine z_callVI (n := 1) hX (c_X7_byteAt M.2.1 V hX.2.2.2.2.2 hs ((r1.2 0 27) + (5 : Int32)) r1.2) gX7_ends_X7_byteAt rfl (by decide +kernel) ⟨by decide, by decide⟩ rfl rfl (z_mod0 hs) rfl rfl rfl rfl (Nat.le_of_ble_eq_true rfl) dX7_ends_25 (fun r4 _ => ?_)
      refine z_iload_n hX dX7_ends_28 rfl 2 rfl ?_
      refine z_icmp_ne (tgt := 76) hX dX7_ends_29 (by decide) ?_ ?_
      · refine z_iconst (v := 0) hX dX7_ends_76 (by decide) ?_
        exact z_zret hX dX7_ends_77 rfl
      · refine z_sub [0, 3, 4] rfl ?_
        exact w_X7_ends_32 M V hs hX x3 x4 r4.2

abbrev rm_X7_lineNow : Room := { frames := 2, cells := 0, slots := 0, locals := 46 }
set_option maxHeartbeats 4000000 in
set_option maxRecDepth 100000 in
theorem w_X7_lineNow_207 (M : z_M) (V : z_V) (hs : z_isM V) (hX : z_Cx M V cX7_lineNow 1 (some .int) wsX7_lineNow RX7) (σ : z_St) : z_Go M rm_X7_lineNow 1 V (z_QI V) σ 207 [(0, .ref (z_ad V 0))] [] (f_X7_lineNow_207 σ) := by
  unfold f_X7_lineNow_207
  refine z_aload_n hX dX7_lineNow_207 rfl 0 rfl ?_
  refine z_iconst (v := 5) hX dX7_lineNow_208 (by decide) ?_
  refine z_bipush (v := 99) hX dX7_lineNow_209 (by decide) ?_
  refine z_bipush (v := 111) hX dX7_lineNow_211 (by decide) ?_
  refine z_bipush (v := 118) hX dX7_lineNow_213 (by decide) ?_
  refine z_bipush (v := 101) hX dX7_lineNow_215 (by decide) ?_
  refine z_callVI (n := 5) hX (c_X7_is M.2.1 V hX.2.2.2.2.2 hs (5 : Int32) (99 : Int32) (111 : Int32) (118 : Int32) (101 : Int32) σ) gX7_lineNow_X7_is rfl (by decide +kernel) ⟨by decide, by decide⟩ rfl rfl (z_mod0 hs) rfl rfl rfl rfl (Nat.le_of_ble_eq_true rfl) dX7_lineNow_217 (fun r8 _ => ?_)
  refine z_if_eq (tgt := 240) hX dX7_lineNow_220 (by decide) ?_ ?_
  · refine z_bipush (v := -4) hX dX7_lineNow_240 (by decide) ?_
    exact z_iret hX dX7_lineNow_242
  · refine z_aload_n hX dX7_lineNow_223 rfl 0 rfl ?_
    refine z_bipush (v := 114) hX dX7_lineNow_224 (by decide) ?_
    refine z_iconst (v := 0) hX dX7_lineNow_226 (by decide) ?_
    refine z_iconst (v := 0) hX dX7_lineNow_227 (by decide) ?_
    refine z_iconst (v := 0) hX dX7_lineNow_228 (by decide) ?_
    refine z_callVI (n := 4) hX (c_X7_ends M.2.1 V hX.2.2.2.2.2 hs (114 : Int32) (0 : Int32) (0 : Int32) (0 : Int32) r8.2) gX7_lineNow_X7_ends rfl (by decide +kernel) ⟨by decide, by decide⟩ rfl rfl (z_mod0 hs) rfl rfl rfl rfl (Nat.le_of_ble_eq_true rfl) dX7_lineNow_229 (fun r9 _ => ?_)
    refine z_if_eq (tgt := 240) hX dX7_lineNow_232 (by decide) ?_ ?_
    · refine z_bipush (v := -4) hX dX7_lineNow_240 (by decide) ?_
      exact z_iret hX dX7_lineNow_242
    · refine z_bipush (v := 7) hX dX7_lineNow_235 (by decide) ?_
      refine z_goto (tgt := 242) hX dX7_lineNow_237 (by decide) ?_
      exact z_iret hX dX7_lineNow_242
set_option maxHeartbeats 4000000 in
set_option maxRecDepth 100000 in
theorem w_X7_lineNow_170 (M : z_M) (V : z_V) (hs : z_isM V) (hX : z_Cx M V cX7_lineNow 1 (some .int) wsX7_lineNow RX7) (σ : z_St) : z_Go M rm_X7_lineNow 1 V (z_QI V) σ 170 [(0, .ref (z_ad V 0))] [] (f_X7_lineNow_170 σ) := by
  unfold f_X7_lineNow_170
  refine z_aload_n hX dX7_lineNow_170 rfl 0 rfl ?_
  refine z_bipush (v := 8) hX dX7_lineNow_171 (by decide) ?_
  refine z_bipush (v := 105) hX dX7_lineNow_173 (by decide) ?_
  refine z_bipush (v := 110) hX dX7_lineNow_175 (by decide) ?_
  refine z_bipush (v := 116) hX dX7_lineNow_177 (by decide) ?_
  refine z_bipush (v := 101) hX dX7_lineNow_179 (by decide) ?_
  refine z_callVI (n := 5) hX (c_X7_is M.2.1 V hX.2.2.2.2.2 hs (8 : Int32) (105 : Int32) (110 : Int32) (116 : Int32) (101 : Int32) σ) gX7_lineNow_X7_is rfl (by decide +kernel) ⟨by decide, by decide⟩ rfl rfl (z_mod0 hs) rfl rfl rfl rfl (Nat.le_of_ble_eq_true rfl) dX7_lineNow_181 (fun r7 _ => ?_)
  refine z_if_eq (tgt := 207) hX dX7_lineNow_184 (by decide) ?_ ?_
  · exact w_X7_lineNow_207 M V hs hX r7.2
  · refine z_aload_n hX dX7_lineNow_187 rfl 0 rfl ?_
    refine z_bipush (v := 114) hX dX7_lineNow_188 (by decide) ?_
    refine z_bipush (v := 101) hX dX7_lineNow_190 (by decide) ?_
    refine z_bipush (v := 115) hX dX7_lineNow_192 (by decide) ?_
    refine z_bipush (v := 116) hX dX7_lineNow_194 (by decide) ?_
    refine z_callVI (n := 4) hX (c_X7_ends M.2.1 V hX.2.2.2.2.2 hs (114 : Int32) (101 : Int32) (115 : Int32) (116 : Int32) r7.2) gX7_lineNow_X7_ends rfl (by decide +kernel) ⟨by decide, by decide⟩ rfl rfl (z_mod0 hs) rfl rfl rfl rfl (Nat.le_of_ble_eq_true rfl) dX7_lineNow_196 (fun r10 _ => ?_)
    refine z_if_eq (tgt := 207) hX dX7_lineNow_199 (by decide) ?_ ?_
    · exact w_X7_lineNow_207 M V hs hX r10.2
    · refine z_bipush (v := 6) hX dX7_lineNow_202 (by decide) ?_
      refine z_goto (tgt := 242) hX dX7_lineNow_204 (by decide) ?_
      exact z_iret hX dX7_lineNow_242
set_option maxHeartbeats 4000000 in
set_option maxRecDepth 100000 in
theorem w_X7_lineNow_122 (M : z_M) (V : z_V) (hs : z_isM V) (hX : z_Cx M V cX7_lineNow 1 (some .int) wsX7_lineNow RX7) (σ : z_St) : z_Go M rm_X7_lineNow 1 V (z_QI V) σ 122 [(0, .ref (z_ad V 0))] [] (f_X7_lineNow_122 σ) := by
  unfold f_X7_lineNow_122
  refine z_aload_n hX dX7_lineNow_122 rfl 0 rfl ?_
  refine z_iconst (v := 4) hX dX7_lineNow_123 (by decide) ?_
  refine z_bipush (v := 116) hX dX7_lineNow_124 (by decide) ?_
  refine z_bipush (v := 114) hX dX7_lineNow_126 (by decide) ?_
  refine z_bipush (v := 105) hX dX7_lineNow_128 (by decide) ?_
  refine z_bipush (v := 112) hX dX7_lineNow_130 (by decide) ?_
  refine z_callVI (n := 5) hX (c_X7_is M.2.1 V hX.2.2.2.2.2 hs (4 : Int32) (116 : Int32) (114 : Int32) (105 : Int32) (112 : Int32) σ) gX7_lineNow_X7_is rfl (by decide +kernel) ⟨by decide, by decide⟩ rfl rfl (z_mod0 hs) rfl rfl rfl rfl (Nat.le_of_ble_eq_true rfl) dX7_lineNow_132 (fun r5 _ => ?_)
  refine z_if_eq (tgt := 140) hX dX7_lineNow_135 (by decide) ?_ ?_
  · refine z_aload_n hX dX7_lineNow_140 rfl 0 rfl ?_
    refine z_iconst (v := 5) hX dX7_lineNow_141 (by decide) ?_
    refine z_bipush (v := 97) hX dX7_lineNow_142 (by decide) ?_
    refine z_bipush (v := 115) hX dX7_lineNow_144 (by decide) ?_
    refine z_bipush (v := 107) hX dX7_lineNow_146 (by decide) ?_
    refine z_bipush (v := 101) hX dX7_lineNow_148 (by decide) ?_
    refine z_callVI (n := 5) hX (c_X7_is M.2.1 V hX.2.2.2.2.2 hs (5 : Int32) (97 : Int32) (115 : Int32) (107 : Int32) (101 : Int32) r5.2) gX7_lineNow_X7_is rfl (by decide +kernel) ⟨by decide, by decide⟩ rfl rfl (z_mod0 hs) rfl rfl rfl rfl (Nat.le_of_ble_eq_true rfl) dX7_lineNow_150 (fun r6 _ => ?_)
    refine z_if_eq (tgt := 170) hX dX7_lineNow_153 (by decide) ?_ ?_
    · exact w_X7_lineNow_170 M V hs hX r6.2
    · refine z_aload_n hX dX7_lineNow_156 rfl 0 rfl ?_
      refine z_bipush (v := 100) hX dX7_lineNow_157 (by decide) ?_
      refine z_iconst (v := 0) hX dX7_lineNow_159 (by decide) ?_
      refine z_iconst (v := 0) hX dX7_lineNow_160 (by decide) ?_
      refine z_iconst (v := 0) hX dX7_lineNow_161 (by decide) ?_
      refine z_callVI (n := 4) hX (c_X7_ends M.2.1 V hX.2.2.2.2.2 hs (100 : Int32) (0 : Int32) (0 : Int32) (0 : Int32) r6.2) gX7_lineNow_X7_ends rfl (by decide +kernel) ⟨by decide, by decide⟩ rfl rfl (z_mod0 hs) rfl rfl rfl rfl (Nat.le_of_ble_eq_true rfl) dX7_lineNow_162 (fun r11 _ => ?_)
      refine z_if_eq (tgt := 170) hX dX7_lineNow_165 (by decide) ?_ ?_
      · exact w_X7_lineNow_170 M V hs hX r11.2
      · refine z_iconst (v := 5) hX dX7_lineNow_168 (by decide) ?_
        exact z_iret hX dX7_lineNow_169
  · refine z_iconst (v := 4) hX dX7_lineNow_138 (by decide) ?_
    exact z_iret hX dX7_lineNow_139
set_option maxHeartbeats 4000000 in
set_option maxRecDepth 100000 in
theorem w_X7_lineNow_92 (M : z_M) (V : z_V) (hs : z_isM V) (hX : z_Cx M V cX7_lineNow 1 (some .int) wsX7_lineNow RX7) (σ : z_St) : z_Go M rm_X7_lineNow 1 V (z_QI V) σ 92 [(0, .ref (z_ad V 0))] [] (f_X7_lineNow_92 σ) := by
  unfold f_X7_lineNow_92
  refine z_aload_n hX dX7_lineNow_92 rfl 0 rfl ?_
  refine z_iconst (v := 5) hX dX7_lineNow_93 (by decide) ?_
  refine z_bipush (v := 119) hX dX7_lineNow_94 (by decide) ?_
  refine z_bipush (v := 105) hX dX7_lineNow_96 (by decide) ?_
  refine z_bipush (v := 100) hX dX7_lineNow_98 (by decide) ?_
  refine z_bipush (v := 111) hX dX7_lineNow_100 (by decide) ?_
  refine z_callVI (n := 5) hX (c_X7_is M.2.1 V hX.2.2.2.2.2 hs (5 : Int32) (119 : Int32) (105 : Int32) (100 : Int32) (111 : Int32) σ) gX7_lineNow_X7_is rfl (by decide +kernel) ⟨by decide, by decide⟩ rfl rfl (z_mod0 hs) rfl rfl rfl rfl (Nat.le_of_ble_eq_true rfl) dX7_lineNow_102 (fun r4 _ => ?_)
  refine z_if_eq (tgt := 122) hX dX7_lineNow_105 (by decide) ?_ ?_
  · exact w_X7_lineNow_122 M V hs hX r4.2
  · refine z_aload_n hX dX7_lineNow_108 rfl 0 rfl ?_
    refine z_bipush (v := 119) hX dX7_lineNow_109 (by decide) ?_
    refine z_iconst (v := 0) hX dX7_lineNow_111 (by decide) ?_
    refine z_iconst (v := 0) hX dX7_lineNow_112 (by decide) ?_
    refine z_iconst (v := 0) hX dX7_lineNow_113 (by decide) ?_
    refine z_callVI (n := 4) hX (c_X7_ends M.2.1 V hX.2.2.2.2.2 hs (119 : Int32) (0 : Int32) (0 : Int32) (0 : Int32) r4.2) gX7_lineNow_X7_ends rfl (by decide +kernel) ⟨by decide, by decide⟩ rfl rfl (z_mod0 hs) rfl rfl rfl rfl (Nat.le_of_ble_eq_true rfl) dX7_lineNow_114 (fun r12 _ => ?_)
    refine z_if_eq (tgt := 122) hX dX7_lineNow_117 (by decide) ?_ ?_
    · exact w_X7_lineNow_122 M V hs hX r12.2
    · refine z_iconst (v := 3) hX dX7_lineNow_120 (by decide) ?_
      exact z_iret hX dX7_lineNow_121
set_option maxHeartbeats 4000000 in
set_option maxRecDepth 100000 in
theorem w_X7_lineNow_62 (M : z_M) (V : z_V) (hs : z_isM V) (hX : z_Cx M V cX7_lineNow 1 (some .int) wsX7_lineNow RX7) (σ : z_St) : z_Go M rm_X7_lineNow 1 V (z_QI V) σ 62 [(0, .ref (z_ad V 0))] [] (f_X7_lineNow_62 σ) := by
  unfold f_X7_lineNow_62
  refine z_aload_n hX dX7_lineNow_62 rfl 0 rfl ?_
  refine z_iconst (v := 5) hX dX7_lineNow_63 (by decide) ?_
  refine z_bipush (v := 98) hX dX7_lineNow_64 (by decide) ?_
  refine z_bipush (v := 114) hX dX7_lineNow_66 (by decide) ?_
  refine z_bipush (v := 105) hX dX7_lineNow_68 (by decide) ?_
  refine z_bipush (v := 100) hX dX7_lineNow_70 (by decide) ?_
  refine z_callVI (n := 5) hX (c_X7_is M.2.1 V hX.2.2.2.2.2 hs (5 : Int32) (98 : Int32) (114 : Int32) (105 : Int32) (100 : Int32) σ) gX7_lineNow_X7_is rfl (by decide +kernel) ⟨by decide, by decide⟩ rfl rfl (z_mod0 hs) rfl rfl rfl rfl (Nat.le_of_ble_eq_true rfl) dX7_lineNow_72 (fun r3 _ => ?_)
  refine z_if_eq (tgt := 92) hX dX7_lineNow_75 (by decide) ?_ ?_
  · exact w_X7_lineNow_92 M V hs hX r3.2
  · refine z_aload_n hX dX7_lineNow_78 rfl 0 rfl ?_
    refine z_bipush (v := 101) hX dX7_lineNow_79 (by decide) ?_
    refine z_iconst (v := 0) hX dX7_lineNow_81 (by decide) ?_
    refine z_iconst (v := 0) hX dX7_lineNow_82 (by decide) ?_
    refine z_iconst (v := 0) hX dX7_lineNow_83 (by decide) ?_
    refine z_callVI (n := 4) hX (c_X7_ends M.2.1 V hX.2.2.2.2.2 hs (101 : Int32) (0 : Int32) (0 : Int32) (0 : Int32) r3.2) gX7_lineNow_X7_ends rfl (by decide +kernel) ⟨by decide, by decide⟩ rfl rfl (z_mod0 hs) rfl rfl rfl rfl (Nat.le_of_ble_eq_true rfl) dX7_lineNow_84 (fun r13 _ => ?_)
    refine z_if_eq (tgt := 92) hX dX7_lineNow_87 (by decide) ?_ ?_
    · exact w_X7_lineNow_92 M V hs hX r13.2
    · refine z_iconst (v := 2) hX dX7_lineNow_90 (by decide) ?_
      exact z_iret hX dX7_lineNow_91
set_option maxHeartbeats 4000000 in
set_option maxRecDepth 100000 in
theorem w_X7_lineNow_30 (M : z_M) (V : z_V) (hs : z_isM V) (hX : z_Cx M V cX7_lineNow 1 (some .int) wsX7_lineNow RX7) (σ : z_St) : z_Go M rm_X7_lineNow 1 V (z_QI V) σ 30 [(0, .ref (z_ad V 0))] [] (f_X7_lineNow_30 σ) := by
  unfold f_X7_lineNow_30
  refine z_aload_n hX dX7_lineNow_30 rfl 0 rfl ?_
  refine z_bipush (v := 6) hX dX7_lineNow_31 (by decide) ?_
  refine z_bipush (v := 98) hX dX7_lineNow_33 (by decide) ?_
  refine z_bipush (v := 105) hX dX7_lineNow_35 (by decide) ?_
  refine z_bipush (v := 115) hX dX7_lineNow_37 (by decide) ?_
  refine z_bipush (v := 104) hX dX7_lineNow_39 (by decide) ?_
  refine z_callVI (n := 5) hX (c_X7_is M.2.1 V hX.2.2.2.2.2 hs (6 : Int32) (98 : Int32) (105 : Int32) (115 : Int32) (104 : Int32) σ) gX7_lineNow_X7_is rfl (by decide +kernel) ⟨by decide, by decide⟩ rfl rfl (z_mod0 hs) rfl rfl rfl rfl (Nat.le_of_ble_eq_true rfl) dX7_lineNow_41 (fun r2 _ => ?_)
  refine z_if_eq (tgt := 62) hX dX7_lineNow_44 (by decide) ?_ ?_
  · exact w_X7_lineNow_62 M V hs hX r2.2
  · refine z_aload_n hX dX7_lineNow_47 rfl 0 rfl ?_
    refine z_bipush (v := 111) hX dX7_lineNow_48 (by decide) ?_
    refine z_bipush (v := 112) hX dX7_lineNow_50 (by decide) ?_
    refine z_iconst (v := 0) hX dX7_lineNow_52 (by decide) ?_
    refine z_iconst (v := 0) hX dX7_lineNow_53 (by decide) ?_
    refine z_callVI (n := 4) hX (c_X7_ends M.2.1 V hX.2.2.2.2.2 hs (111 : Int32) (112 : Int32) (0 : Int32) (0 : Int32) r2.2) gX7_lineNow_X7_ends rfl (by decide +kernel) ⟨by decide, by decide⟩ rfl rfl (z_mod0 hs) rfl rfl rfl rfl (Nat.le_of_ble_eq_true rfl) dX7_lineNow_54 (fun r14 _ => ?_)
    refine z_if_eq (tgt := 62) hX dX7_lineNow_57 (by decide) ?_ ?_
    · exact w_X7_lineNow_62 M V hs hX r14.2
    · refine z_iconst (v := 1) hX dX7_lineNow_60 (by decide) ?_
      exact z_iret hX dX7_lineNow_61
set_option maxHeartbeats 4000000 in
set_option maxRecDepth 100000 in
theorem c_X7_lineNow (l : Launch) (V : z_V) (hV : z_ok V) (hs : z_isM V) (σ : z_St) : z_CtI l V yX7_lineNow wsX7_lineNow rm_X7_lineNow [.ref (z_ad V 0)] σ (f_X7_lineNow σ) := by
  refine z_startI (lv := [(0, .ref (z_ad V 0))]) hV (by decide) rfl (Nat.le_of_ble_eq_true rfl) rfl ?_
  intro M hM hX
  have hX : z_Cx M V cX7_lineNow 1 (some .int) wsX7_lineNow RX7 := hX
  unfold f_X7_lineNow
  refine z_aload_n hX dX7_lineNow_0 rfl 0 rfl ?_
  refine z_iconst (v := 5) hX dX7_lineNow_1 (by decide) ?_
  refine z_bipush (v := 112) hX dX7_lineNow_2 (by decide) ?_
  refine z_bipush (v := 108) hX dX7_lineNow_4 (by decide) ?_
  refine z_bipush (v := 97) hX dX7_lineNow_6 (by decide) ?_
  refine z_bipush (v := 105) hX dX7_lineNow_8 (by decide) ?_
  refine z_callVI (n := 5) hX (c_X7_is M.2.1 V hX.2.2.2.2.2 hs (5 : Int32) (112 : Int32) (108 : Int32) (97 : Int32) (105 : Int32) σ) gX7_lineNow_X7_is rfl (by decide +kernel) ⟨by decide, by decide⟩ rfl rfl (z_mod0 hs) rfl rfl rfl rfl (Nat.le_of_ble_eq_true rfl) dX7_lineNow_10 (fun r1 _ => ?_)
  refine z_if_eq (tgt := 30) hX dX7_lineNow_13 (by decide) ?_ ?_
  · exact w_X7_lineNow_30 M V hs hX r1.2
  · refine z_aload_n hX dX7_lineNow_16 rfl 0 rfl ?_
    refine z_bipush (v := 110) hX dX7_lineNow_17 (by decide) ?_
    refine z_iconst (v := 0) hX dX7_lineNow_19 (by decide) ?_
    refine z_iconst (v := 0) hX dX7_lineNow_20 (by decide) ?_
    refine z_iconst (v := 0) hX dX7_lineNow_21 (by decide) ?_
    refine z_callVI (n := 4) hX (c_X7_ends M.2.1 V hX.2.2.2.2.2 hs (110 : Int32) (0 : Int32) (0 : Int32) (0 : Int32) r1.2) gX7_lineNow_X7_ends rfl (by decide +kernel) ⟨by decide, by decide⟩ rfl rfl (z_mod0 hs) rfl rfl rfl rfl (Nat.le_of_ble_eq_true rfl) dX7_lineNow_22 (fun r15 _ => ?_)
    refine z_if_eq (tgt := 30) hX dX7_lineNow_25 (by decide) ?_ ?_
    · exact w_X7_lineNow_30 M V hs hX r15.2
    · refine z_iconst (v := 0) hX dX7_lineNow_28 (by decide) ?_
      exact z_iret hX dX7_lineNow_29

abbrev rm_X7_next : Room := { frames := 1, cells := 0, slots := 0, locals := 25 }
theorem in_X7_next_X7 : ∀ w ∈ wsX70, w ∈ wsX7_next := fun w h => List.mem_cons_of_mem _ (List.mem_append_right _ h)
theorem lk_X7_next_f117 : Cond.fieldLink RX7 117 (TX7 30).1 (TX7 30).2.1 (TX7 30).2.2.1 ∈ wsX7_next := by decide +kernel
theorem lk_X7_next_f126 : Cond.fieldLink RX7 126 (TX7 26).1 (TX7 26).2.1 (TX7 26).2.2.1 ∈ wsX7_next := by decide +kernel
theorem lk_X7_next_f120 : Cond.fieldLink RX7 120 (TX7 27).1 (TX7 27).2.1 (TX7 27).2.2.1 ∈ wsX7_next := by decide +kernel
theorem lk_X7_next_c144 : Cond.constantLong RX7 144 97 ∈ wsX7_next := by decide +kernel
theorem lk_X7_next_c146 : Cond.constantLong RX7 146 122 ∈ wsX7_next := by decide +kernel
theorem lk_X7_next_c148 : Cond.constantLong RX7 148 48 ∈ wsX7_next := by decide +kernel
theorem lk_X7_next_c150 : Cond.constantLong RX7 150 57 ∈ wsX7_next := by decide +kernel
theorem lk_X7_next_f141 : Cond.fieldLink RX7 141 (TX7 28).1 (TX7 28).2.1 (TX7 28).2.2.1 ∈ wsX7_next := by decide +kernel
theorem lk_X7_next_f152 : Cond.fieldLink RX7 152 (TX7 29).1 (TX7 29).2.1 (TX7 29).2.2.1 ∈ wsX7_next := by decide +kernel
set_option maxHeartbeats 4000000 in
set_option maxRecDepth 100000 in
theorem w_X7_next_260 (M : z_M) (V : z_V) (hs : z_isM V) (hX : z_Cx M V cX7_next 2 none wsX7_next RX7) (y0 : Int32) (σ : z_St) : z_Go M rm_X7_next 2 V (z_QV V) σ 260 [(0, .ref (z_ad V 0))] [.int y0, .ref (z_ad V 0)] (f_X7_next_260 y0 σ) := by
  unfold f_X7_next_260
  refine z_iconst (v := 1) hX dX7_next_260 (by decide) ?_
  refine z_callVV (n := 2) hX (c_X7_needs M.2.1 V hX.2.2.2.2.2 hs y0 (1 : Int32) σ) gX7_next_X7_needs rfl (by decide +kernel) ⟨by decide, by decide⟩ rfl rfl (z_mod0 hs) rfl rfl rfl rfl (Nat.le_of_ble_eq_true rfl) dX7_next_261 (fun r7 _ => ?_)
  refine z_aload_n hX dX7_next_264 rfl 0 rfl ?_
  refine z_dup hX dX7_next_265 rfl ?_
  refine z_getI (k := 26) hX (z_mod0 hs) rfl rfl in_X7_next_X7 (by decide) lk_X7_next_f126 dX7_next_266 ?_
  refine z_iconst (v := 1) hX dX7_next_269 (by decide) ?_
  refine z_iadd hX dX7_next_270 ?_
  refine z_put1 (k := 26) hX (z_mod0 hs) rfl rfl in_X7_next_X7 (by decide) lk_X7_next_f126 tyX7 tyX7_ok nmX7 rfl rfl rfl dX7_next_271 (z_bs fun s8 => ?_)
  exact z_vret hX dX7_next_274
set_option maxHeartbeats 4000000 in
set_option maxRecDepth 100000 in
theorem w_X7_next_201 (M : z_M) (V : z_V) (hs : z_isM V) (hX : z_Cx M V cX7_next 2 none wsX7_next RX7) (K140 : z_St → Option (Int32 × z_St)) (hK140 : ∀ (σ : z_St), z_Go M rm_X7_next 2 V (z_QV V) σ 140 [(0, .ref (z_ad V 0))] [] (K140 σ)) (y0 : Int32) (σ : z_St) : z_Go M rm_X7_next 2 V (z_QV V) σ 201 [(0, .ref (z_ad V 0))] [.int y0, .ref (z_ad V 0)] (f_X7_next_201 K140 y0 σ) := by
  unfold f_X7_next_201
  refine z_put1 (k := 29) hX (z_mod0 hs) rfl rfl in_X7_next_X7 (by decide) lk_X7_next_f152 tyX7 tyX7_ok nmX7 rfl rfl rfl dX7_next_201 (z_bs fun s15 => ?_)
  refine z_aload_n hX dX7_next_204 rfl 0 rfl ?_
  refine z_dup hX dX7_next_205 rfl ?_
  refine z_getI (k := 26) hX (z_mod0 hs) rfl rfl in_X7_next_X7 (by decide) lk_X7_next_f126 dX7_next_206 ?_
  refine z_iconst (v := 1) hX dX7_next_209 (by decide) ?_
  refine z_iadd hX dX7_next_210 ?_
  refine z_put1 (k := 26) hX (z_mod0 hs) rfl rfl in_X7_next_X7 (by decide) lk_X7_next_f126 tyX7 tyX7_ok nmX7 rfl rfl rfl dX7_next_211 (z_bs fun s16 => ?_)
  refine z_goto (tgt := 140) hX dX7_next_214 (by decide) ?_
  exact hK140 s16
set_option maxHeartbeats 4000000 in
set_option maxRecDepth 100000 in
theorem w_X7_next_140 (M : z_M) (V : z_V) (hs : z_isM V) (hX : z_Cx M V cX7_next 2 none wsX7_next RX7) : ∀ (n : Nat) (σ : z_St), z_Go M rm_X7_next 2 V (z_QV V) σ 140 [(0, .ref (z_ad V 0))] [] (f_X7_next_140 n σ) := by
  intro n
  induction n with
  | zero => intro σ; exact z_none
  | succ n ih =>
    intro σ
    rw [f_X7_next_140]
    refine z_aload_n hX dX7_next_140 rfl 0 rfl ?_
    refine z_aload_n hX dX7_next_141 rfl 0 rfl ?_
    refine z_getI (k := 26) hX (z_mod0 hs) rfl rfl in_X7_next_X7 (by decide) lk_X7_next_f126 dX7_next_142 ?_
    refine z_callVI (n := 1) hX (c_X7_byteAt M.2.1 V hX.2.2.2.2.2 hs (σ 0 26) σ) gX7_next_X7_byteAt rfl (by decide +kernel) ⟨by decide, by decide⟩ rfl rfl (z_mod0 hs) rfl rfl rfl rfl (Nat.le_of_ble_eq_true rfl) dX7_next_145 (fun r11 _ => ?_)
    refine z_i2l hX dX7_next_148 ?_
    refine z_ldc2 (v := 48) hX lk_X7_next_c148 dX7_next_149 ?_
    refine z_ldc2 (v := 57) hX lk_X7_next_c150 dX7_next_152 ?_
    refine z_callSI (n := 3) hX (c_X7_in M.2.1 V hX.2.2.2.2.2 hs r11.1.toInt64 (48 : Int64) (57 : Int64) r11.2) gX7_next_X7_in rfl (by decide +kernel) ⟨by decide, by decide⟩ rfl rfl rfl rfl (Nat.le_of_ble_eq_true rfl) dX7_next_155 (fun r12 _ => ?_)
    refine z_if_eq (tgt := 217) hX dX7_next_158 (by decide) ?_ ?_
    · refine z_aload_n hX dX7_next_217 rfl 0 rfl ?_
      refine z_aload_n hX dX7_next_218 rfl 0 rfl ?_
      refine z_getI (k := 26) hX (z_mod0 hs) rfl rfl in_X7_next_X7 (by decide) lk_X7_next_f126 dX7_next_219 ?_
      refine z_aload_n hX dX7_next_222 rfl 0 rfl ?_
      refine z_getI (k := 27) hX (z_mod0 hs) rfl rfl in_X7_next_X7 (by decide) lk_X7_next_f120 dX7_next_223 ?_
      refine z_isub hX dX7_next_226 ?_
      refine z_iconst (v := 2) hX dX7_next_227 (by decide) ?_
      refine z_icmp_gt (tgt := 235) hX dX7_next_228 (by decide) ?_ ?_
      · refine z_iconst (v := 0) hX dX7_next_235 (by decide) ?_
        refine z_iconst (v := 1) hX dX7_next_236 (by decide) ?_
        refine z_callVV (n := 2) hX (c_X7_needs M.2.1 V hX.2.2.2.2.2 hs (0 : Int32) (1 : Int32) r12.2) gX7_next_X7_needs rfl (by decide +kernel) ⟨by decide, by decide⟩ rfl rfl (z_mod0 hs) rfl rfl rfl rfl (Nat.le_of_ble_eq_true rfl) dX7_next_237 (fun r13 _ => ?_)
        refine z_goto (tgt := 274) hX dX7_next_240 (by decide) ?_
        exact z_vret hX dX7_next_274
      · refine z_iconst (v := 1) hX dX7_next_231 (by decide) ?_
        refine z_goto (tgt := 236) hX dX7_next_232 (by decide) ?_
        refine z_iconst (v := 1) hX dX7_next_236 (by decide) ?_
        refine z_callVV (n := 2) hX (c_X7_needs M.2.1 V hX.2.2.2.2.2 hs (1 : Int32) (1 : Int32) r12.2) gX7_next_X7_needs rfl (by decide +kernel) ⟨by decide, by decide⟩ rfl rfl (z_mod0 hs) rfl rfl rfl rfl (Nat.le_of_ble_eq_true rfl) dX7_next_237 (fun r14 _ => ?_)
        refine z_goto (tgt := 274) hX dX7_next_240 (by decide) ?_
        exact z_vret hX dX7_next_274
    · refine z_aload_n hX dX7_next_161 rfl 0 rfl ?_
      refine z_aload_n hX dX7_next_162 rfl 0 rfl ?_
      refine z_getI (k := 26) hX (z_mod0 hs) rfl rfl in_X7_next_X7 (by decide) lk_X7_next_f126 dX7_next_163 ?_
      refine z_aload_n hX dX7_next_166 rfl 0 rfl ?_
      refine z_getI (k := 27) hX (z_mod0 hs) rfl rfl in_X7_next_X7 (by decide) lk_X7_next_f120 dX7_next_167 ?_
      refine z_isub hX dX7_next_170 ?_
      refine z_iconst (v := 2) hX dX7_next_171 (by decide) ?_
      refine z_icmp_ge (tgt := 197) hX dX7_next_172 (by decide) ?_ ?_
      · refine z_aload_n hX dX7_next_197 rfl 0 rfl ?_
        refine z_getI (k := 29) hX (z_mod0 hs) rfl rfl in_X7_next_X7 (by decide) lk_X7_next_f152 dX7_next_198 ?_
        exact w_X7_next_201 M V hs hX (fun σ => f_X7_next_140 n σ) ih (r12.2 0 29) r12.2
      · refine z_bipush (v := 10) hX dX7_next_175 (by decide) ?_
        refine z_aload_n hX dX7_next_177 rfl 0 rfl ?_
        refine z_getI (k := 29) hX (z_mod0 hs) rfl rfl in_X7_next_X7 (by decide) lk_X7_next_f152 dX7_next_178 ?_
        refine z_imul hX dX7_next_181 ?_
        refine z_aload_n hX dX7_next_182 rfl 0 rfl ?_
        refine z_aload_n hX dX7_next_183 rfl 0 rfl ?_
        refine z_getI (k := 26) hX (z_mod0 hs) rfl rfl in_X7_next_X7 (by decide) lk_X7_next_f126 dX7_next_184 ?_
        refine z_callVI (n := 1) hX (c_X7_byteAt M.2.1 V hX.2.2.2.2.2 hs (r12.2 0 26) r12.2) gX7_next_X7_byteAt rfl (by decide +kernel) ⟨by decide, by decide⟩ rfl rfl (z_mod0 hs) rfl rfl rfl rfl (Nat.le_of_ble_eq_true rfl) dX7_next_187 (fun r17 _ => ?_)
        refine z_iadd hX dX7_next_190 ?_
        refine z_bipush (v := 48) hX dX7_next_191 (by decide) ?_
        refine z_isub hX dX7_next_193 ?_
        refine z_goto (tgt := 201) hX dX7_next_194 (by decide) ?_
        exact w_X7_next_201 M V hs hX (fun σ => f_X7_next_140 n σ) ih ((((10 : Int32) * (r12.2 0 29)) + r17.1) - (48 : Int32)) r17.2
set_option maxHeartbeats 4000000 in
set_option maxRecDepth 100000 in
theorem w_X7_next_82 (M : z_M) (V : z_V) (hs : z_isM V) (hX : z_Cx M V cX7_next 2 none wsX7_next RX7) : ∀ (n : Nat) (σ : z_St), z_Go M rm_X7_next 2 V (z_QV V) σ 82 [(0, .ref (z_ad V 0))] [] (f_X7_next_82 n σ) := by
  intro n
  induction n with
  | zero => intro σ; exact z_none
  | succ n ih =>
    intro σ
    rw [f_X7_next_82]
    refine z_aload_n hX dX7_next_82 rfl 0 rfl ?_
    refine z_aload_n hX dX7_next_83 rfl 0 rfl ?_
    refine z_getI (k := 26) hX (z_mod0 hs) rfl rfl in_X7_next_X7 (by decide) lk_X7_next_f126 dX7_next_84 ?_
    refine z_callVI (n := 1) hX (c_X7_byteAt M.2.1 V hX.2.2.2.2.2 hs (σ 0 26) σ) gX7_next_X7_byteAt rfl (by decide +kernel) ⟨by decide, by decide⟩ rfl rfl (z_mod0 hs) rfl rfl rfl rfl (Nat.le_of_ble_eq_true rfl) dX7_next_87 (fun r19 _ => ?_)
    refine z_i2l hX dX7_next_90 ?_
    refine z_ldc2 (v := 97) hX lk_X7_next_c144 dX7_next_91 ?_
    refine z_ldc2 (v := 122) hX lk_X7_next_c146 dX7_next_94 ?_
    refine z_callSI (n := 3) hX (c_X7_in M.2.1 V hX.2.2.2.2.2 hs r19.1.toInt64 (97 : Int64) (122 : Int64) r19.2) gX7_next_X7_in rfl (by decide +kernel) ⟨by decide, by decide⟩ rfl rfl rfl rfl (Nat.le_of_ble_eq_true rfl) dX7_next_97 (fun r20 _ => ?_)
    refine z_if_eq (tgt := 274) hX dX7_next_100 (by decide) ?_ ?_
    · exact z_vret hX dX7_next_274
    · refine z_aload_n hX dX7_next_103 rfl 0 rfl ?_
      refine z_dup hX dX7_next_104 rfl ?_
      refine z_getI (k := 26) hX (z_mod0 hs) rfl rfl in_X7_next_X7 (by decide) lk_X7_next_f126 dX7_next_105 ?_
      refine z_iconst (v := 1) hX dX7_next_108 (by decide) ?_
      refine z_iadd hX dX7_next_109 ?_
      refine z_put1 (k := 26) hX (z_mod0 hs) rfl rfl in_X7_next_X7 (by decide) lk_X7_next_f126 tyX7 tyX7_ok nmX7 rfl rfl rfl dX7_next_110 (z_bs fun s21 => ?_)
      refine z_goto (tgt := 82) hX dX7_next_113 (by decide) ?_
      exact ih s21
set_option maxHeartbeats 4000000 in
set_option maxRecDepth 100000 in
theorem w_X7_next_8 (M : z_M) (V : z_V) (hs : z_isM V) (hX : z_Cx M V cX7_next 2 none wsX7_next RX7) : ∀ (n : Nat) (σ : z_St), z_Go M rm_X7_next 2 V (z_QV V) σ 8 [(0, .ref (z_ad V 0))] [] (f_X7_next_8 n σ) := by
  intro n
  induction n with
  | zero => intro σ; exact z_none
  | succ n ih =>
    intro σ
    rw [f_X7_next_8]
    refine z_aload_n hX dX7_next_8 rfl 0 rfl ?_
    refine z_aload_n hX dX7_next_9 rfl 0 rfl ?_
    refine z_getI (k := 26) hX (z_mod0 hs) rfl rfl in_X7_next_X7 (by decide) lk_X7_next_f126 dX7_next_10 ?_
    refine z_callVI (n := 1) hX (c_X7_byteAt M.2.1 V hX.2.2.2.2.2 hs (σ 0 26) σ) gX7_next_X7_byteAt rfl (by decide +kernel) ⟨by decide, by decide⟩ rfl rfl (z_mod0 hs) rfl rfl rfl rfl (Nat.le_of_ble_eq_true rfl) dX7_next_13 (fun r1 _ => ?_)
    refine z_bipush (v := 32) hX dX7_next_16 (by decide) ?_
    refine z_icmp_ne (tgt := 34) hX dX7_next_18 (by decide) ?_ ?_
    · refine z_aload_n hX dX7_next_34 rfl 0 rfl ?_
      refine z_aload_n hX dX7_next_35 rfl 0 rfl ?_
      refine z_getI (k := 26) hX (z_mod0 hs) rfl rfl in_X7_next_X7 (by decide) lk_X7_next_f126 dX7_next_36 ?_
      refine z_put1 (k := 27) hX (z_mod0 hs) rfl rfl in_X7_next_X7 (by decide) lk_X7_next_f120 tyX7 tyX7_ok nmX7 rfl rfl rfl dX7_next_39 (z_bs fun s2 => ?_)
      refine z_aload_n hX dX7_next_42 rfl 0 rfl ?_
      refine z_aload_n hX dX7_next_43 rfl 0 rfl ?_
      refine z_getI (k := 26) hX (z_mod0 hs) rfl rfl in_X7_next_X7 (by decide) lk_X7_next_f126 dX7_next_44 ?_
      refine z_callVI (n := 1) hX (c_X7_byteAt M.2.1 V hX.2.2.2.2.2 hs (s2 0 26) s2) gX7_next_X7_byteAt rfl (by decide +kernel) ⟨by decide, by decide⟩ rfl rfl (z_mod0 hs) rfl rfl rfl rfl (Nat.le_of_ble_eq_true rfl) dX7_next_47 (fun r3 _ => ?_)
      refine z_istore_n (lv' := [(1, .int r3.1), (0, .ref (z_ad V 0))]) hX dX7_next_50 rfl (by decide) rfl ?_
      refine z_iload_n hX dX7_next_51 rfl 0 rfl ?_
      refine z_if_ge (tgt := 63) hX dX7_next_52 (by decide) ?_ ?_
      · refine z_iload_n hX dX7_next_63 rfl 0 rfl ?_
        refine z_i2l hX dX7_next_64 ?_
        refine z_ldc2 (v := 97) hX lk_X7_next_c144 dX7_next_65 ?_
        refine z_ldc2 (v := 122) hX lk_X7_next_c146 dX7_next_68 ?_
        refine z_callSI (n := 3) hX (c_X7_in M.2.1 V hX.2.2.2.2.2 hs r3.1.toInt64 (97 : Int64) (122 : Int64) r3.2) gX7_next_X7_in rfl (by decide +kernel) ⟨by decide, by decide⟩ rfl rfl rfl rfl (Nat.le_of_ble_eq_true rfl) dX7_next_71 (fun r4 _ => ?_)
        refine z_if_eq (tgt := 116) hX dX7_next_74 (by decide) ?_ ?_
        · refine z_iload_n hX dX7_next_116 rfl 0 rfl ?_
          refine z_i2l hX dX7_next_117 ?_
          refine z_ldc2 (v := 48) hX lk_X7_next_c148 dX7_next_118 ?_
          refine z_ldc2 (v := 57) hX lk_X7_next_c150 dX7_next_121 ?_
          refine z_callSI (n := 3) hX (c_X7_in M.2.1 V hX.2.2.2.2.2 hs r3.1.toInt64 (48 : Int64) (57 : Int64) r4.2) gX7_next_X7_in rfl (by decide +kernel) ⟨by decide, by decide⟩ rfl rfl rfl rfl (Nat.le_of_ble_eq_true rfl) dX7_next_124 (fun r5 _ => ?_)
          refine z_if_eq (tgt := 243) hX dX7_next_127 (by decide) ?_ ?_
          · refine z_aload_n hX dX7_next_243 rfl 1 rfl ?_
            refine z_iconst (v := 3) hX dX7_next_244 (by decide) ?_
            refine z_put1 (k := 28) hX (z_mod0 hs) rfl rfl in_X7_next_X7 (by decide) lk_X7_next_f141 tyX7 tyX7_ok nmX7 rfl rfl rfl dX7_next_245 (z_bs fun s6 => ?_)
            refine z_aload_n hX dX7_next_248 rfl 1 rfl ?_
            refine z_iload_n hX dX7_next_249 rfl 0 rfl ?_
            refine z_bipush (v := 59) hX dX7_next_250 (by decide) ?_
            refine z_icmp_ne (tgt := 259) hX dX7_next_252 (by decide) ?_ ?_
            · refine z_iconst (v := 0) hX dX7_next_259 (by decide) ?_
              refine z_sub [1] rfl ?_
              exact w_X7_next_260 M V hs hX (0 : Int32) s6
            · refine z_iconst (v := 1) hX dX7_next_255 (by decide) ?_
              refine z_goto (tgt := 260) hX dX7_next_256 (by decide) ?_
              refine z_sub [1] rfl ?_
              exact w_X7_next_260 M V hs hX (1 : Int32) s6
          · refine z_aload_n hX dX7_next_130 rfl 1 rfl ?_
            refine z_iconst (v := 2) hX dX7_next_131 (by decide) ?_
            refine z_put1 (k := 28) hX (z_mod0 hs) rfl rfl in_X7_next_X7 (by decide) lk_X7_next_f141 tyX7 tyX7_ok nmX7 rfl rfl rfl dX7_next_132 (z_bs fun s9 => ?_)
            refine z_aload_n hX dX7_next_135 rfl 1 rfl ?_
            refine z_iconst (v := 0) hX dX7_next_136 (by decide) ?_
            refine z_put1 (k := 29) hX (z_mod0 hs) rfl rfl in_X7_next_X7 (by decide) lk_X7_next_f152 tyX7 tyX7_ok nmX7 rfl rfl rfl dX7_next_137 (z_bs fun s10 => ?_)
            refine z_sub [1] rfl ?_
            exact w_X7_next_140 M V hs hX 200 s10
        · refine z_aload_n hX dX7_next_77 rfl 1 rfl ?_
          refine z_iconst (v := 1) hX dX7_next_78 (by decide) ?_
          refine z_put1 (k := 28) hX (z_mod0 hs) rfl rfl in_X7_next_X7 (by decide) lk_X7_next_f141 tyX7 tyX7_ok nmX7 rfl rfl rfl dX7_next_79 (z_bs fun s18 => ?_)
          refine z_sub [1] rfl ?_
          exact w_X7_next_82 M V hs hX 200 s18
      · refine z_aload_n hX dX7_next_55 rfl 1 rfl ?_
        refine z_iconst (v := 0) hX dX7_next_56 (by decide) ?_
        refine z_put1 (k := 28) hX (z_mod0 hs) rfl rfl in_X7_next_X7 (by decide) lk_X7_next_f141 tyX7 tyX7_ok nmX7 rfl rfl rfl dX7_next_57 (z_bs fun s22 => ?_)
        refine z_goto (tgt := 274) hX dX7_next_60 (by decide) ?_
        exact z_vret hX dX7_next_274
    · refine z_aload_n hX dX7_next_21 rfl 0 rfl ?_
      refine z_dup hX dX7_next_22 rfl ?_
      refine z_getI (k := 26) hX (z_mod0 hs) rfl rfl in_X7_next_X7 (by decide) lk_X7_next_f126 dX7_next_23 ?_
      refine z_iconst (v := 1) hX dX7_next_26 (by decide) ?_
      refine z_iadd hX dX7_next_27 ?_
      refine z_put1 (k := 26) hX (z_mod0 hs) rfl rfl in_X7_next_X7 (by decide) lk_X7_next_f126 tyX7 tyX7_ok nmX7 rfl rfl rfl dX7_next_28 (z_bs fun s23 => ?_)
      refine z_goto (tgt := 8) hX dX7_next_31 (by decide) ?_
      exact ih s23
set_option maxHeartbeats 4000000 in
set_option maxRecDepth 100000 in
theorem c_X7_next (l : Launch) (V : z_V) (hV : z_ok V) (hs : z_isM V) (σ : z_St) : z_CtV l V yX7_next wsX7_next rm_X7_next [.ref (z_ad V 0)] σ (f_X7_next σ) := by
  refine z_startV (lv := [(0, .ref (z_ad V 0))]) hV (by decide) rfl (Nat.le_of_ble_eq_true rfl) rfl ?_
  intro M hM hX
  have hX : z_Cx M V cX7_next 2 none wsX7_next RX7 := hX
  unfold f_X7_next
  refine z_aload_n hX dX7_next_0 rfl 0 rfl ?_
  refine z_getI (k := 30) hX (z_mod0 hs) rfl rfl in_X7_next_X7 (by decide) lk_X7_next_f117 dX7_next_1 ?_
  refine z_if_le (tgt := 8) hX dX7_next_4 (by decide) ?_ ?_
  · exact w_X7_next_8 M V hs hX 200 σ
  · exact z_vret hX dX7_next_7

abbrev rm_X7_readNumber : Room := { frames := 2, cells := 0, slots := 0, locals := 46 }
theorem in_X7_readNumber_X7 : ∀ w ∈ wsX70, w ∈ wsX7_readNumber := fun w h => List.mem_cons_of_mem _ (List.mem_append_right _ h)
theorem lk_X7_readNumber_f117 : Cond.fieldLink RX7 117 (TX7 30).1 (TX7 30).2.1 (TX7 30).2.2.1 ∈ wsX7_readNumber := by decide +kernel
theorem lk_X7_readNumber_f152 : Cond.fieldLink RX7 152 (TX7 29).1 (TX7 29).2.1 (TX7 29).2.2.1 ∈ wsX7_readNumber := by decide +kernel
theorem lk_X7_readNumber_f141 : Cond.fieldLink RX7 141 (TX7 28).1 (TX7 28).2.1 (TX7 28).2.2.1 ∈ wsX7_readNumber := by decide +kernel
set_option maxHeartbeats 4000000 in
set_option maxRecDepth 100000 in
theorem w_X7_readNumber_49 (M : z_M) (V : z_V) (hs : z_isM V) (hX : z_Cx M V cX7_readNumber 4 (some .int) wsX7_readNumber RX7) (σ : z_St) : z_Go M rm_X7_readNumber 4 V (z_QI V) σ 49 [(0, .ref (z_ad V 0))] [] (f_X7_readNumber_49 σ) := by
  unfold f_X7_readNumber_49
  refine z_aload_n hX dX7_readNumber_49 rfl 0 rfl ?_
  refine z_getI (k := 30) hX (z_mod0 hs) rfl rfl in_X7_readNumber_X7 (by decide) lk_X7_readNumber_f117 dX7_readNumber_50 ?_
  refine z_if_ne (tgt := 63) hX dX7_readNumber_53 (by decide) ?_ ?_
  · refine z_iconst (v := 0) hX dX7_readNumber_63 (by decide) ?_
    refine z_istore_n (lv' := [(3, .int (0 : Int32)), (0, .ref (z_ad V 0))]) hX dX7_readNumber_64 rfl (by decide) rfl ?_
    refine z_aload_n hX dX7_readNumber_65 rfl 1 rfl ?_
    refine z_callVV (n := 0) hX (c_X7_next M.2.1 V hX.2.2.2.2.2 hs σ) gX7_readNumber_X7_next rfl (by decide +kernel) ⟨by decide, by decide⟩ rfl rfl (z_mod0 hs) rfl rfl rfl rfl (Nat.le_of_ble_eq_true rfl) dX7_readNumber_66 (fun r1 _ => ?_)
    refine z_iload_n hX dX7_readNumber_69 rfl 0 rfl ?_
    exact z_iret hX dX7_readNumber_70
  · refine z_aload_n hX dX7_readNumber_56 rfl 0 rfl ?_
    refine z_getI (k := 29) hX (z_mod0 hs) rfl rfl in_X7_readNumber_X7 (by decide) lk_X7_readNumber_f152 dX7_readNumber_57 ?_
    refine z_goto (tgt := 64) hX dX7_readNumber_60 (by decide) ?_
    refine z_istore_n (lv' := [(3, .int (σ 0 29)), (0, .ref (z_ad V 0))]) hX dX7_readNumber_64 rfl (by decide) rfl ?_
    refine z_aload_n hX dX7_readNumber_65 rfl 1 rfl ?_
    refine z_callVV (n := 0) hX (c_X7_next M.2.1 V hX.2.2.2.2.2 hs σ) gX7_readNumber_X7_next rfl (by decide +kernel) ⟨by decide, by decide⟩ rfl rfl (z_mod0 hs) rfl rfl rfl rfl (Nat.le_of_ble_eq_true rfl) dX7_readNumber_66 (fun r2 _ => ?_)
    refine z_iload_n hX dX7_readNumber_69 rfl 0 rfl ?_
    exact z_iret hX dX7_readNumber_70
set_option maxHeartbeats 4000000 in
set_option maxRecDepth 100000 in
theorem w_X7_readNumber_25 (M : z_M) (V : z_V) (hs : z_isM V) (hX : z_Cx M V cX7_readNumber 4 (some .int) wsX7_readNumber RX7) (x1 : Int32) (x2 : Int32) (σ : z_St) : z_Go M rm_X7_readNumber 4 V (z_QI V) σ 25 [(0, .ref (z_ad V 0)), (1, .int x1), (2, .int x2)] [] (f_X7_readNumber_25 x1 x2 σ) := by
  unfold f_X7_readNumber_25
  refine z_aload_n hX dX7_readNumber_25 rfl 0 rfl ?_
  refine z_getI (k := 30) hX (z_mod0 hs) rfl rfl in_X7_readNumber_X7 (by decide) lk_X7_readNumber_f117 dX7_readNumber_26 ?_
  refine z_if_ne (tgt := 49) hX dX7_readNumber_29 (by decide) ?_ ?_
  · refine z_sub [0] rfl ?_
    exact w_X7_readNumber_49 M V hs hX σ
  · refine z_aload_n hX dX7_readNumber_32 rfl 0 rfl ?_
    refine z_aload_n hX dX7_readNumber_33 rfl 0 rfl ?_
    refine z_getI (k := 29) hX (z_mod0 hs) rfl rfl in_X7_readNumber_X7 (by decide) lk_X7_readNumber_f152 dX7_readNumber_34 ?_
    refine z_i2l hX dX7_readNumber_37 ?_
    refine z_iload_n hX dX7_readNumber_38 rfl 1 rfl ?_
    refine z_i2l hX dX7_readNumber_39 ?_
    refine z_iload_n hX dX7_readNumber_40 rfl 2 rfl ?_
    refine z_i2l hX dX7_readNumber_41 ?_
    refine z_callSI (n := 3) hX (c_X7_in M.2.1 V hX.2.2.2.2.2 hs (σ 0 29).toInt64 x1.toInt64 x2.toInt64 σ) gX7_readNumber_X7_in rfl (by decide +kernel) ⟨by decide, by decide⟩ rfl rfl rfl rfl (Nat.le_of_ble_eq_true rfl) dX7_readNumber_42 (fun r3 _ => ?_)
    refine z_iconst (v := 3) hX dX7_readNumber_45 (by decide) ?_
    refine z_callVV (n := 2) hX (c_X7_needs M.2.1 V hX.2.2.2.2.2 hs r3.1 (3 : Int32) r3.2) gX7_readNumber_X7_needs rfl (by decide +kernel) ⟨by decide, by decide⟩ rfl rfl (z_mod0 hs) rfl rfl rfl rfl (Nat.le_of_ble_eq_true rfl) dX7_readNumber_46 (fun r4 _ => ?_)
    refine z_sub [0] rfl ?_
    exact w_X7_readNumber_49 M V hs hX r4.2
set_option maxHeartbeats 4000000 in
set_option maxRecDepth 100000 in
theorem c_X7_readNumber (l : Launch) (V : z_V) (hV : z_ok V) (hs : z_isM V) (x1 : Int32) (x2 : Int32) (σ : z_St) : z_CtI l V yX7_readNumber wsX7_readNumber rm_X7_readNumber [.ref (z_ad V 0), .int x1, .int x2] σ (f_X7_readNumber x1 x2 σ) := by
  refine z_startI (lv := [(0, .ref (z_ad V 0)), (1, .int x1), (2, .int x2)]) hV (by decide) rfl (Nat.le_of_ble_eq_true rfl) rfl ?_
  intro M hM hX
  have hX : z_Cx M V cX7_readNumber 4 (some .int) wsX7_readNumber RX7 := hX
  unfold f_X7_readNumber
  refine z_aload_n hX dX7_readNumber_0 rfl 0 rfl ?_
  refine z_getI (k := 30) hX (z_mod0 hs) rfl rfl in_X7_readNumber_X7 (by decide) lk_X7_readNumber_f117 dX7_readNumber_1 ?_
  refine z_if_ne (tgt := 25) hX dX7_readNumber_4 (by decide) ?_ ?_
  · exact w_X7_readNumber_25 M V hs hX x1 x2 σ
  · refine z_aload_n hX dX7_readNumber_7 rfl 0 rfl ?_
    refine z_aload_n hX dX7_readNumber_8 rfl 0 rfl ?_
    refine z_getI (k := 28) hX (z_mod0 hs) rfl rfl in_X7_readNumber_X7 (by decide) lk_X7_readNumber_f141 dX7_readNumber_9 ?_
    refine z_iconst (v := 2) hX dX7_readNumber_12 (by decide) ?_
    refine z_icmp_ne (tgt := 20) hX dX7_readNumber_13 (by decide) ?_ ?_
    · refine z_iconst (v := 0) hX dX7_readNumber_20 (by decide) ?_
      refine z_iconst (v := 2) hX dX7_readNumber_21 (by decide) ?_
      refine z_callVV (n := 2) hX (c_X7_needs M.2.1 V hX.2.2.2.2.2 hs (0 : Int32) (2 : Int32) σ) gX7_readNumber_X7_needs rfl (by decide +kernel) ⟨by decide, by decide⟩ rfl rfl (z_mod0 hs) rfl rfl rfl rfl (Nat.le_of_ble_eq_true rfl) dX7_readNumber_22 (fun r5 _ => ?_)
      exact w_X7_readNumber_25 M V hs hX x1 x2 r5.2
    · refine z_iconst (v := 1) hX dX7_readNumber_16 (by decide) ?_
      refine z_goto (tgt := 21) hX dX7_readNumber_17 (by decide) ?_
      refine z_iconst (v := 2) hX dX7_readNumber_21 (by decide) ?_
      refine z_callVV (n := 2) hX (c_X7_needs M.2.1 V hX.2.2.2.2.2 hs (1 : Int32) (2 : Int32) σ) gX7_readNumber_X7_needs rfl (by decide +kernel) ⟨by decide, by decide⟩ rfl rfl (z_mod0 hs) rfl rfl rfl rfl (Nat.le_of_ble_eq_true rfl) dX7_readNumber_22 (fun r6 _ => ?_)
      exact w_X7_readNumber_25 M V hs hX x1 x2 r6.2

abbrev rm_X7_readPerson : Room := { frames := 3, cells := 0, slots := 0, locals := 69 }
theorem in_X7_readPerson_X7 : ∀ w ∈ wsX70, w ∈ wsX7_readPerson := fun w h => List.mem_cons_of_mem _ (List.mem_append_right _ h)
theorem lk_X7_readPerson_f96 : Cond.fieldLink RX7 96 (TX7 23).1 (TX7 23).2.1 (TX7 23).2.2.1 ∈ wsX7_readPerson := by decide +kernel
set_option maxHeartbeats 4000000 in
set_option maxRecDepth 100000 in
theorem c_X7_readPerson (l : Launch) (V : z_V) (hV : z_ok V) (hs : z_isM V) (σ : z_St) : z_CtI l V yX7_readPerson wsX7_readPerson rm_X7_readPerson [.ref (z_ad V 0)] σ (f_X7_readPerson σ) := by
  refine z_startI (lv := [(0, .ref (z_ad V 0))]) hV (by decide) rfl (Nat.le_of_ble_eq_true rfl) rfl ?_
  intro M hM hX
  have hX : z_Cx M V cX7_readPerson 2 (some .int) wsX7_readPerson RX7 := hX
  unfold f_X7_readPerson
  refine z_aload_n hX dX7_readPerson_0 rfl 0 rfl ?_
  refine z_iconst (v := 0) hX dX7_readPerson_1 (by decide) ?_
  refine z_iconst (v := 3) hX dX7_readPerson_2 (by decide) ?_
  refine z_callVI (n := 2) hX (c_X7_readNumber M.2.1 V hX.2.2.2.2.2 hs (0 : Int32) (3 : Int32) σ) gX7_readPerson_X7_readNumber rfl (by decide +kernel) ⟨by decide, by decide⟩ rfl rfl (z_mod0 hs) rfl rfl rfl rfl (Nat.le_of_ble_eq_true rfl) dX7_readPerson_3 (fun r1 _ => ?_)
  refine z_istore_n (lv' := [(1, .int r1.1), (0, .ref (z_ad V 0))]) hX dX7_readPerson_6 rfl (by decide) rfl ?_
  refine z_aload_n hX dX7_readPerson_7 rfl 1 rfl ?_
  refine z_iload_n hX dX7_readPerson_8 rfl 0 rfl ?_
  refine z_aload_n hX dX7_readPerson_9 rfl 1 rfl ?_
  refine z_getI (k := 23) hX (z_mod0 hs) rfl rfl in_X7_readPerson_X7 (by decide) lk_X7_readPerson_f96 dX7_readPerson_10 ?_
  refine z_icmp_le (tgt := 20) hX dX7_readPerson_13 (by decide) ?_ ?_
  · refine z_aload_n hX dX7_readPerson_20 rfl 1 rfl ?_
    refine z_getI (k := 23) hX (z_mod0 hs) rfl rfl in_X7_readPerson_X7 (by decide) lk_X7_readPerson_f96 dX7_readPerson_21 ?_
    refine z_put1 (k := 23) hX (z_mod0 hs) rfl rfl in_X7_readPerson_X7 (by decide) lk_X7_readPerson_f96 tyX7 tyX7_ok nmX7 rfl rfl rfl dX7_readPerson_24 (z_bs fun s2 => ?_)
    refine z_iload_n hX dX7_readPerson_27 rfl 0 rfl ?_
    exact z_iret hX dX7_readPerson_28
  · refine z_iload_n hX dX7_readPerson_16 rfl 0 rfl ?_
    refine z_goto (tgt := 24) hX dX7_readPerson_17 (by decide) ?_
    refine z_put1 (k := 23) hX (z_mod0 hs) rfl rfl in_X7_readPerson_X7 (by decide) lk_X7_readPerson_f96 tyX7 tyX7_ok nmX7 rfl rfl rfl dX7_readPerson_24 (z_bs fun s3 => ?_)
    refine z_iload_n hX dX7_readPerson_27 rfl 0 rfl ?_
    exact z_iret hX dX7_readPerson_28

abbrev rm_X7_readLineOf : Room := { frames := 4, cells := 0, slots := 0, locals := 90 }
theorem in_X7_readLineOf_X7 : ∀ w ∈ wsX70, w ∈ wsX7_readLineOf := fun w h => List.mem_cons_of_mem _ (List.mem_append_right _ h)
theorem lk_X7_readLineOf_f41 : Cond.fieldLink RX7 41 (TX7 16).1 (TX7 16).2.1 (TX7 16).2.2.1 ∈ wsX7_readLineOf := by decide +kernel
theorem lk_X7_readLineOf_f87 : Cond.fieldLink RX7 87 (TX7 14).1 (TX7 14).2.1 (TX7 14).2.2.1 ∈ wsX7_readLineOf := by decide +kernel
theorem lk_X7_readLineOf_f44 : Cond.fieldLink RX7 44 (TX7 17).1 (TX7 17).2.1 (TX7 17).2.2.1 ∈ wsX7_readLineOf := by decide +kernel
theorem lk_X7_readLineOf_f47 : Cond.fieldLink RX7 47 (TX7 18).1 (TX7 18).2.1 (TX7 18).2.2.1 ∈ wsX7_readLineOf := by decide +kernel
theorem lk_X7_readLineOf_f38 : Cond.fieldLink RX7 38 (TX7 12).1 (TX7 12).2.1 (TX7 12).2.2.1 ∈ wsX7_readLineOf := by decide +kernel
theorem lk_X7_readLineOf_f50 : Cond.fieldLink RX7 50 (TX7 19).1 (TX7 19).2.1 (TX7 19).2.2.1 ∈ wsX7_readLineOf := by decide +kernel
theorem lk_X7_readLineOf_f90 : Cond.fieldLink RX7 90 (TX7 15).1 (TX7 15).2.1 (TX7 15).2.2.1 ∈ wsX7_readLineOf := by decide +kernel
theorem lk_X7_readLineOf_f53 : Cond.fieldLink RX7 53 (TX7 20).1 (TX7 20).2.1 (TX7 20).2.2.1 ∈ wsX7_readLineOf := by decide +kernel
theorem lk_X7_readLineOf_f56 : Cond.fieldLink RX7 56 (TX7 21).1 (TX7 21).2.1 (TX7 21).2.2.1 ∈ wsX7_readLineOf := by decide +kernel
theorem lk_X7_readLineOf_f83 : Cond.fieldLink RX7 83 (TX7 13).1 (TX7 13).2.1 (TX7 13).2.2.1 ∈ wsX7_readLineOf := by decide +kernel
set_option maxHeartbeats 4000000 in
set_option maxRecDepth 100000 in
theorem c_X7_readLineOf (l : Launch) (V : z_V) (hV : z_ok V) (hs : z_isM V) (x1 : Int32) (σ : z_St) : z_CtV l V yX7_readLineOf wsX7_readLineOf rm_X7_readLineOf [.ref (z_ad V 0), .int x1] σ (f_X7_readLineOf x1 σ) := by
  refine z_startV (lv := [(0, .ref (z_ad V 0)), (1, .int x1)]) hV (by decide) rfl (Nat.le_of_ble_eq_true rfl) rfl ?_
  intro M hM hX
  have hX : z_Cx M V cX7_readLineOf 2 none wsX7_readLineOf RX7 := hX
  unfold f_X7_readLineOf
  refine z_iload_n hX dX7_readLineOf_0 rfl 1 rfl ?_
  refine z_case (fun h1 => ?_) (fun h1 => ?_)
  · refine z_tabIn (tgt := 32) hX dX7_readLineOf_1 (4 : Int32) h1 (by decide) (by decide) rfl (by decide) ?_
    refine z_aload_n hX dX7_readLineOf_32 rfl 0 rfl ?_
    refine z_getR (k := 16) hX (z_mod0 hs) rfl rfl in_X7_readLineOf_X7 (by decide) lk_X7_readLineOf_f41 dX7_readLineOf_33 ?_
    refine z_aload_n hX dX7_readLineOf_36 rfl 0 rfl ?_
    refine z_getI (k := 14) hX (z_mod0 hs) rfl rfl in_X7_readLineOf_X7 (by decide) lk_X7_readLineOf_f87 dX7_readLineOf_37 ?_
    refine z_aload_n hX dX7_readLineOf_40 rfl 0 rfl ?_
    refine z_callVI (n := 0) hX (c_X7_readPerson M.2.1 V hX.2.2.2.2.2 hs σ) gX7_readLineOf_X7_readPerson rfl (by decide +kernel) ⟨by decide, by decide⟩ rfl rfl (z_mod0 hs) rfl rfl rfl rfl (Nat.le_of_ble_eq_true rfl) dX7_readLineOf_41 (fun r2 _ => ?_)
    refine z_iast hX (z_mod11 hs) dX7_readLineOf_44 (z_bs fun s3 => ?_)
    refine z_aload_n hX dX7_readLineOf_45 rfl 0 rfl ?_
    refine z_getR (k := 17) hX (z_mod0 hs) rfl rfl in_X7_readLineOf_X7 (by decide) lk_X7_readLineOf_f44 dX7_readLineOf_46 ?_
    refine z_aload_n hX dX7_readLineOf_49 rfl 0 rfl ?_
    refine z_getI (k := 14) hX (z_mod0 hs) rfl rfl in_X7_readLineOf_X7 (by decide) lk_X7_readLineOf_f87 dX7_readLineOf_50 ?_
    refine z_aload_n hX dX7_readLineOf_53 rfl 0 rfl ?_
    refine z_iconst (v := 0) hX dX7_readLineOf_54 (by decide) ?_
    refine z_bipush (v := 9) hX dX7_readLineOf_55 (by decide) ?_
    refine z_callVI (n := 2) hX (c_X7_readNumber M.2.1 V hX.2.2.2.2.2 hs (0 : Int32) (9 : Int32) s3) gX7_readLineOf_X7_readNumber rfl (by decide +kernel) ⟨by decide, by decide⟩ rfl rfl (z_mod0 hs) rfl rfl rfl rfl (Nat.le_of_ble_eq_true rfl) dX7_readLineOf_57 (fun r4 _ => ?_)
    refine z_iast hX (z_mod12 hs) dX7_readLineOf_60 (z_bs fun s5 => ?_)
    refine z_aload_n hX dX7_readLineOf_61 rfl 0 rfl ?_
    refine z_getR (k := 18) hX (z_mod0 hs) rfl rfl in_X7_readLineOf_X7 (by decide) lk_X7_readLineOf_f47 dX7_readLineOf_62 ?_
    refine z_aload_n hX dX7_readLineOf_65 rfl 0 rfl ?_
    refine z_getI (k := 14) hX (z_mod0 hs) rfl rfl in_X7_readLineOf_X7 (by decide) lk_X7_readLineOf_f87 dX7_readLineOf_66 ?_
    refine z_aload_n hX dX7_readLineOf_69 rfl 0 rfl ?_
    refine z_iconst (v := 0) hX dX7_readLineOf_70 (by decide) ?_
    refine z_bipush (v := 9) hX dX7_readLineOf_71 (by decide) ?_
    refine z_callVI (n := 2) hX (c_X7_readNumber M.2.1 V hX.2.2.2.2.2 hs (0 : Int32) (9 : Int32) s5) gX7_readLineOf_X7_readNumber rfl (by decide +kernel) ⟨by decide, by decide⟩ rfl rfl (z_mod0 hs) rfl rfl rfl rfl (Nat.le_of_ble_eq_true rfl) dX7_readLineOf_73 (fun r6 _ => ?_)
    refine z_iast hX (z_mod13 hs) dX7_readLineOf_76 (z_bs fun s7 => ?_)
    refine z_aload_n hX dX7_readLineOf_77 rfl 0 rfl ?_
    refine z_getR (k := 12) hX (z_mod0 hs) rfl rfl in_X7_readLineOf_X7 (by decide) lk_X7_readLineOf_f38 dX7_readLineOf_78 ?_
    refine z_bipush (v := 16) hX dX7_readLineOf_81 (by decide) ?_
    refine z_aload_n hX dX7_readLineOf_83 rfl 0 rfl ?_
    refine z_getI (k := 14) hX (z_mod0 hs) rfl rfl in_X7_readLineOf_X7 (by decide) lk_X7_readLineOf_f87 dX7_readLineOf_84 ?_
    refine z_iadd hX dX7_readLineOf_87 ?_
    refine z_aload_n hX dX7_readLineOf_88 rfl 0 rfl ?_
    refine z_iconst (v := 0) hX dX7_readLineOf_89 (by decide) ?_
    refine z_bipush (v := 9) hX dX7_readLineOf_90 (by decide) ?_
    refine z_callVI (n := 2) hX (c_X7_readNumber M.2.1 V hX.2.2.2.2.2 hs (0 : Int32) (9 : Int32) s7) gX7_readLineOf_X7_readNumber rfl (by decide +kernel) ⟨by decide, by decide⟩ rfl rfl (z_mod0 hs) rfl rfl rfl rfl (Nat.le_of_ble_eq_true rfl) dX7_readLineOf_92 (fun r8 _ => ?_)
    refine z_iast hX (z_mod10 hs) dX7_readLineOf_95 (z_bs fun s9 => ?_)
    refine z_aload_n hX dX7_readLineOf_96 rfl 0 rfl ?_
    refine z_dup hX dX7_readLineOf_97 rfl ?_
    refine z_getI (k := 14) hX (z_mod0 hs) rfl rfl in_X7_readLineOf_X7 (by decide) lk_X7_readLineOf_f87 dX7_readLineOf_98 ?_
    refine z_iconst (v := 1) hX dX7_readLineOf_101 (by decide) ?_
    refine z_iadd hX dX7_readLineOf_102 ?_
    refine z_put1 (k := 14) hX (z_mod0 hs) rfl rfl in_X7_readLineOf_X7 (by decide) lk_X7_readLineOf_f87 tyX7 tyX7_ok nmX7 rfl rfl rfl dX7_readLineOf_103 (z_bs fun s10 => ?_)
    refine z_goto (tgt := 245) hX dX7_readLineOf_106 (by decide) ?_
    exact z_vret hX dX7_readLineOf_245
  · skip
    refine z_case (fun h11 => ?_) (fun h11 => ?_)
    · refine z_tabIn (tgt := 109) hX dX7_readLineOf_1 (5 : Int32) h11 (by decide) (by decide) rfl (by decide) ?_
      refine z_aload_n hX dX7_readLineOf_109 rfl 0 rfl ?_
      refine z_getR (k := 19) hX (z_mod0 hs) rfl rfl in_X7_readLineOf_X7 (by decide) lk_X7_readLineOf_f50 dX7_readLineOf_110 ?_
      refine z_aload_n hX dX7_readLineOf_113 rfl 0 rfl ?_
      refine z_getI (k := 15) hX (z_mod0 hs) rfl rfl in_X7_readLineOf_X7 (by decide) lk_X7_readLineOf_f90 dX7_readLineOf_114 ?_
      refine z_aload_n hX dX7_readLineOf_117 rfl 0 rfl ?_
      refine z_callVI (n := 0) hX (c_X7_readPerson M.2.1 V hX.2.2.2.2.2 hs σ) gX7_readLineOf_X7_readPerson rfl (by decide +kernel) ⟨by decide, by decide⟩ rfl rfl (z_mod0 hs) rfl rfl rfl rfl (Nat.le_of_ble_eq_true rfl) dX7_readLineOf_118 (fun r12 _ => ?_)
      refine z_iast hX (z_mod14 hs) dX7_readLineOf_121 (z_bs fun s13 => ?_)
      refine z_aload_n hX dX7_readLineOf_122 rfl 0 rfl ?_
      refine z_getR (k := 20) hX (z_mod0 hs) rfl rfl in_X7_readLineOf_X7 (by decide) lk_X7_readLineOf_f53 dX7_readLineOf_123 ?_
      refine z_aload_n hX dX7_readLineOf_126 rfl 0 rfl ?_
      refine z_getI (k := 15) hX (z_mod0 hs) rfl rfl in_X7_readLineOf_X7 (by decide) lk_X7_readLineOf_f90 dX7_readLineOf_127 ?_
      refine z_aload_n hX dX7_readLineOf_130 rfl 0 rfl ?_
      refine z_iconst (v := 0) hX dX7_readLineOf_131 (by decide) ?_
      refine z_bipush (v := 9) hX dX7_readLineOf_132 (by decide) ?_
      refine z_callVI (n := 2) hX (c_X7_readNumber M.2.1 V hX.2.2.2.2.2 hs (0 : Int32) (9 : Int32) s13) gX7_readLineOf_X7_readNumber rfl (by decide +kernel) ⟨by decide, by decide⟩ rfl rfl (z_mod0 hs) rfl rfl rfl rfl (Nat.le_of_ble_eq_true rfl) dX7_readLineOf_134 (fun r14 _ => ?_)
      refine z_iast hX (z_mod15 hs) dX7_readLineOf_137 (z_bs fun s15 => ?_)
      refine z_aload_n hX dX7_readLineOf_138 rfl 0 rfl ?_
      refine z_getR (k := 21) hX (z_mod0 hs) rfl rfl in_X7_readLineOf_X7 (by decide) lk_X7_readLineOf_f56 dX7_readLineOf_139 ?_
      refine z_aload_n hX dX7_readLineOf_142 rfl 0 rfl ?_
      refine z_getI (k := 15) hX (z_mod0 hs) rfl rfl in_X7_readLineOf_X7 (by decide) lk_X7_readLineOf_f90 dX7_readLineOf_143 ?_
      refine z_aload_n hX dX7_readLineOf_146 rfl 0 rfl ?_
      refine z_iconst (v := 0) hX dX7_readLineOf_147 (by decide) ?_
      refine z_bipush (v := 30) hX dX7_readLineOf_148 (by decide) ?_
      refine z_callVI (n := 2) hX (c_X7_readNumber M.2.1 V hX.2.2.2.2.2 hs (0 : Int32) (30 : Int32) s15) gX7_readLineOf_X7_readNumber rfl (by decide +kernel) ⟨by decide, by decide⟩ rfl rfl (z_mod0 hs) rfl rfl rfl rfl (Nat.le_of_ble_eq_true rfl) dX7_readLineOf_150 (fun r16 _ => ?_)
      refine z_iast hX (z_mod16 hs) dX7_readLineOf_153 (z_bs fun s17 => ?_)
      refine z_aload_n hX dX7_readLineOf_154 rfl 0 rfl ?_
      refine z_dup hX dX7_readLineOf_155 rfl ?_
      refine z_getI (k := 15) hX (z_mod0 hs) rfl rfl in_X7_readLineOf_X7 (by decide) lk_X7_readLineOf_f90 dX7_readLineOf_156 ?_
      refine z_iconst (v := 1) hX dX7_readLineOf_159 (by decide) ?_
      refine z_iadd hX dX7_readLineOf_160 ?_
      refine z_put1 (k := 15) hX (z_mod0 hs) rfl rfl in_X7_readLineOf_X7 (by decide) lk_X7_readLineOf_f90 tyX7 tyX7_ok nmX7 rfl rfl rfl dX7_readLineOf_161 (z_bs fun s18 => ?_)
      refine z_goto (tgt := 245) hX dX7_readLineOf_164 (by decide) ?_
      exact z_vret hX dX7_readLineOf_245
    · skip
      refine z_case (fun h19 => ?_) (fun h19 => ?_)
      · refine z_tabIn (tgt := 167) hX dX7_readLineOf_1 (6 : Int32) h19 (by decide) (by decide) rfl (by decide) ?_
        refine z_aload_n hX dX7_readLineOf_167 rfl 0 rfl ?_
        refine z_getR (k := 12) hX (z_mod0 hs) rfl rfl in_X7_readLineOf_X7 (by decide) lk_X7_readLineOf_f38 dX7_readLineOf_168 ?_
        refine z_bipush (v := 23) hX dX7_readLineOf_171 (by decide) ?_
        refine z_aload_n hX dX7_readLineOf_173 rfl 0 rfl ?_
        refine z_iconst (v := 0) hX dX7_readLineOf_174 (by decide) ?_
        refine z_bipush (v := 9) hX dX7_readLineOf_175 (by decide) ?_
        refine z_callVI (n := 2) hX (c_X7_readNumber M.2.1 V hX.2.2.2.2.2 hs (0 : Int32) (9 : Int32) σ) gX7_readLineOf_X7_readNumber rfl (by decide +kernel) ⟨by decide, by decide⟩ rfl rfl (z_mod0 hs) rfl rfl rfl rfl (Nat.le_of_ble_eq_true rfl) dX7_readLineOf_177 (fun r20 _ => ?_)
        refine z_iastc (j := 23) hX (z_mod10 hs) (by decide) dX7_readLineOf_180 (z_bs fun s21 => ?_)
        refine z_goto (tgt := 245) hX dX7_readLineOf_181 (by decide) ?_
        exact z_vret hX dX7_readLineOf_245
      · skip
        refine z_case (fun h22 => ?_) (fun h22 => ?_)
        · refine z_tabIn (tgt := 184) hX dX7_readLineOf_1 (7 : Int32) h22 (by decide) (by decide) rfl (by decide) ?_
          refine z_aload_n hX dX7_readLineOf_184 rfl 0 rfl ?_
          refine z_getR (k := 12) hX (z_mod0 hs) rfl rfl in_X7_readLineOf_X7 (by decide) lk_X7_readLineOf_f38 dX7_readLineOf_185 ?_
          refine z_bipush (v := 24) hX dX7_readLineOf_188 (by decide) ?_
          refine z_aload_n hX dX7_readLineOf_190 rfl 0 rfl ?_
          refine z_iconst (v := 0) hX dX7_readLineOf_191 (by decide) ?_
          refine z_bipush (v := 99) hX dX7_readLineOf_192 (by decide) ?_
          refine z_callVI (n := 2) hX (c_X7_readNumber M.2.1 V hX.2.2.2.2.2 hs (0 : Int32) (99 : Int32) σ) gX7_readLineOf_X7_readNumber rfl (by decide +kernel) ⟨by decide, by decide⟩ rfl rfl (z_mod0 hs) rfl rfl rfl rfl (Nat.le_of_ble_eq_true rfl) dX7_readLineOf_194 (fun r23 _ => ?_)
          refine z_iastc (j := 24) hX (z_mod10 hs) (by decide) dX7_readLineOf_197 (z_bs fun s24 => ?_)
          refine z_goto (tgt := 245) hX dX7_readLineOf_198 (by decide) ?_
          exact z_vret hX dX7_readLineOf_245
        · skip
          refine z_tabOut (tgt := 201) hX dX7_readLineOf_1 (by have qh1 := lv_neT (a := 4) h1 (by decide); have qh11 := lv_neT (a := 5) h11 (by decide); have qh19 := lv_neT (a := 6) h19 (by decide); have qh22 := lv_neT (a := 7) h22 (by decide); omega) (by decide) ?_
          refine z_aload_n hX dX7_readLineOf_201 rfl 0 rfl ?_
          refine z_getR (k := 12) hX (z_mod0 hs) rfl rfl in_X7_readLineOf_X7 (by decide) lk_X7_readLineOf_f38 dX7_readLineOf_202 ?_
          refine z_iconst (v := 4) hX dX7_readLineOf_205 (by decide) ?_
          refine z_aload_n hX dX7_readLineOf_206 rfl 0 rfl ?_
          refine z_getI (k := 13) hX (z_mod0 hs) rfl rfl in_X7_readLineOf_X7 (by decide) lk_X7_readLineOf_f83 dX7_readLineOf_207 ?_
          refine z_imul hX dX7_readLineOf_210 ?_
          refine z_iconst (v := 0) hX dX7_readLineOf_211 (by decide) ?_
          refine z_iadd hX dX7_readLineOf_212 ?_
          refine z_iload_n hX dX7_readLineOf_213 rfl 1 rfl ?_
          refine z_iast hX (z_mod10 hs) dX7_readLineOf_214 (z_bs fun s25 => ?_)
          refine z_aload_n hX dX7_readLineOf_215 rfl 0 rfl ?_
          refine z_getR (k := 12) hX (z_mod0 hs) rfl rfl in_X7_readLineOf_X7 (by decide) lk_X7_readLineOf_f38 dX7_readLineOf_216 ?_
          refine z_iconst (v := 4) hX dX7_readLineOf_219 (by decide) ?_
          refine z_aload_n hX dX7_readLineOf_220 rfl 0 rfl ?_
          refine z_getI (k := 13) hX (z_mod0 hs) rfl rfl in_X7_readLineOf_X7 (by decide) lk_X7_readLineOf_f83 dX7_readLineOf_221 ?_
          refine z_imul hX dX7_readLineOf_224 ?_
          refine z_iconst (v := 1) hX dX7_readLineOf_225 (by decide) ?_
          refine z_iadd hX dX7_readLineOf_226 ?_
          refine z_aload_n hX dX7_readLineOf_227 rfl 0 rfl ?_
          refine z_iconst (v := 0) hX dX7_readLineOf_228 (by decide) ?_
          refine z_bipush (v := 99) hX dX7_readLineOf_229 (by decide) ?_
          refine z_callVI (n := 2) hX (c_X7_readNumber M.2.1 V hX.2.2.2.2.2 hs (0 : Int32) (99 : Int32) s25) gX7_readLineOf_X7_readNumber rfl (by decide +kernel) ⟨by decide, by decide⟩ rfl rfl (z_mod0 hs) rfl rfl rfl rfl (Nat.le_of_ble_eq_true rfl) dX7_readLineOf_231 (fun r26 _ => ?_)
          refine z_iast hX (z_mod10 hs) dX7_readLineOf_234 (z_bs fun s27 => ?_)
          refine z_aload_n hX dX7_readLineOf_235 rfl 0 rfl ?_
          refine z_dup hX dX7_readLineOf_236 rfl ?_
          refine z_getI (k := 13) hX (z_mod0 hs) rfl rfl in_X7_readLineOf_X7 (by decide) lk_X7_readLineOf_f83 dX7_readLineOf_237 ?_
          refine z_iconst (v := 1) hX dX7_readLineOf_240 (by decide) ?_
          refine z_iadd hX dX7_readLineOf_241 ?_
          refine z_put1 (k := 13) hX (z_mod0 hs) rfl rfl in_X7_readLineOf_X7 (by decide) lk_X7_readLineOf_f83 tyX7 tyX7_ok nmX7 rfl rfl rfl dX7_readLineOf_242 (z_bs fun s28 => ?_)
          exact z_vret hX dX7_readLineOf_245

abbrev rm_X7_readLine : Room := { frames := 5, cells := 0, slots := 0, locals := 111 }
theorem in_X7_readLine_X7 : ∀ w ∈ wsX70, w ∈ wsX7_readLine := fun w h => List.mem_cons_of_mem _ (List.mem_append_right _ h)
theorem lk_X7_readLine_f141 : Cond.fieldLink RX7 141 (TX7 28).1 (TX7 28).2.1 (TX7 28).2.2.1 ∈ wsX7_readLine := by decide +kernel
theorem lk_X7_readLine_c173 : Cond.constantLong RX7 173 3 ∈ wsX7_readLine := by decide +kernel
theorem lk_X7_readLine_f117 : Cond.fieldLink RX7 117 (TX7 30).1 (TX7 30).2.1 (TX7 30).2.2.1 ∈ wsX7_readLine := by decide +kernel
theorem lk_X7_readLine_f93 : Cond.fieldLink RX7 93 (TX7 22).1 (TX7 22).2.1 (TX7 22).2.2.1 ∈ wsX7_readLine := by decide +kernel
theorem lk_X7_readLine_f83 : Cond.fieldLink RX7 83 (TX7 13).1 (TX7 13).2.1 (TX7 13).2.2.1 ∈ wsX7_readLine := by decide +kernel
theorem lk_X7_readLine_f90 : Cond.fieldLink RX7 90 (TX7 15).1 (TX7 15).2.1 (TX7 15).2.2.1 ∈ wsX7_readLine := by decide +kernel
theorem lk_X7_readLine_f87 : Cond.fieldLink RX7 87 (TX7 14).1 (TX7 14).2.1 (TX7 14).2.2.1 ∈ wsX7_readLine := by decide +kernel
set_option maxHeartbeats 4000000 in
set_option maxRecDepth 100000 in
theorem w_X7_readLine_164 (M : z_M) (V : z_V) (hs : z_isM V) (hX : z_Cx M V cX7_readLine 3 none wsX7_readLine RX7) (x1 : Int32) (σ : z_St) : z_Go M rm_X7_readLine 3 V (z_QV V) σ 164 [(0, .ref (z_ad V 0)), (1, .int x1)] [] (f_X7_readLine_164 x1 σ) := by
  unfold f_X7_readLine_164
  refine z_aload_n hX dX7_readLine_164 rfl 0 rfl ?_
  refine z_callVV (n := 0) hX (c_X7_next M.2.1 V hX.2.2.2.2.2 hs σ) gX7_readLine_X7_next rfl (by decide +kernel) ⟨by decide, by decide⟩ rfl rfl (z_mod0 hs) rfl rfl rfl rfl (Nat.le_of_ble_eq_true rfl) dX7_readLine_165 (fun r4 _ => ?_)
  refine z_aload_n hX dX7_readLine_168 rfl 0 rfl ?_
  refine z_getI (k := 30) hX (z_mod0 hs) rfl rfl in_X7_readLine_X7 (by decide) lk_X7_readLine_f117 dX7_readLine_169 ?_
  refine z_if_le (tgt := 176) hX dX7_readLine_172 (by decide) ?_ ?_
  · refine z_aload_n hX dX7_readLine_176 rfl 0 rfl ?_
    refine z_iload_n hX dX7_readLine_177 rfl 1 rfl ?_
    refine z_callVV (n := 1) hX (c_X7_readLineOf M.2.1 V hX.2.2.2.2.2 hs x1 r4.2) gX7_readLine_X7_readLineOf rfl (by decide +kernel) ⟨by decide, by decide⟩ rfl rfl (z_mod0 hs) rfl rfl rfl rfl (Nat.le_of_ble_eq_true rfl) dX7_readLine_178 (fun r5 _ => ?_)
    refine z_aload_n hX dX7_readLine_181 rfl 0 rfl ?_
    refine z_getI (k := 30) hX (z_mod0 hs) rfl rfl in_X7_readLine_X7 (by decide) lk_X7_readLine_f117 dX7_readLine_182 ?_
    refine z_if_ne (tgt := 206) hX dX7_readLine_185 (by decide) ?_ ?_
    · refine z_aload_n hX dX7_readLine_206 rfl 0 rfl ?_
      refine z_callVV (n := 0) hX (c_X7_next M.2.1 V hX.2.2.2.2.2 hs r5.2) gX7_readLine_X7_next rfl (by decide +kernel) ⟨by decide, by decide⟩ rfl rfl (z_mod0 hs) rfl rfl rfl rfl (Nat.le_of_ble_eq_true rfl) dX7_readLine_207 (fun r6 _ => ?_)
      exact z_vret hX dX7_readLine_210
    · refine z_aload_n hX dX7_readLine_188 rfl 0 rfl ?_
      refine z_aload_n hX dX7_readLine_189 rfl 0 rfl ?_
      refine z_getI (k := 28) hX (z_mod0 hs) rfl rfl in_X7_readLine_X7 (by decide) lk_X7_readLine_f141 dX7_readLine_190 ?_
      refine z_iconst (v := 3) hX dX7_readLine_193 (by decide) ?_
      refine z_icmp_ne (tgt := 201) hX dX7_readLine_194 (by decide) ?_ ?_
      · refine z_iconst (v := 0) hX dX7_readLine_201 (by decide) ?_
        refine z_iconst (v := 2) hX dX7_readLine_202 (by decide) ?_
        refine z_callVV (n := 2) hX (c_X7_needs M.2.1 V hX.2.2.2.2.2 hs (0 : Int32) (2 : Int32) r5.2) gX7_readLine_X7_needs rfl (by decide +kernel) ⟨by decide, by decide⟩ rfl rfl (z_mod0 hs) rfl rfl rfl rfl (Nat.le_of_ble_eq_true rfl) dX7_readLine_203 (fun r7 _ => ?_)
        refine z_aload_n hX dX7_readLine_206 rfl 0 rfl ?_
        refine z_callVV (n := 0) hX (c_X7_next M.2.1 V hX.2.2.2.2.2 hs r7.2) gX7_readLine_X7_next rfl (by decide +kernel) ⟨by decide, by decide⟩ rfl rfl (z_mod0 hs) rfl rfl rfl rfl (Nat.le_of_ble_eq_true rfl) dX7_readLine_207 (fun r8 _ => ?_)
        exact z_vret hX dX7_readLine_210
      · refine z_iconst (v := 1) hX dX7_readLine_197 (by decide) ?_
        refine z_goto (tgt := 202) hX dX7_readLine_198 (by decide) ?_
        refine z_iconst (v := 2) hX dX7_readLine_202 (by decide) ?_
        refine z_callVV (n := 2) hX (c_X7_needs M.2.1 V hX.2.2.2.2.2 hs (1 : Int32) (2 : Int32) r5.2) gX7_readLine_X7_needs rfl (by decide +kernel) ⟨by decide, by decide⟩ rfl rfl (z_mod0 hs) rfl rfl rfl rfl (Nat.le_of_ble_eq_true rfl) dX7_readLine_203 (fun r9 _ => ?_)
        refine z_aload_n hX dX7_readLine_206 rfl 0 rfl ?_
        refine z_callVV (n := 0) hX (c_X7_next M.2.1 V hX.2.2.2.2.2 hs r9.2) gX7_readLine_X7_next rfl (by decide +kernel) ⟨by decide, by decide⟩ rfl rfl (z_mod0 hs) rfl rfl rfl rfl (Nat.le_of_ble_eq_true rfl) dX7_readLine_207 (fun r10 _ => ?_)
        exact z_vret hX dX7_readLine_210
  · exact z_vret hX dX7_readLine_175
set_option maxHeartbeats 4000000 in
set_option maxRecDepth 100000 in
theorem w_X7_readLine_148 (M : z_M) (V : z_V) (hs : z_isM V) (hX : z_Cx M V cX7_readLine 3 none wsX7_readLine RX7) (x1 : Int32) (y0 : Int32) (σ : z_St) : z_Go M rm_X7_readLine 3 V (z_QV V) σ 148 [(0, .ref (z_ad V 0)), (1, .int x1)] [.int y0, .ref (z_ad V 0)] (f_X7_readLine_148 x1 y0 σ) := by
  unfold f_X7_readLine_148
  refine z_iconst (v := 4) hX dX7_readLine_148 (by decide) ?_
  refine z_callVV (n := 2) hX (c_X7_needs M.2.1 V hX.2.2.2.2.2 hs y0 (4 : Int32) σ) gX7_readLine_X7_needs rfl (by decide +kernel) ⟨by decide, by decide⟩ rfl rfl (z_mod0 hs) rfl rfl rfl rfl (Nat.le_of_ble_eq_true rfl) dX7_readLine_149 (fun r11 _ => ?_)
  refine z_aload_n hX dX7_readLine_152 rfl 0 rfl ?_
  refine z_dup hX dX7_readLine_153 rfl ?_
  refine z_getI (k := 22) hX (z_mod0 hs) rfl rfl in_X7_readLine_X7 (by decide) lk_X7_readLine_f93 dX7_readLine_154 ?_
  refine z_iconst (v := 1) hX dX7_readLine_157 (by decide) ?_
  refine z_iload_n hX dX7_readLine_158 rfl 1 rfl ?_
  refine z_ishl hX dX7_readLine_159 ?_
  refine z_ior hX dX7_readLine_160 ?_
  refine z_put1 (k := 22) hX (z_mod0 hs) rfl rfl in_X7_readLine_X7 (by decide) lk_X7_readLine_f93 tyX7 tyX7_ok nmX7 rfl rfl rfl dX7_readLine_161 (z_bs fun s12 => ?_)
  exact w_X7_readLine_164 M V hs hX x1 s12
set_option maxHeartbeats 4000000 in
set_option maxRecDepth 100000 in
theorem w_X7_readLine_114 (M : z_M) (V : z_V) (hs : z_isM V) (hX : z_Cx M V cX7_readLine 3 none wsX7_readLine RX7) (x1 : Int32) (y0 : Int32) (σ : z_St) : z_Go M rm_X7_readLine 3 V (z_QV V) σ 114 [(0, .ref (z_ad V 0)), (1, .int x1)] [.int y0, .ref (z_ad V 0)] (f_X7_readLine_114 x1 y0 σ) := by
  unfold f_X7_readLine_114
  refine z_iconst (v := 5) hX dX7_readLine_114 (by decide) ?_
  refine z_callVV (n := 2) hX (c_X7_needs M.2.1 V hX.2.2.2.2.2 hs y0 (5 : Int32) σ) gX7_readLine_X7_needs rfl (by decide +kernel) ⟨by decide, by decide⟩ rfl rfl (z_mod0 hs) rfl rfl rfl rfl (Nat.le_of_ble_eq_true rfl) dX7_readLine_115 (fun r3 _ => ?_)
  refine z_aload_n hX dX7_readLine_118 rfl 0 rfl ?_
  refine z_getI (k := 30) hX (z_mod0 hs) rfl rfl in_X7_readLine_X7 (by decide) lk_X7_readLine_f117 dX7_readLine_119 ?_
  refine z_if_ne (tgt := 164) hX dX7_readLine_122 (by decide) ?_ ?_
  · exact w_X7_readLine_164 M V hs hX x1 r3.2
  · refine z_iload_n hX dX7_readLine_125 rfl 1 rfl ?_
    refine z_bipush (v := 6) hX dX7_readLine_126 (by decide) ?_
    refine z_icmp_lt (tgt := 164) hX dX7_readLine_128 (by decide) ?_ ?_
    · exact w_X7_readLine_164 M V hs hX x1 r3.2
    · refine z_aload_n hX dX7_readLine_131 rfl 0 rfl ?_
      refine z_aload_n hX dX7_readLine_132 rfl 0 rfl ?_
      refine z_getI (k := 22) hX (z_mod0 hs) rfl rfl in_X7_readLine_X7 (by decide) lk_X7_readLine_f93 dX7_readLine_133 ?_
      refine z_iload_n hX dX7_readLine_136 rfl 1 rfl ?_
      refine z_ishr hX dX7_readLine_137 ?_
      refine z_iconst (v := 1) hX dX7_readLine_138 (by decide) ?_
      refine z_iand hX dX7_readLine_139 ?_
      refine z_if_ne (tgt := 147) hX dX7_readLine_140 (by decide) ?_ ?_
      · refine z_iconst (v := 0) hX dX7_readLine_147 (by decide) ?_
        exact w_X7_readLine_148 M V hs hX x1 (0 : Int32) r3.2
      · refine z_iconst (v := 1) hX dX7_readLine_143 (by decide) ?_
        refine z_goto (tgt := 148) hX dX7_readLine_144 (by decide) ?_
        exact w_X7_readLine_148 M V hs hX x1 (1 : Int32) r3.2
set_option maxHeartbeats 4000000 in
set_option maxRecDepth 100000 in
theorem w_X7_readLine_100 (M : z_M) (V : z_V) (hs : z_isM V) (hX : z_Cx M V cX7_readLine 3 none wsX7_readLine RX7) (x1 : Int32) (x2 : Int32) (y0 : Int32) (σ : z_St) : z_Go M rm_X7_readLine 3 V (z_QV V) σ 100 [(0, .ref (z_ad V 0)), (1, .int x1), (2, .int x2)] [.int y0, .ref (z_ad V 0)] (f_X7_readLine_100 x1 x2 y0 σ) := by
  unfold f_X7_readLine_100
  refine z_iconst (v := 2) hX dX7_readLine_100 (by decide) ?_
  refine z_callVV (n := 2) hX (c_X7_needs M.2.1 V hX.2.2.2.2.2 hs y0 (2 : Int32) σ) gX7_readLine_X7_needs rfl (by decide +kernel) ⟨by decide, by decide⟩ rfl rfl (z_mod0 hs) rfl rfl rfl rfl (Nat.le_of_ble_eq_true rfl) dX7_readLine_101 (fun r2 _ => ?_)
  refine z_aload_n hX dX7_readLine_104 rfl 0 rfl ?_
  refine z_iload_n hX dX7_readLine_105 rfl 2 rfl ?_
  refine z_if_ne (tgt := 113) hX dX7_readLine_106 (by decide) ?_ ?_
  · refine z_iconst (v := 0) hX dX7_readLine_113 (by decide) ?_
    refine z_sub [0, 1] rfl ?_
    exact w_X7_readLine_114 M V hs hX x1 (0 : Int32) r2.2
  · refine z_iconst (v := 1) hX dX7_readLine_109 (by decide) ?_
    refine z_goto (tgt := 114) hX dX7_readLine_110 (by decide) ?_
    refine z_sub [0, 1] rfl ?_
    exact w_X7_readLine_114 M V hs hX x1 (1 : Int32) r2.2
set_option maxHeartbeats 4000000 in
set_option maxRecDepth 100000 in
theorem w_X7_readLine_87 (M : z_M) (V : z_V) (hs : z_isM V) (hX : z_Cx M V cX7_readLine 3 none wsX7_readLine RX7) (x1 : Int32) (y0 : Int32) (σ : z_St) : z_Go M rm_X7_readLine 3 V (z_QV V) σ 87 [(0, .ref (z_ad V 0)), (1, .int x1)] [.int y0] (f_X7_readLine_87 x1 y0 σ) := by
  unfold f_X7_readLine_87
  refine z_istore_n (lv' := [(2, .int y0), (0, .ref (z_ad V 0)), (1, .int x1)]) hX dX7_readLine_87 rfl (by decide) rfl ?_
  refine z_aload_n hX dX7_readLine_88 rfl 1 rfl ?_
  refine z_iload_n hX dX7_readLine_89 rfl 2 rfl ?_
  refine z_bipush (v := -4) hX dX7_readLine_90 (by decide) ?_
  refine z_icmp_eq (tgt := 99) hX dX7_readLine_92 (by decide) ?_ ?_
  · refine z_iconst (v := 0) hX dX7_readLine_99 (by decide) ?_
    refine z_sub [1, 2, 0] rfl ?_
    exact w_X7_readLine_100 M V hs hX x1 y0 (0 : Int32) σ
  · refine z_iconst (v := 1) hX dX7_readLine_95 (by decide) ?_
    refine z_goto (tgt := 100) hX dX7_readLine_96 (by decide) ?_
    refine z_sub [1, 2, 0] rfl ?_
    exact w_X7_readLine_100 M V hs hX x1 y0 (1 : Int32) σ
set_option maxHeartbeats 4000000 in
set_option maxRecDepth 100000 in
theorem w_X7_readLine_17 (M : z_M) (V : z_V) (hs : z_isM V) (hX : z_Cx M V cX7_readLine 3 none wsX7_readLine RX7) (y0 : Int32) (σ : z_St) : z_Go M rm_X7_readLine 3 V (z_QV V) σ 17 [(0, .ref (z_ad V 0))] [.int y0] (f_X7_readLine_17 y0 σ) := by
  unfold f_X7_readLine_17
  refine z_istore_n (lv' := [(1, .int y0), (0, .ref (z_ad V 0))]) hX dX7_readLine_17 rfl (by decide) rfl ?_
  refine z_iload_n hX dX7_readLine_18 rfl 0 rfl ?_
  refine z_iconst (v := 4) hX dX7_readLine_19 (by decide) ?_
  refine z_icmp_ne (tgt := 40) hX dX7_readLine_20 (by decide) ?_ ?_
  · refine z_iload_n hX dX7_readLine_40 rfl 0 rfl ?_
    refine z_iconst (v := 5) hX dX7_readLine_41 (by decide) ?_
    refine z_icmp_ne (tgt := 62) hX dX7_readLine_42 (by decide) ?_ ?_
    · refine z_iload_n hX dX7_readLine_62 rfl 0 rfl ?_
      refine z_i2l hX dX7_readLine_63 ?_
      refine z_lconst (v := 0) hX dX7_readLine_64 (by decide) ?_
      refine z_ldc2 (v := 3) hX lk_X7_readLine_c173 dX7_readLine_65 ?_
      refine z_callSI (n := 3) hX (c_X7_in M.2.1 V hX.2.2.2.2.2 hs y0.toInt64 (0 : Int64) (3 : Int64) σ) gX7_readLine_X7_in rfl (by decide +kernel) ⟨by decide, by decide⟩ rfl rfl rfl rfl (Nat.le_of_ble_eq_true rfl) dX7_readLine_68 (fun r1 _ => ?_)
      refine z_if_eq (tgt := 86) hX dX7_readLine_71 (by decide) ?_ ?_
      · refine z_iconst (v := 0) hX dX7_readLine_86 (by decide) ?_
        refine z_sub [1, 0] rfl ?_
        exact w_X7_readLine_87 M V hs hX y0 (0 : Int32) r1.2
      · refine z_aload_n hX dX7_readLine_74 rfl 1 rfl ?_
        refine z_getI (k := 13) hX (z_mod0 hs) rfl rfl in_X7_readLine_X7 (by decide) lk_X7_readLine_f83 dX7_readLine_75 ?_
        refine z_iconst (v := 4) hX dX7_readLine_78 (by decide) ?_
        refine z_icmp_ne (tgt := 86) hX dX7_readLine_79 (by decide) ?_ ?_
        · refine z_iconst (v := 0) hX dX7_readLine_86 (by decide) ?_
          refine z_sub [1, 0] rfl ?_
          exact w_X7_readLine_87 M V hs hX y0 (0 : Int32) r1.2
        · refine z_iconst (v := 1) hX dX7_readLine_82 (by decide) ?_
          refine z_goto (tgt := 87) hX dX7_readLine_83 (by decide) ?_
          refine z_sub [1, 0] rfl ?_
          exact w_X7_readLine_87 M V hs hX y0 (1 : Int32) r1.2
    · refine z_aload_n hX dX7_readLine_45 rfl 1 rfl ?_
      refine z_getI (k := 15) hX (z_mod0 hs) rfl rfl in_X7_readLine_X7 (by decide) lk_X7_readLine_f90 dX7_readLine_46 ?_
      refine z_bipush (v := 6) hX dX7_readLine_49 (by decide) ?_
      refine z_icmp_ne (tgt := 58) hX dX7_readLine_51 (by decide) ?_ ?_
      · refine z_iconst (v := 0) hX dX7_readLine_58 (by decide) ?_
        refine z_goto (tgt := 87) hX dX7_readLine_59 (by decide) ?_
        refine z_sub [1, 0] rfl ?_
        exact w_X7_readLine_87 M V hs hX y0 (0 : Int32) σ
      · refine z_iconst (v := 1) hX dX7_readLine_54 (by decide) ?_
        refine z_goto (tgt := 87) hX dX7_readLine_55 (by decide) ?_
        refine z_sub [1, 0] rfl ?_
        exact w_X7_readLine_87 M V hs hX y0 (1 : Int32) σ
  · refine z_aload_n hX dX7_readLine_23 rfl 1 rfl ?_
    refine z_getI (k := 14) hX (z_mod0 hs) rfl rfl in_X7_readLine_X7 (by decide) lk_X7_readLine_f87 dX7_readLine_24 ?_
    refine z_bipush (v := 6) hX dX7_readLine_27 (by decide) ?_
    refine z_icmp_ne (tgt := 36) hX dX7_readLine_29 (by decide) ?_ ?_
    · refine z_iconst (v := 0) hX dX7_readLine_36 (by decide) ?_
      refine z_goto (tgt := 87) hX dX7_readLine_37 (by decide) ?_
      refine z_sub [1, 0] rfl ?_
      exact w_X7_readLine_87 M V hs hX y0 (0 : Int32) σ
    · refine z_iconst (v := 1) hX dX7_readLine_32 (by decide) ?_
      refine z_goto (tgt := 87) hX dX7_readLine_33 (by decide) ?_
      refine z_sub [1, 0] rfl ?_
      exact w_X7_readLine_87 M V hs hX y0 (1 : Int32) σ
set_option maxHeartbeats 4000000 in
set_option maxRecDepth 100000 in
theorem c_X7_readLine (l : Launch) (V : z_V) (hV : z_ok V) (hs : z_isM V) (σ : z_St) : z_CtV l V yX7_readLine wsX7_readLine rm_X7_readLine [.ref (z_ad V 0)] σ (f_X7_readLine σ) := by
  refine z_startV (lv := [(0, .ref (z_ad V 0))]) hV (by decide) rfl (Nat.le_of_ble_eq_true rfl) rfl ?_
  intro M hM hX
  have hX : z_Cx M V cX7_readLine 3 none wsX7_readLine RX7 := hX
  unfold f_X7_readLine
  refine z_aload_n hX dX7_readLine_0 rfl 0 rfl ?_
  refine z_getI (k := 28) hX (z_mod0 hs) rfl rfl in_X7_readLine_X7 (by decide) lk_X7_readLine_f141 dX7_readLine_1 ?_
  refine z_iconst (v := 1) hX dX7_readLine_4 (by decide) ?_
  refine z_icmp_ne (tgt := 15) hX dX7_readLine_5 (by decide) ?_ ?_
  · refine z_bipush (v := -4) hX dX7_readLine_15 (by decide) ?_
    exact w_X7_readLine_17 M V hs hX (-4 : Int32) σ
  · refine z_aload_n hX dX7_readLine_8 rfl 0 rfl ?_
    refine z_callVI (n := 0) hX (c_X7_lineNow M.2.1 V hX.2.2.2.2.2 hs σ) gX7_readLine_X7_lineNow rfl (by decide +kernel) ⟨by decide, by decide⟩ rfl rfl (z_mod0 hs) rfl rfl rfl rfl (Nat.le_of_ble_eq_true rfl) dX7_readLine_9 (fun r13 _ => ?_)
    refine z_goto (tgt := 17) hX dX7_readLine_12 (by decide) ?_
    exact w_X7_readLine_17 M V hs hX r13.1 r13.2

abbrev rm_X7_text : Room := { frames := 6, cells := 0, slots := 0, locals := 133 }
theorem in_X7_text_X7 : ∀ w ∈ wsX70, w ∈ wsX7_text := fun w h => List.mem_cons_of_mem _ (List.mem_append_right _ h)
theorem lk_X7_text_f117 : Cond.fieldLink RX7 117 (TX7 30).1 (TX7 30).2.1 (TX7 30).2.2.1 ∈ wsX7_text := by decide +kernel
theorem lk_X7_text_f126 : Cond.fieldLink RX7 126 (TX7 26).1 (TX7 26).2.1 (TX7 26).2.2.1 ∈ wsX7_text := by decide +kernel
theorem lk_X7_text_f114 : Cond.fieldLink RX7 114 (TX7 25).1 (TX7 25).2.1 (TX7 25).2.2.1 ∈ wsX7_text := by decide +kernel
theorem lk_X7_text_f123 : Cond.fieldLink RX7 123 (TX7 31).1 (TX7 31).2.1 (TX7 31).2.2.1 ∈ wsX7_text := by decide +kernel
theorem lk_X7_text_f96 : Cond.fieldLink RX7 96 (TX7 23).1 (TX7 23).2.1 (TX7 23).2.2.1 ∈ wsX7_text := by decide +kernel
theorem lk_X7_text_f83 : Cond.fieldLink RX7 83 (TX7 13).1 (TX7 13).2.1 (TX7 13).2.2.1 ∈ wsX7_text := by decide +kernel
theorem lk_X7_text_f141 : Cond.fieldLink RX7 141 (TX7 28).1 (TX7 28).2.1 (TX7 28).2.2.1 ∈ wsX7_text := by decide +kernel
set_option maxHeartbeats 4000000 in
set_option maxRecDepth 100000 in
theorem w_X7_text_73 (M : z_M) (V : z_V) (hs : z_isM V) (hX : z_Cx M V cX7_text 2 (some .int) wsX7_text RX7) (x1 : Int32) (σ : z_St) : z_Go M rm_X7_text 2 V (z_QI V) σ 73 [(0, .ref (z_ad V 0)), (1, .int x1)] [] (f_X7_text_73 x1 σ) := by
  unfold f_X7_text_73
  refine z_aload_n hX dX7_text_73 rfl 0 rfl ?_
  refine z_iconst (v := 0) hX dX7_text_74 (by decide) ?_
  refine z_put1 (k := 25) hX (z_mod0 hs) rfl rfl in_X7_text_X7 (by decide) lk_X7_text_f114 tyX7 tyX7_ok nmX7 rfl rfl rfl dX7_text_75 (z_bs fun s5 => ?_)
  refine z_aload_n hX dX7_text_78 rfl 0 rfl ?_
  refine z_getI (k := 30) hX (z_mod0 hs) rfl rfl in_X7_text_X7 (by decide) lk_X7_text_f117 dX7_text_79 ?_
  refine z_if_le (tgt := 93) hX dX7_text_82 (by decide) ?_ ?_
  · refine z_aload_n hX dX7_text_93 rfl 0 rfl ?_
    refine z_callVV (n := 0) hX (c_X7_keepDraft M.2.1 V hX.2.2.2.2.2 hs s5) gX7_text_X7_keepDraft rfl (by decide +kernel) ⟨by decide, by decide⟩ rfl rfl (z_mod0 hs) rfl rfl rfl rfl (Nat.le_of_ble_eq_true rfl) dX7_text_94 (fun r6 _ => ?_)
    refine z_iload_n hX dX7_text_97 rfl 1 rfl ?_
    exact z_iret hX dX7_text_98
  · refine z_bipush (v := -10) hX dX7_text_85 (by decide) ?_
    refine z_aload_n hX dX7_text_87 rfl 0 rfl ?_
    refine z_getI (k := 31) hX (z_mod0 hs) rfl rfl in_X7_text_X7 (by decide) lk_X7_text_f123 dX7_text_88 ?_
    refine z_isub hX dX7_text_91 ?_
    exact z_iret hX dX7_text_92
set_option maxHeartbeats 4000000 in
set_option maxRecDepth 100000 in
theorem w_X7_text_44 (M : z_M) (V : z_V) (hs : z_isM V) (hX : z_Cx M V cX7_text 2 (some .int) wsX7_text RX7) (x1 : Int32) (σ : z_St) : z_Go M rm_X7_text 2 V (z_QI V) σ 44 [(0, .ref (z_ad V 0)), (1, .int x1)] [] (f_X7_text_44 x1 σ) := by
  unfold f_X7_text_44
  refine z_aload_n hX dX7_text_44 rfl 0 rfl ?_
  refine z_getI (k := 30) hX (z_mod0 hs) rfl rfl in_X7_text_X7 (by decide) lk_X7_text_f117 dX7_text_45 ?_
  refine z_if_ne (tgt := 73) hX dX7_text_48 (by decide) ?_ ?_
  · exact w_X7_text_73 M V hs hX x1 σ
  · refine z_aload_n hX dX7_text_51 rfl 0 rfl ?_
    refine z_aload_n hX dX7_text_52 rfl 0 rfl ?_
    refine z_getI (k := 23) hX (z_mod0 hs) rfl rfl in_X7_text_X7 (by decide) lk_X7_text_f96 dX7_text_53 ?_
    refine z_aload_n hX dX7_text_56 rfl 0 rfl ?_
    refine z_getI (k := 13) hX (z_mod0 hs) rfl rfl in_X7_text_X7 (by decide) lk_X7_text_f83 dX7_text_57 ?_
    refine z_icmp_ge (tgt := 67) hX dX7_text_60 (by decide) ?_ ?_
    · refine z_iconst (v := 0) hX dX7_text_67 (by decide) ?_
      refine z_bipush (v := 6) hX dX7_text_68 (by decide) ?_
      refine z_callVV (n := 2) hX (c_X7_needs M.2.1 V hX.2.2.2.2.2 hs (0 : Int32) (6 : Int32) σ) gX7_text_X7_needs rfl (by decide +kernel) ⟨by decide, by decide⟩ rfl rfl (z_mod0 hs) rfl rfl rfl rfl (Nat.le_of_ble_eq_true rfl) dX7_text_70 (fun r7 _ => ?_)
      exact w_X7_text_73 M V hs hX x1 r7.2
    · refine z_iconst (v := 1) hX dX7_text_63 (by decide) ?_
      refine z_goto (tgt := 68) hX dX7_text_64 (by decide) ?_
      refine z_bipush (v := 6) hX dX7_text_68 (by decide) ?_
      refine z_callVV (n := 2) hX (c_X7_needs M.2.1 V hX.2.2.2.2.2 hs (1 : Int32) (6 : Int32) σ) gX7_text_X7_needs rfl (by decide +kernel) ⟨by decide, by decide⟩ rfl rfl (z_mod0 hs) rfl rfl rfl rfl (Nat.le_of_ble_eq_true rfl) dX7_text_70 (fun r8 _ => ?_)
      exact w_X7_text_73 M V hs hX x1 r8.2
set_option maxHeartbeats 4000000 in
set_option maxRecDepth 100000 in
theorem w_X7_text_20 (M : z_M) (V : z_V) (hs : z_isM V) (hX : z_Cx M V cX7_text 2 (some .int) wsX7_text RX7) : ∀ (n : Nat) (x1 : Int32) (σ : z_St), z_Go M rm_X7_text 2 V (z_QI V) σ 20 [(0, .ref (z_ad V 0)), (1, .int x1)] [] (f_X7_text_20 n x1 σ) := by
  intro n
  induction n with
  | zero => intro x1 σ; exact z_none
  | succ n ih =>
    intro x1 σ
    rw [f_X7_text_20]
    refine z_aload_n hX dX7_text_20 rfl 0 rfl ?_
    refine z_getI (k := 30) hX (z_mod0 hs) rfl rfl in_X7_text_X7 (by decide) lk_X7_text_f117 dX7_text_21 ?_
    refine z_if_ne (tgt := 44) hX dX7_text_24 (by decide) ?_ ?_
    · exact w_X7_text_44 M V hs hX x1 σ
    · refine z_aload_n hX dX7_text_27 rfl 0 rfl ?_
      refine z_getI (k := 28) hX (z_mod0 hs) rfl rfl in_X7_text_X7 (by decide) lk_X7_text_f141 dX7_text_28 ?_
      refine z_if_eq (tgt := 44) hX dX7_text_31 (by decide) ?_ ?_
      · exact w_X7_text_44 M V hs hX x1 σ
      · refine z_aload_n hX dX7_text_34 rfl 0 rfl ?_
        refine z_callVV (n := 0) hX (c_X7_readLine M.2.1 V hX.2.2.2.2.2 hs σ) gX7_text_X7_readLine rfl (by decide +kernel) ⟨by decide, by decide⟩ rfl rfl (z_mod0 hs) rfl rfl rfl rfl (Nat.le_of_ble_eq_true rfl) dX7_text_35 (fun r9 _ => ?_)
        refine z_iinc (v := (x1 + 1)) (lv' := [(1, .int (x1 + 1)), (0, .ref (z_ad V 0))]) hX dX7_text_38 1 rfl rfl (by decide) rfl ?_
        refine z_goto (tgt := 20) hX dX7_text_41 (by decide) ?_
        refine z_sub [1, 0] rfl ?_
        exact ih (x1 + 1) r9.2
set_option maxHeartbeats 4000000 in
set_option maxRecDepth 100000 in
theorem c_X7_text (l : Launch) (V : z_V) (hV : z_ok V) (hs : z_isM V) (σ : z_St) : z_CtI l V yX7_text wsX7_text rm_X7_text [.ref (z_ad V 0)] σ (f_X7_text σ) := by
  refine z_startI (lv := [(0, .ref (z_ad V 0))]) hV (by decide) rfl (Nat.le_of_ble_eq_true rfl) rfl ?_
  intro M hM hX
  have hX : z_Cx M V cX7_text 2 (some .int) wsX7_text RX7 := hX
  unfold f_X7_text
  refine z_iconst (v := 0) hX dX7_text_0 (by decide) ?_
  refine z_istore_n (lv' := [(1, .int (0 : Int32)), (0, .ref (z_ad V 0))]) hX dX7_text_1 rfl (by decide) rfl ?_
  refine z_aload_n hX dX7_text_2 rfl 1 rfl ?_
  refine z_iconst (v := 0) hX dX7_text_3 (by decide) ?_
  refine z_put1 (k := 30) hX (z_mod0 hs) rfl rfl in_X7_text_X7 (by decide) lk_X7_text_f117 tyX7 tyX7_ok nmX7 rfl rfl rfl dX7_text_4 (z_bs fun s1 => ?_)
  refine z_aload_n hX dX7_text_7 rfl 1 rfl ?_
  refine z_iconst (v := 0) hX dX7_text_8 (by decide) ?_
  refine z_put1 (k := 26) hX (z_mod0 hs) rfl rfl in_X7_text_X7 (by decide) lk_X7_text_f126 tyX7 tyX7_ok nmX7 rfl rfl rfl dX7_text_9 (z_bs fun s2 => ?_)
  refine z_aload_n hX dX7_text_12 rfl 1 rfl ?_
  refine z_callVV (n := 0) hX (c_X7_firstDraft M.2.1 V hX.2.2.2.2.2 hs s2) gX7_text_X7_firstDraft rfl (by decide +kernel) ⟨by decide, by decide⟩ rfl rfl (z_mod0 hs) rfl rfl rfl rfl (Nat.le_of_ble_eq_true rfl) dX7_text_13 (fun r3 _ => ?_)
  refine z_aload_n hX dX7_text_16 rfl 1 rfl ?_
  refine z_callVV (n := 0) hX (c_X7_next M.2.1 V hX.2.2.2.2.2 hs r3.2) gX7_text_X7_next rfl (by decide +kernel) ⟨by decide, by decide⟩ rfl rfl (z_mod0 hs) rfl rfl rfl rfl (Nat.le_of_ble_eq_true rfl) dX7_text_17 (fun r4 _ => ?_)
  refine z_sub [1, 0] rfl ?_
  exact w_X7_text_20 M V hs hX 200 (0 : Int32) r4.2

abbrev rm_X7_fault : Room := { frames := 0, cells := 0, slots := 0, locals := 0 }
theorem in_X7_fault_X7 : ∀ w ∈ wsX70, w ∈ wsX7_fault := fun w h => List.mem_cons_of_mem _ (List.mem_append_right _ h)
theorem lk_X7_fault_f117 : Cond.fieldLink RX7 117 (TX7 30).1 (TX7 30).2.1 (TX7 30).2.2.1 ∈ wsX7_fault := by decide +kernel
set_option maxHeartbeats 4000000 in
set_option maxRecDepth 100000 in
theorem c_X7_fault (l : Launch) (V : z_V) (hV : z_ok V) (hs : z_isM V) (σ : z_St) : z_CtI l V yX7_fault wsX7_fault rm_X7_fault [.ref (z_ad V 0)] σ (f_X7_fault σ) := by
  refine z_startI (lv := [(0, .ref (z_ad V 0))]) hV (by decide) rfl (Nat.le_of_ble_eq_true rfl) rfl ?_
  intro M hM hX
  have hX : z_Cx M V cX7_fault 1 (some .int) wsX7_fault RX7 := hX
  unfold f_X7_fault
  refine z_aload_n hX dX7_fault_0 rfl 0 rfl ?_
  refine z_getI (k := 30) hX (z_mod0 hs) rfl rfl in_X7_fault_X7 (by decide) lk_X7_fault_f117 dX7_fault_1 ?_
  exact z_iret hX dX7_fault_4

abbrev rm_X7_isOne : Room := { frames := 1, cells := 0, slots := 0, locals := 25 }
theorem in_X7_isOne_X7 : ∀ w ∈ wsX70, w ∈ wsX7_isOne := fun w h => List.mem_cons_of_mem _ (List.mem_append_right _ h)
theorem lk_X7_isOne_f99 : Cond.fieldLink RX7 99 (TX7 3).1 (TX7 3).2.1 (TX7 3).2.2.1 ∈ wsX7_isOne := by decide +kernel
set_option maxHeartbeats 4000000 in
set_option maxRecDepth 100000 in
theorem c_X7_isOne (l : Launch) (V : z_V) (hV : z_ok V) (hs : z_isM V) (x1 : Int32) (σ : z_St) : z_CtI l V yX7_isOne wsX7_isOne rm_X7_isOne [.ref (z_ad V 0), .int x1] σ (f_X7_isOne x1 σ) := by
  refine z_startI (lv := [(0, .ref (z_ad V 0)), (1, .int x1)]) hV (by decide) rfl (Nat.le_of_ble_eq_true rfl) rfl ?_
  intro M hM hX
  have hX : z_Cx M V cX7_isOne 2 (some .boolean) wsX7_isOne RX7 := hX
  unfold f_X7_isOne
  refine z_iload_n hX dX7_isOne_0 rfl 1 rfl ?_
  refine z_i2l hX dX7_isOne_1 ?_
  refine z_lconst (v := 0) hX dX7_isOne_2 (by decide) ?_
  refine z_aload_n hX dX7_isOne_3 rfl 0 rfl ?_
  refine z_getI (k := 3) hX (z_mod0 hs) rfl rfl in_X7_isOne_X7 (by decide) lk_X7_isOne_f99 dX7_isOne_4 ?_
  refine z_iconst (v := 1) hX dX7_isOne_7 (by decide) ?_
  refine z_isub hX dX7_isOne_8 ?_
  refine z_i2l hX dX7_isOne_9 ?_
  refine z_callSI (n := 3) hX (c_X7_in M.2.1 V hX.2.2.2.2.2 hs x1.toInt64 (0 : Int64) ((σ 0 3) - (1 : Int32)).toInt64 σ) gX7_isOne_X7_in rfl (by decide +kernel) ⟨by decide, by decide⟩ rfl rfl rfl rfl (Nat.le_of_ble_eq_true rfl) dX7_isOne_10 (fun r1 _ => ?_)
  exact z_zretv hX dX7_isOne_13

abbrev rm_X7_isTrip : Room := { frames := 1, cells := 0, slots := 0, locals := 25 }
theorem in_X7_isTrip_X7 : ∀ w ∈ wsX70, w ∈ wsX7_isTrip := fun w h => List.mem_cons_of_mem _ (List.mem_append_right _ h)
theorem lk_X7_isTrip_f102 : Cond.fieldLink RX7 102 (TX7 4).1 (TX7 4).2.1 (TX7 4).2.2.1 ∈ wsX7_isTrip := by decide +kernel
set_option maxHeartbeats 4000000 in
set_option maxRecDepth 100000 in
theorem c_X7_isTrip (l : Launch) (V : z_V) (hV : z_ok V) (hs : z_isM V) (x1 : Int32) (σ : z_St) : z_CtI l V yX7_isTrip wsX7_isTrip rm_X7_isTrip [.ref (z_ad V 0), .int x1] σ (f_X7_isTrip x1 σ) := by
  refine z_startI (lv := [(0, .ref (z_ad V 0)), (1, .int x1)]) hV (by decide) rfl (Nat.le_of_ble_eq_true rfl) rfl ?_
  intro M hM hX
  have hX : z_Cx M V cX7_isTrip 2 (some .boolean) wsX7_isTrip RX7 := hX
  unfold f_X7_isTrip
  refine z_iload_n hX dX7_isTrip_0 rfl 1 rfl ?_
  refine z_i2l hX dX7_isTrip_1 ?_
  refine z_lconst (v := 0) hX dX7_isTrip_2 (by decide) ?_
  refine z_aload_n hX dX7_isTrip_3 rfl 0 rfl ?_
  refine z_getI (k := 4) hX (z_mod0 hs) rfl rfl in_X7_isTrip_X7 (by decide) lk_X7_isTrip_f102 dX7_isTrip_4 ?_
  refine z_iconst (v := 1) hX dX7_isTrip_7 (by decide) ?_
  refine z_isub hX dX7_isTrip_8 ?_
  refine z_i2l hX dX7_isTrip_9 ?_
  refine z_callSI (n := 3) hX (c_X7_in M.2.1 V hX.2.2.2.2.2 hs x1.toInt64 (0 : Int64) ((σ 0 4) - (1 : Int32)).toInt64 σ) gX7_isTrip_X7_in rfl (by decide +kernel) ⟨by decide, by decide⟩ rfl rfl rfl rfl (Nat.le_of_ble_eq_true rfl) dX7_isTrip_10 (fun r1 _ => ?_)
  exact z_zretv hX dX7_isTrip_13

abbrev rm_X7_isPart : Room := { frames := 1, cells := 0, slots := 0, locals := 25 }
set_option maxHeartbeats 4000000 in
set_option maxRecDepth 100000 in
theorem c_X7_isPart (l : Launch) (V : z_V) (hV : z_ok V) (hs : z_isM V) (x0 : Int32) (σ : z_St) : z_CtI l V yX7_isPart wsX7_isPart rm_X7_isPart [.int x0] σ (f_X7_isPart x0 σ) := by
  refine z_startI (lv := [(0, .int x0)]) hV (by decide) rfl (Nat.le_of_ble_eq_true rfl) rfl ?_
  intro M hM hX
  have hX : z_Cx M V cX7_isPart 1 (some .boolean) wsX7_isPart RX7 := hX
  unfold f_X7_isPart
  refine z_iload_n hX dX7_isPart_0 rfl 0 rfl ?_
  refine z_i2l hX dX7_isPart_1 ?_
  refine z_lconst (v := 0) hX dX7_isPart_2 (by decide) ?_
  refine z_lconst (v := 1) hX dX7_isPart_3 (by decide) ?_
  refine z_callSI (n := 3) hX (c_X7_in M.2.1 V hX.2.2.2.2.2 hs x0.toInt64 (0 : Int64) (1 : Int64) σ) gX7_isPart_X7_in rfl (by decide +kernel) ⟨by decide, by decide⟩ rfl rfl rfl rfl (Nat.le_of_ble_eq_true rfl) dX7_isPart_4 (fun r1 _ => ?_)
  exact z_zretv hX dX7_isPart_7

abbrev rm_X7_starts : Room := { frames := 0, cells := 0, slots := 0, locals := 0 }
theorem in_X7_starts_X7 : ∀ w ∈ wsX70, w ∈ wsX7_starts := fun w h => List.mem_cons_of_mem _ (List.mem_append_right _ h)
theorem lk_X7_starts_f13 : Cond.fieldLink RX7 13 (TX7 1).1 (TX7 1).2.1 (TX7 1).2.2.1 ∈ wsX7_starts := by decide +kernel
theorem lk_X7_starts_f7 : Cond.fieldLink RX7 7 (TX7 0).1 (TX7 0).2.1 (TX7 0).2.2.1 ∈ wsX7_starts := by decide +kernel
set_option maxHeartbeats 4000000 in
set_option maxRecDepth 100000 in
theorem w_X7_starts_2 (M : z_M) (V : z_V) (hs : z_isM V) (hX : z_Cx M V cX7_starts 2 none wsX7_starts RX7) : ∀ (n : Nat) (x1 : Int32) (σ : z_St), z_Go M rm_X7_starts 2 V (z_QV V) σ 2 [(0, .ref (z_ad V 0)), (1, .int x1)] [] (f_X7_starts_2 n x1 σ) := by
  intro n
  induction n with
  | zero => intro x1 σ; exact z_none
  | succ n ih =>
    intro x1 σ
    rw [f_X7_starts_2]
    refine z_iload_n hX dX7_starts_2 rfl 1 rfl ?_
    refine z_bipush (v := 45) hX dX7_starts_3 (by decide) ?_
    refine z_icmp_ge (tgt := 26) hX dX7_starts_5 (by decide) ?_ ?_
    · exact z_vret hX dX7_starts_26
    · refine z_aload_n hX dX7_starts_8 rfl 0 rfl ?_
      refine z_getR (k := 1) hX (z_mod0 hs) rfl rfl in_X7_starts_X7 (by decide) lk_X7_starts_f13 dX7_starts_9 ?_
      refine z_iload_n hX dX7_starts_12 rfl 1 rfl ?_
      refine z_aload_n hX dX7_starts_13 rfl 0 rfl ?_
      refine z_getR (k := 0) hX (z_mod0 hs) rfl rfl in_X7_starts_X7 (by decide) lk_X7_starts_f7 dX7_starts_14 ?_
      refine z_iload_n hX dX7_starts_17 rfl 1 rfl ?_
      refine z_iald hX (z_mod1 hs) dX7_starts_18 ?_
      refine z_iast hX (z_mod2 hs) dX7_starts_19 (z_bs fun s1 => ?_)
      refine z_iinc (v := (x1 + 1)) (lv' := [(1, .int (x1 + 1)), (0, .ref (z_ad V 0))]) hX dX7_starts_20 1 rfl rfl (by decide) rfl ?_
      refine z_goto (tgt := 2) hX dX7_starts_23 (by decide) ?_
      refine z_sub [1, 0] rfl ?_
      exact ih (x1 + 1) s1
set_option maxHeartbeats 4000000 in
set_option maxRecDepth 100000 in
theorem c_X7_starts (l : Launch) (V : z_V) (hV : z_ok V) (hs : z_isM V) (σ : z_St) : z_CtV l V yX7_starts wsX7_starts rm_X7_starts [.ref (z_ad V 0)] σ (f_X7_starts σ) := by
  refine z_startV (lv := [(0, .ref (z_ad V 0))]) hV (by decide) rfl (Nat.le_of_ble_eq_true rfl) rfl ?_
  intro M hM hX
  have hX : z_Cx M V cX7_starts 2 none wsX7_starts RX7 := hX
  unfold f_X7_starts
  refine z_iconst (v := 0) hX dX7_starts_0 (by decide) ?_
  refine z_istore_n (lv' := [(1, .int (0 : Int32)), (0, .ref (z_ad V 0))]) hX dX7_starts_1 rfl (by decide) rfl ?_
  refine z_sub [1, 0] rfl ?_
  exact w_X7_starts_2 M V hs hX 200 (0 : Int32) σ

abbrev rm_X7_of : Room := { frames := 0, cells := 0, slots := 0, locals := 0 }
theorem in_X7_of_X7 : ∀ w ∈ wsX70, w ∈ wsX7_of := fun w h => List.mem_cons_of_mem _ (List.mem_append_right _ h)
theorem lk_X7_of_f13 : Cond.fieldLink RX7 13 (TX7 1).1 (TX7 1).2.1 (TX7 1).2.2.1 ∈ wsX7_of := by decide +kernel
set_option maxHeartbeats 4000000 in
set_option maxRecDepth 100000 in
theorem c_X7_of (l : Launch) (V : z_V) (hV : z_ok V) (hs : z_isM V) (x1 : Int32) (x2 : Int32) (σ : z_St) : z_CtI l V yX7_of wsX7_of rm_X7_of [.ref (z_ad V 0), .int x1, .int x2] σ (f_X7_of x1 x2 σ) := by
  refine z_startI (lv := [(0, .ref (z_ad V 0)), (1, .int x1), (2, .int x2)]) hV (by decide) rfl (Nat.le_of_ble_eq_true rfl) rfl ?_
  intro M hM hX
  have hX : z_Cx M V cX7_of 3 (some .int) wsX7_of RX7 := hX
  unfold f_X7_of
  refine z_aload_n hX dX7_of_0 rfl 0 rfl ?_
  refine z_getR (k := 1) hX (z_mod0 hs) rfl rfl in_X7_of_X7 (by decide) lk_X7_of_f13 dX7_of_1 ?_
  refine z_iconst (v := 4) hX dX7_of_4 (by decide) ?_
  refine z_iload_n hX dX7_of_5 rfl 1 rfl ?_
  refine z_imul hX dX7_of_6 ?_
  refine z_iload_n hX dX7_of_7 rfl 2 rfl ?_
  refine z_iadd hX dX7_of_8 ?_
  refine z_iald hX (z_mod2 hs) dX7_of_9 ?_
  exact z_iret hX dX7_of_10

abbrev rm_X7_more : Room := { frames := 0, cells := 0, slots := 0, locals := 0 }
theorem in_X7_more_X7 : ∀ w ∈ wsX70, w ∈ wsX7_more := fun w h => List.mem_cons_of_mem _ (List.mem_append_right _ h)
theorem lk_X7_more_f13 : Cond.fieldLink RX7 13 (TX7 1).1 (TX7 1).2.1 (TX7 1).2.2.1 ∈ wsX7_more := by decide +kernel
set_option maxHeartbeats 4000000 in
set_option maxRecDepth 100000 in
theorem c_X7_more (l : Launch) (V : z_V) (hV : z_ok V) (hs : z_isM V) (x1 : Int32) (x2 : Int32) (x3 : Int32) (σ : z_St) : z_CtV l V yX7_more wsX7_more rm_X7_more [.ref (z_ad V 0), .int x1, .int x2, .int x3] σ (f_X7_more x1 x2 x3 σ) := by
  refine z_startV (lv := [(0, .ref (z_ad V 0)), (1, .int x1), (2, .int x2), (3, .int x3)]) hV (by decide) rfl (Nat.le_of_ble_eq_true rfl) rfl ?_
  intro M hM hX
  have hX : z_Cx M V cX7_more 5 none wsX7_more RX7 := hX
  unfold f_X7_more
  refine z_aload_n hX dX7_more_0 rfl 0 rfl ?_
  refine z_getR (k := 1) hX (z_mod0 hs) rfl rfl in_X7_more_X7 (by decide) lk_X7_more_f13 dX7_more_1 ?_
  refine z_iconst (v := 4) hX dX7_more_4 (by decide) ?_
  refine z_iload_n hX dX7_more_5 rfl 1 rfl ?_
  refine z_imul hX dX7_more_6 ?_
  refine z_iload_n hX dX7_more_7 rfl 2 rfl ?_
  refine z_iadd hX dX7_more_8 ?_
  refine z_iald hX (z_mod2 hs) dX7_more_9 ?_
  refine z_iload_n hX dX7_more_10 rfl 3 rfl ?_
  refine z_iadd hX dX7_more_11 ?_
  refine z_top (fun v1 => ?_)
  refine z_istore (lv' := [(4, .int v1), (0, .ref (z_ad V 0)), (1, .int x1), (2, .int x2), (3, .int x3)]) hX dX7_more_12 (by decide) rfl ?_
  refine z_aload_n hX dX7_more_14 rfl 1 rfl ?_
  refine z_getR (k := 1) hX (z_mod0 hs) rfl rfl in_X7_more_X7 (by decide) lk_X7_more_f13 dX7_more_15 ?_
  refine z_iconst (v := 4) hX dX7_more_18 (by decide) ?_
  refine z_iload_n hX dX7_more_19 rfl 2 rfl ?_
  refine z_imul hX dX7_more_20 ?_
  refine z_iload_n hX dX7_more_21 rfl 3 rfl ?_
  refine z_iadd hX dX7_more_22 ?_
  refine z_iload hX dX7_more_23 0 rfl ?_
  refine z_sipush (v := 999) hX dX7_more_25 (by decide) ?_
  refine z_icmp_le (tgt := 37) hX dX7_more_28 (by decide) ?_ ?_
  · refine z_iload hX dX7_more_37 0 rfl ?_
    refine z_iast hX (z_mod2 hs) dX7_more_39 (z_bs fun s2 => ?_)
    exact z_vret hX dX7_more_40
  · refine z_sipush (v := 999) hX dX7_more_31 (by decide) ?_
    refine z_goto (tgt := 39) hX dX7_more_34 (by decide) ?_
    refine z_iast hX (z_mod2 hs) dX7_more_39 (z_bs fun s3 => ?_)
    exact z_vret hX dX7_more_40

abbrev rm_X7_blushOf : Room := { frames := 1, cells := 0, slots := 0, locals := 22 }
theorem in_X7_blushOf_X7 : ∀ w ∈ wsX70, w ∈ wsX7_blushOf := fun w h => List.mem_cons_of_mem _ (List.mem_append_right _ h)
theorem lk_X7_blushOf_f26 : Cond.fieldLink RX7 26 (TX7 8).1 (TX7 8).2.1 (TX7 8).2.2.1 ∈ wsX7_blushOf := by decide +kernel
theorem lk_X7_blushOf_f13 : Cond.fieldLink RX7 13 (TX7 1).1 (TX7 1).2.1 (TX7 1).2.2.1 ∈ wsX7_blushOf := by decide +kernel
theorem lk_X7_blushOf_f20 : Cond.fieldLink RX7 20 (TX7 6).1 (TX7 6).2.1 (TX7 6).2.2.1 ∈ wsX7_blushOf := by decide +kernel
set_option maxHeartbeats 4000000 in
set_option maxRecDepth 100000 in
theorem c_X7_blushOf (l : Launch) (V : z_V) (hV : z_ok V) (hs : z_isM V) (x1 : Int32) (σ : z_St) : z_CtI l V yX7_blushOf wsX7_blushOf rm_X7_blushOf [.ref (z_ad V 0), .int x1] σ (f_X7_blushOf x1 σ) := by
  refine z_startI (lv := [(0, .ref (z_ad V 0)), (1, .int x1)]) hV (by decide) rfl (Nat.le_of_ble_eq_true rfl) rfl ?_
  intro M hM hX
  have hX : z_Cx M V cX7_blushOf 4 (some .int) wsX7_blushOf RX7 := hX
  unfold f_X7_blushOf
  refine z_aload_n hX dX7_blushOf_0 rfl 0 rfl ?_
  refine z_getR (k := 8) hX (z_mod0 hs) rfl rfl in_X7_blushOf_X7 (by decide) lk_X7_blushOf_f26 dX7_blushOf_1 ?_
  refine z_iload_n hX dX7_blushOf_4 rfl 1 rfl ?_
  refine z_iald hX (z_mod6 hs) dX7_blushOf_5 ?_
  refine z_aload_n hX dX7_blushOf_6 rfl 0 rfl ?_
  refine z_getR (k := 1) hX (z_mod0 hs) rfl rfl in_X7_blushOf_X7 (by decide) lk_X7_blushOf_f13 dX7_blushOf_7 ?_
  refine z_bipush (v := 16) hX dX7_blushOf_10 (by decide) ?_
  refine z_iload_n hX dX7_blushOf_12 rfl 1 rfl ?_
  refine z_iadd hX dX7_blushOf_13 ?_
  refine z_iald hX (z_mod2 hs) dX7_blushOf_14 ?_
  refine z_iadd hX dX7_blushOf_15 ?_
  refine z_top (fun v1 => ?_)
  refine z_istore_n (lv' := [(2, .int v1), (0, .ref (z_ad V 0)), (1, .int x1)]) hX dX7_blushOf_16 rfl (by decide) rfl ?_
  refine z_aload_n hX dX7_blushOf_17 rfl 1 rfl ?_
  refine z_aload_n hX dX7_blushOf_18 rfl 1 rfl ?_
  refine z_getR (k := 6) hX (z_mod0 hs) rfl rfl in_X7_blushOf_X7 (by decide) lk_X7_blushOf_f20 dX7_blushOf_19 ?_
  refine z_iload_n hX dX7_blushOf_22 rfl 2 rfl ?_
  refine z_iald hX (z_mod4 hs) dX7_blushOf_23 ?_
  refine z_iconst (v := 0) hX dX7_blushOf_24 (by decide) ?_
  refine z_callVI (n := 2) hX (c_X7_of M.2.1 V hX.2.2.2.2.2 hs (σ 4 x1.toNatClampNeg) (0 : Int32) σ) gX7_blushOf_X7_of rfl (by decide +kernel) ⟨by decide, by decide⟩ rfl rfl (z_mod0 hs) rfl rfl rfl rfl (Nat.le_of_ble_eq_true rfl) dX7_blushOf_25 (fun r2 _ => ?_)
  refine z_istore_n (lv' := [(3, .int r2.1), (2, .int v1), (0, .ref (z_ad V 0)), (1, .int x1)]) hX dX7_blushOf_28 rfl (by decide) rfl ?_
  refine z_iload_n hX dX7_blushOf_29 rfl 0 rfl ?_
  refine z_iconst (v := 1) hX dX7_blushOf_30 (by decide) ?_
  refine z_icmp_ne (tgt := 40) hX dX7_blushOf_31 (by decide) ?_ ?_
  · refine z_iload_n hX dX7_blushOf_40 rfl 0 rfl ?_
    refine z_iconst (v := 3) hX dX7_blushOf_41 (by decide) ?_
    refine z_icmp_ne (tgt := 51) hX dX7_blushOf_42 (by decide) ?_ ?_
    · refine z_iload_n hX dX7_blushOf_51 rfl 1 rfl ?_
      exact z_iret hX dX7_blushOf_52
    · refine z_iload_n hX dX7_blushOf_45 rfl 1 rfl ?_
      refine z_iconst (v := 2) hX dX7_blushOf_46 (by decide) ?_
      refine z_idivc hX dX7_blushOf_47 (by decide) ?_
      refine z_goto (tgt := 52) hX dX7_blushOf_48 (by decide) ?_
      exact z_iret hX dX7_blushOf_52
  · refine z_iconst (v := 2) hX dX7_blushOf_34 (by decide) ?_
    refine z_iload_n hX dX7_blushOf_35 rfl 1 rfl ?_
    refine z_imul hX dX7_blushOf_36 ?_
    refine z_goto (tgt := 52) hX dX7_blushOf_37 (by decide) ?_
    exact z_iret hX dX7_blushOf_52

abbrev rm_X7_least : Room := { frames := 0, cells := 0, slots := 0, locals := 0 }
set_option maxHeartbeats 4000000 in
set_option maxRecDepth 100000 in
theorem c_X7_least (l : Launch) (V : z_V) (hV : z_ok V) (hs : z_isM V) (x0 : Int32) (x1 : Int32) (σ : z_St) : z_CtI l V yX7_least wsX7_least rm_X7_least [.int x0, .int x1] σ (f_X7_least x0 x1 σ) := by
  refine z_startI (lv := [(0, .int x0), (1, .int x1)]) hV (by decide) rfl (Nat.le_of_ble_eq_true rfl) rfl ?_
  intro M hM hX
  have hX : z_Cx M V cX7_least 2 (some .int) wsX7_least RX7 := hX
  unfold f_X7_least
  refine z_iload_n hX dX7_least_0 rfl 0 rfl ?_
  refine z_iload_n hX dX7_least_1 rfl 1 rfl ?_
  refine z_icmp_ge (tgt := 9) hX dX7_least_2 (by decide) ?_ ?_
  · refine z_iload_n hX dX7_least_9 rfl 1 rfl ?_
    exact z_iret hX dX7_least_10
  · refine z_iload_n hX dX7_least_5 rfl 0 rfl ?_
    refine z_goto (tgt := 10) hX dX7_least_6 (by decide) ?_
    exact z_iret hX dX7_least_10
