abbrev rm_X7_isAskedOf : Room := { frames := 1, cells := 0, slots := 0, locals := 24 }
theorem in_X7_isAskedOf_X7 : ∀ w ∈ wsX70, w ∈ wsX7_isAskedOf := fun w h => List.mem_cons_of_mem _ (List.mem_append_right _ h)
theorem lk_X7_isAskedOf_f29 : Cond.fieldLink RX7 29 (TX7 9).1 (TX7 9).2.1 (TX7 9).2.2.1 ∈ wsX7_isAskedOf := by decide +kernel
theorem lk_X7_isAskedOf_f35 : Cond.fieldLink RX7 35 (TX7 11).1 (TX7 11).2.1 (TX7 11).2.2.1 ∈ wsX7_isAskedOf := by decide +kernel
theorem lk_X7_isAskedOf_f13 : Cond.fieldLink RX7 13 (TX7 1).1 (TX7 1).2.1 (TX7 1).2.2.1 ∈ wsX7_isAskedOf := by decide +kernel
theorem lk_X7_isAskedOf_f192 : Cond.fieldLink RX7 192 (TX7 32).1 (TX7 32).2.1 (TX7 32).2.2.1 ∈ wsX7_isAskedOf := by decide +kernel
set_option maxHeartbeats 4000000 in
set_option maxRecDepth 100000 in
theorem w_X7_isAskedOf_92 (M : z_M) (V : z_V) (hs : z_isM V) (hX : z_Cx M V cX7_isAskedOf 7 none wsX7_isAskedOf RX7) (x2 : Int32) (x3 : Int32) (x4 : Int32) (x5 : Int32) (y0 : Int32) (σ : z_St) : z_Go M rm_X7_isAskedOf 7 V (z_QV V) σ 92 [(0, .ref (z_ad V 0)), (2, .int x2), (3, .int x3), (4, .int x4), (5, .int x5)] [.int y0] (f_X7_isAskedOf_92 x2 x3 x4 x5 y0 σ) := by
  unfold f_X7_isAskedOf_92
  refine z_istore (lv' := [(6, .int y0), (0, .ref (z_ad V 0)), (2, .int x2), (3, .int x3), (4, .int x4), (5, .int x5)]) hX dX7_isAskedOf_92 (by decide) rfl ?_
  refine z_iload hX dX7_isAskedOf_94 4 rfl ?_
  refine z_iload hX dX7_isAskedOf_96 0 rfl ?_
  refine z_icmp_le (tgt := 123) hX dX7_isAskedOf_98 (by decide) ?_ ?_
  · refine z_aload_n hX dX7_isAskedOf_123 rfl 1 rfl ?_
    refine z_iload_n hX dX7_isAskedOf_124 rfl 2 rfl ?_
    refine z_iconst (v := 1) hX dX7_isAskedOf_125 (by decide) ?_
    refine z_iload_n hX dX7_isAskedOf_126 rfl 3 rfl ?_
    refine z_ineg hX dX7_isAskedOf_127 ?_
    refine z_callVV (n := 3) hX (c_X7_more M.2.1 V hX.2.2.2.2.2 hs x2 (1 : Int32) (-x3) σ) gX7_isAskedOf_X7_more rfl (by decide +kernel) ⟨by decide, by decide⟩ rfl rfl (z_mod0 hs) rfl rfl rfl rfl (Nat.le_of_ble_eq_true rfl) dX7_isAskedOf_128 (fun r8 _ => ?_)
    refine z_aload_n hX dX7_isAskedOf_131 rfl 1 rfl ?_
    refine z_iload_n hX dX7_isAskedOf_132 rfl 2 rfl ?_
    refine z_iconst (v := 2) hX dX7_isAskedOf_133 (by decide) ?_
    refine z_iload hX dX7_isAskedOf_134 5 rfl ?_
    refine z_ineg hX dX7_isAskedOf_136 ?_
    refine z_callVV (n := 3) hX (c_X7_more M.2.1 V hX.2.2.2.2.2 hs x2 (2 : Int32) (-x5) r8.2) gX7_isAskedOf_X7_more rfl (by decide +kernel) ⟨by decide, by decide⟩ rfl rfl (z_mod0 hs) rfl rfl rfl rfl (Nat.le_of_ble_eq_true rfl) dX7_isAskedOf_137 (fun r9 _ => ?_)
    refine z_aload_n hX dX7_isAskedOf_140 rfl 1 rfl ?_
    refine z_getR (k := 1) hX (z_mod0 hs) rfl rfl in_X7_isAskedOf_X7 (by decide) lk_X7_isAskedOf_f13 dX7_isAskedOf_141 ?_
    refine z_bipush (v := 24) hX dX7_isAskedOf_144 (by decide) ?_
    refine z_dup2 hX dX7_isAskedOf_146 rfl rfl ?_
    refine z_ialdc (j := 24) hX (z_mod2 hs) (by decide) dX7_isAskedOf_147 ?_
    refine z_iload hX dX7_isAskedOf_148 5 rfl ?_
    refine z_iload hX dX7_isAskedOf_150 0 rfl ?_
    refine z_iadd hX dX7_isAskedOf_152 ?_
    refine z_isub hX dX7_isAskedOf_153 ?_
    refine z_iastc (j := 24) hX (z_mod2 hs) (by decide) dX7_isAskedOf_154 (z_bs fun s10 => ?_)
    exact z_vret hX dX7_isAskedOf_155
  · refine z_aload_n hX dX7_isAskedOf_101 rfl 1 rfl ?_
    refine z_iload_n hX dX7_isAskedOf_102 rfl 2 rfl ?_
    refine z_iconst (v := 3) hX dX7_isAskedOf_103 (by decide) ?_
    refine z_iconst (v := 1) hX dX7_isAskedOf_104 (by decide) ?_
    refine z_callVV (n := 3) hX (c_X7_more M.2.1 V hX.2.2.2.2.2 hs x2 (3 : Int32) (1 : Int32) σ) gX7_isAskedOf_X7_more rfl (by decide +kernel) ⟨by decide, by decide⟩ rfl rfl (z_mod0 hs) rfl rfl rfl rfl (Nat.le_of_ble_eq_true rfl) dX7_isAskedOf_105 (fun r11 _ => ?_)
    refine z_aload_n hX dX7_isAskedOf_108 rfl 1 rfl ?_
    refine z_dup hX dX7_isAskedOf_109 rfl ?_
    refine z_getI (k := 32) hX (z_mod0 hs) rfl rfl in_X7_isAskedOf_X7 (by decide) lk_X7_isAskedOf_f192 dX7_isAskedOf_110 ?_
    refine z_iconst (v := 1) hX dX7_isAskedOf_113 (by decide) ?_
    refine z_iload_n hX dX7_isAskedOf_114 rfl 2 rfl ?_
    refine z_ishl hX dX7_isAskedOf_115 ?_
    refine z_ior hX dX7_isAskedOf_116 ?_
    refine z_put1 (k := 32) hX (z_mod0 hs) rfl rfl in_X7_isAskedOf_X7 (by decide) lk_X7_isAskedOf_f192 tyX7 tyX7_ok nmX7 rfl rfl rfl dX7_isAskedOf_117 (z_bs fun s12 => ?_)
    refine z_goto (tgt := 155) hX dX7_isAskedOf_120 (by decide) ?_
    exact z_vret hX dX7_isAskedOf_155
set_option maxHeartbeats 4000000 in
set_option maxRecDepth 100000 in
theorem c_X7_isAskedOf (l : Launch) (V : z_V) (hV : z_ok V) (hs : z_isM V) (x1 : Int32) (σ : z_St) : z_CtV l V yX7_isAskedOf wsX7_isAskedOf rm_X7_isAskedOf [.ref (z_ad V 0), .int x1] σ (f_X7_isAskedOf x1 σ) := by
  refine z_startV (lv := [(0, .ref (z_ad V 0)), (1, .int x1)]) hV (by decide) rfl (Nat.le_of_ble_eq_true rfl) rfl ?_
  intro M hM hX
  have hX : z_Cx M V cX7_isAskedOf 7 none wsX7_isAskedOf RX7 := hX
  unfold f_X7_isAskedOf
  refine z_aload_n hX dX7_isAskedOf_0 rfl 0 rfl ?_
  refine z_getR (k := 9) hX (z_mod0 hs) rfl rfl in_X7_isAskedOf_X7 (by decide) lk_X7_isAskedOf_f29 dX7_isAskedOf_1 ?_
  refine z_iload_n hX dX7_isAskedOf_4 rfl 1 rfl ?_
  refine z_iald hX (z_mod7 hs) dX7_isAskedOf_5 ?_
  refine z_istore_n (lv' := [(2, .int (σ 7 x1.toNatClampNeg)), (0, .ref (z_ad V 0)), (1, .int x1)]) hX dX7_isAskedOf_6 rfl (by decide) rfl ?_
  refine z_aload_n hX dX7_isAskedOf_7 rfl 1 rfl ?_
  refine z_iload_n hX dX7_isAskedOf_8 rfl 0 rfl ?_
  refine z_iconst (v := 1) hX dX7_isAskedOf_9 (by decide) ?_
  refine z_callVI (n := 2) hX (c_X7_of M.2.1 V hX.2.2.2.2.2 hs (σ 7 x1.toNatClampNeg) (1 : Int32) σ) gX7_isAskedOf_X7_of rfl (by decide +kernel) ⟨by decide, by decide⟩ rfl rfl (z_mod0 hs) rfl rfl rfl rfl (Nat.le_of_ble_eq_true rfl) dX7_isAskedOf_10 (fun r1 _ => ?_)
  refine z_aload_n hX dX7_isAskedOf_13 rfl 1 rfl ?_
  refine z_getR (k := 11) hX (z_mod0 hs) rfl rfl in_X7_isAskedOf_X7 (by decide) lk_X7_isAskedOf_f35 dX7_isAskedOf_14 ?_
  refine z_iload_n hX dX7_isAskedOf_17 rfl 2 rfl ?_
  refine z_iald hX (z_mod9 hs) dX7_isAskedOf_18 ?_
  refine z_callSI (n := 2) hX (c_X7_least M.2.1 V hX.2.2.2.2.2 hs r1.1 (r1.2 9 x1.toNatClampNeg) r1.2) gX7_isAskedOf_X7_least rfl (by decide +kernel) ⟨by decide, by decide⟩ rfl rfl rfl rfl (Nat.le_of_ble_eq_true rfl) dX7_isAskedOf_19 (fun r2 _ => ?_)
  refine z_istore_n (lv' := [(3, .int r2.1), (2, .int (σ 7 x1.toNatClampNeg)), (0, .ref (z_ad V 0)), (1, .int x1)]) hX dX7_isAskedOf_22 rfl (by decide) rfl ?_
  refine z_aload_n hX dX7_isAskedOf_23 rfl 2 rfl ?_
  refine z_getR (k := 11) hX (z_mod0 hs) rfl rfl in_X7_isAskedOf_X7 (by decide) lk_X7_isAskedOf_f35 dX7_isAskedOf_24 ?_
  refine z_iload_n hX dX7_isAskedOf_27 rfl 3 rfl ?_
  refine z_iald hX (z_mod9 hs) dX7_isAskedOf_28 ?_
  refine z_iload_n hX dX7_isAskedOf_29 rfl 0 rfl ?_
  refine z_isub hX dX7_isAskedOf_30 ?_
  refine z_top (fun v3 => ?_)
  refine z_istore (lv' := [(4, .int v3), (3, .int r2.1), (2, .int (σ 7 x1.toNatClampNeg)), (0, .ref (z_ad V 0)), (1, .int x1)]) hX dX7_isAskedOf_31 (by decide) rfl ?_
  refine z_iload hX dX7_isAskedOf_33 0 rfl ?_
  refine z_aload_n hX dX7_isAskedOf_35 rfl 3 rfl ?_
  refine z_iload_n hX dX7_isAskedOf_36 rfl 2 rfl ?_
  refine z_iconst (v := 2) hX dX7_isAskedOf_37 (by decide) ?_
  refine z_callVI (n := 2) hX (c_X7_of M.2.1 V hX.2.2.2.2.2 hs (σ 7 x1.toNatClampNeg) (2 : Int32) r2.2) gX7_isAskedOf_X7_of rfl (by decide +kernel) ⟨by decide, by decide⟩ rfl rfl (z_mod0 hs) rfl rfl rfl rfl (Nat.le_of_ble_eq_true rfl) dX7_isAskedOf_38 (fun r4 _ => ?_)
  refine z_aload_n hX dX7_isAskedOf_41 rfl 3 rfl ?_
  refine z_getR (k := 1) hX (z_mod0 hs) rfl rfl in_X7_isAskedOf_X7 (by decide) lk_X7_isAskedOf_f13 dX7_isAskedOf_42 ?_
  refine z_bipush (v := 24) hX dX7_isAskedOf_45 (by decide) ?_
  refine z_ialdc (j := 24) hX (z_mod2 hs) (by decide) dX7_isAskedOf_47 ?_
  refine z_callSI (n := 2) hX (c_X7_least M.2.1 V hX.2.2.2.2.2 hs r4.1 (r4.2 2 24) r4.2) gX7_isAskedOf_X7_least rfl (by decide +kernel) ⟨by decide, by decide⟩ rfl rfl rfl rfl (Nat.le_of_ble_eq_true rfl) dX7_isAskedOf_48 (fun r5 _ => ?_)
  refine z_callSI (n := 2) hX (c_X7_least M.2.1 V hX.2.2.2.2.2 hs v3 r5.1 r5.2) gX7_isAskedOf_X7_least rfl (by decide +kernel) ⟨by decide, by decide⟩ rfl rfl rfl rfl (Nat.le_of_ble_eq_true rfl) dX7_isAskedOf_51 (fun r6 _ => ?_)
  refine z_istore (lv' := [(5, .int r6.1), (4, .int v3), (3, .int r2.1), (2, .int (σ 7 x1.toNatClampNeg)), (0, .ref (z_ad V 0)), (1, .int x1)]) hX dX7_isAskedOf_54 (by decide) rfl ?_
  refine z_iload hX dX7_isAskedOf_56 1 rfl ?_
  refine z_iload hX dX7_isAskedOf_58 0 rfl ?_
  refine z_isub hX dX7_isAskedOf_60 ?_
  refine z_istore (lv' := [(4, .int (v3 - r6.1)), (5, .int r6.1), (3, .int r2.1), (2, .int (σ 7 x1.toNatClampNeg)), (0, .ref (z_ad V 0)), (1, .int x1)]) hX dX7_isAskedOf_61 (by decide) rfl ?_
  refine z_aload_n hX dX7_isAskedOf_63 rfl 4 rfl ?_
  refine z_iload_n hX dX7_isAskedOf_64 rfl 3 rfl ?_
  refine z_iconst (v := 0) hX dX7_isAskedOf_65 (by decide) ?_
  refine z_callVI (n := 2) hX (c_X7_of M.2.1 V hX.2.2.2.2.2 hs (σ 7 x1.toNatClampNeg) (0 : Int32) r6.2) gX7_isAskedOf_X7_of rfl (by decide +kernel) ⟨by decide, by decide⟩ rfl rfl (z_mod0 hs) rfl rfl rfl rfl (Nat.le_of_ble_eq_true rfl) dX7_isAskedOf_66 (fun r7 _ => ?_)
  refine z_iconst (v := 2) hX dX7_isAskedOf_69 (by decide) ?_
  refine z_icmp_ne (tgt := 91) hX dX7_isAskedOf_70 (by decide) ?_ ?_
  · refine z_iconst (v := 0) hX dX7_isAskedOf_91 (by decide) ?_
    refine z_sub [4, 3, 2, 0, 1] rfl ?_
    exact w_X7_isAskedOf_92 M V hs hX (σ 7 x1.toNatClampNeg) r2.1 (v3 - r6.1) r6.1 (0 : Int32) r7.2
  · refine z_iload hX dX7_isAskedOf_73 0 rfl ?_
    refine z_aload_n hX dX7_isAskedOf_75 rfl 4 rfl ?_
    refine z_getR (k := 1) hX (z_mod0 hs) rfl rfl in_X7_isAskedOf_X7 (by decide) lk_X7_isAskedOf_f13 dX7_isAskedOf_76 ?_
    refine z_bipush (v := 24) hX dX7_isAskedOf_79 (by decide) ?_
    refine z_ialdc (j := 24) hX (z_mod2 hs) (by decide) dX7_isAskedOf_81 ?_
    refine z_iload hX dX7_isAskedOf_82 1 rfl ?_
    refine z_isub hX dX7_isAskedOf_84 ?_
    refine z_callSI (n := 2) hX (c_X7_least M.2.1 V hX.2.2.2.2.2 hs (v3 - r6.1) ((r7.2 2 24) - r6.1) r7.2) gX7_isAskedOf_X7_least rfl (by decide +kernel) ⟨by decide, by decide⟩ rfl rfl rfl rfl (Nat.le_of_ble_eq_true rfl) dX7_isAskedOf_85 (fun r13 _ => ?_)
    refine z_goto (tgt := 92) hX dX7_isAskedOf_88 (by decide) ?_
    refine z_sub [4, 3, 2, 0, 1] rfl ?_
    exact w_X7_isAskedOf_92 M V hs hX (σ 7 x1.toNatClampNeg) r2.1 (v3 - r6.1) r6.1 r13.1 r13.2

abbrev rm_X7_weekGoes : Room := { frames := 2, cells := 0, slots := 0, locals := 50 }
theorem in_X7_weekGoes_X7 : ∀ w ∈ wsX70, w ∈ wsX7_weekGoes := fun w h => List.mem_cons_of_mem _ (List.mem_append_right _ h)
theorem lk_X7_weekGoes_f13 : Cond.fieldLink RX7 13 (TX7 1).1 (TX7 1).2.1 (TX7 1).2.2.1 ∈ wsX7_weekGoes := by decide +kernel
theorem lk_X7_weekGoes_f192 : Cond.fieldLink RX7 192 (TX7 32).1 (TX7 32).2.1 (TX7 32).2.2.1 ∈ wsX7_weekGoes := by decide +kernel
theorem lk_X7_weekGoes_f102 : Cond.fieldLink RX7 102 (TX7 4).1 (TX7 4).2.1 (TX7 4).2.2.1 ∈ wsX7_weekGoes := by decide +kernel
theorem lk_X7_weekGoes_f105 : Cond.fieldLink RX7 105 (TX7 5).1 (TX7 5).2.1 (TX7 5).2.2.1 ∈ wsX7_weekGoes := by decide +kernel
theorem lk_X7_weekGoes_f99 : Cond.fieldLink RX7 99 (TX7 3).1 (TX7 3).2.1 (TX7 3).2.2.1 ∈ wsX7_weekGoes := by decide +kernel
theorem lk_X7_weekGoes_f32 : Cond.fieldLink RX7 32 (TX7 10).1 (TX7 10).2.1 (TX7 10).2.2.1 ∈ wsX7_weekGoes := by decide +kernel
theorem lk_X7_weekGoes_f23 : Cond.fieldLink RX7 23 (TX7 7).1 (TX7 7).2.1 (TX7 7).2.2.1 ∈ wsX7_weekGoes := by decide +kernel
theorem lk_X7_weekGoes_f20 : Cond.fieldLink RX7 20 (TX7 6).1 (TX7 6).2.1 (TX7 6).2.2.1 ∈ wsX7_weekGoes := by decide +kernel
set_option maxHeartbeats 4000000 in
set_option maxRecDepth 100000 in
theorem w_X7_weekGoes_219 (M : z_M) (V : z_V) (hs : z_isM V) (hX : z_Cx M V cX7_weekGoes 3 none wsX7_weekGoes RX7) (y0 : Int32) (y1 : Int32) (σ : z_St) : z_Go M rm_X7_weekGoes 3 V (z_QV V) σ 219 [(0, .ref (z_ad V 0))] [.int y0, .int y1, .ref (z_ad V 2)] (f_X7_weekGoes_219 y0 y1 σ) := by
  unfold f_X7_weekGoes_219
  refine z_iast hX (z_mod2 hs) dX7_weekGoes_219 (z_bs fun s2 => ?_)
  refine z_aload_n hX dX7_weekGoes_220 rfl 0 rfl ?_
  refine z_getR (k := 1) hX (z_mod0 hs) rfl rfl in_X7_weekGoes_X7 (by decide) lk_X7_weekGoes_f13 dX7_weekGoes_221 ?_
  refine z_bipush (v := 25) hX dX7_weekGoes_224 (by decide) ?_
  refine z_dup2 hX dX7_weekGoes_226 rfl rfl ?_
  refine z_ialdc (j := 25) hX (z_mod2 hs) (by decide) dX7_weekGoes_227 ?_
  refine z_iconst (v := 1) hX dX7_weekGoes_228 (by decide) ?_
  refine z_iadd hX dX7_weekGoes_229 ?_
  refine z_iastc (j := 25) hX (z_mod2 hs) (by decide) dX7_weekGoes_230 (z_bs fun s3 => ?_)
  exact z_vret hX dX7_weekGoes_231
set_option maxHeartbeats 4000000 in
set_option maxRecDepth 100000 in
theorem w_X7_weekGoes_107 (M : z_M) (V : z_V) (hs : z_isM V) (hX : z_Cx M V cX7_weekGoes 3 none wsX7_weekGoes RX7) : ∀ (n : Nat) (x2 : Int32) (σ : z_St), z_Go M rm_X7_weekGoes 3 V (z_QV V) σ 107 [(0, .ref (z_ad V 0)), (2, .int x2)] [] (f_X7_weekGoes_107 n x2 σ) := by
  intro n
  induction n with
  | zero => intro x2 σ; exact z_none
  | succ n ih =>
    intro x2 σ
    rw [f_X7_weekGoes_107]
    refine z_iload_n hX dX7_weekGoes_107 rfl 1 rfl ?_
    refine z_aload_n hX dX7_weekGoes_108 rfl 0 rfl ?_
    refine z_getI (k := 3) hX (z_mod0 hs) rfl rfl in_X7_weekGoes_X7 (by decide) lk_X7_weekGoes_f99 dX7_weekGoes_109 ?_
    refine z_icmp_ge (tgt := 182) hX dX7_weekGoes_112 (by decide) ?_ ?_
    · refine z_aload_n hX dX7_weekGoes_182 rfl 0 rfl ?_
      refine z_getR (k := 1) hX (z_mod0 hs) rfl rfl in_X7_weekGoes_X7 (by decide) lk_X7_weekGoes_f13 dX7_weekGoes_183 ?_
      refine z_bipush (v := 24) hX dX7_weekGoes_186 (by decide) ?_
      refine z_aload_n hX dX7_weekGoes_188 rfl 0 rfl ?_
      refine z_getR (k := 1) hX (z_mod0 hs) rfl rfl in_X7_weekGoes_X7 (by decide) lk_X7_weekGoes_f13 dX7_weekGoes_189 ?_
      refine z_bipush (v := 24) hX dX7_weekGoes_192 (by decide) ?_
      refine z_ialdc (j := 24) hX (z_mod2 hs) (by decide) dX7_weekGoes_194 ?_
      refine z_bipush (v := 99) hX dX7_weekGoes_195 (by decide) ?_
      refine z_icmp_ge (tgt := 212) hX dX7_weekGoes_197 (by decide) ?_ ?_
      · refine z_aload_n hX dX7_weekGoes_212 rfl 0 rfl ?_
        refine z_getR (k := 1) hX (z_mod0 hs) rfl rfl in_X7_weekGoes_X7 (by decide) lk_X7_weekGoes_f13 dX7_weekGoes_213 ?_
        refine z_bipush (v := 24) hX dX7_weekGoes_216 (by decide) ?_
        refine z_ialdc (j := 24) hX (z_mod2 hs) (by decide) dX7_weekGoes_218 ?_
        refine z_sub [0] rfl ?_
        exact w_X7_weekGoes_219 M V hs hX (σ 2 24) (24 : Int32) σ
      · refine z_aload_n hX dX7_weekGoes_200 rfl 0 rfl ?_
        refine z_getR (k := 1) hX (z_mod0 hs) rfl rfl in_X7_weekGoes_X7 (by decide) lk_X7_weekGoes_f13 dX7_weekGoes_201 ?_
        refine z_bipush (v := 24) hX dX7_weekGoes_204 (by decide) ?_
        refine z_ialdc (j := 24) hX (z_mod2 hs) (by decide) dX7_weekGoes_206 ?_
        refine z_iconst (v := 1) hX dX7_weekGoes_207 (by decide) ?_
        refine z_iadd hX dX7_weekGoes_208 ?_
        refine z_goto (tgt := 219) hX dX7_weekGoes_209 (by decide) ?_
        refine z_sub [0] rfl ?_
        exact w_X7_weekGoes_219 M V hs hX ((σ 2 24) + (1 : Int32)) (24 : Int32) σ
    · refine z_aload_n hX dX7_weekGoes_115 rfl 0 rfl ?_
      refine z_iload_n hX dX7_weekGoes_116 rfl 1 rfl ?_
      refine z_iconst (v := 1) hX dX7_weekGoes_117 (by decide) ?_
      refine z_aload_n hX dX7_weekGoes_118 rfl 0 rfl ?_
      refine z_iload_n hX dX7_weekGoes_119 rfl 1 rfl ?_
      refine z_iconst (v := 1) hX dX7_weekGoes_120 (by decide) ?_
      refine z_callVI (n := 2) hX (c_X7_of M.2.1 V hX.2.2.2.2.2 hs x2 (1 : Int32) σ) gX7_weekGoes_X7_of rfl (by decide +kernel) ⟨by decide, by decide⟩ rfl rfl (z_mod0 hs) rfl rfl rfl rfl (Nat.le_of_ble_eq_true rfl) dX7_weekGoes_121 (fun r4 _ => ?_)
      refine z_bipush (v := 10) hX dX7_weekGoes_124 (by decide) ?_
      refine z_iadd hX dX7_weekGoes_126 ?_
      refine z_iconst (v := 1) hX dX7_weekGoes_127 (by decide) ?_
      refine z_isub hX dX7_weekGoes_128 ?_
      refine z_bipush (v := 10) hX dX7_weekGoes_129 (by decide) ?_
      refine z_idivc hX dX7_weekGoes_131 (by decide) ?_
      refine z_ineg hX dX7_weekGoes_132 ?_
      refine z_callVV (n := 3) hX (c_X7_more M.2.1 V hX.2.2.2.2.2 hs x2 (1 : Int32) (-(((r4.1 + (10 : Int32)) - (1 : Int32)) / (10 : Int32))) r4.2) gX7_weekGoes_X7_more rfl (by decide +kernel) ⟨by decide, by decide⟩ rfl rfl (z_mod0 hs) rfl rfl rfl rfl (Nat.le_of_ble_eq_true rfl) dX7_weekGoes_133 (fun r5 _ => ?_)
      refine z_aload_n hX dX7_weekGoes_136 rfl 0 rfl ?_
      refine z_getR (k := 1) hX (z_mod0 hs) rfl rfl in_X7_weekGoes_X7 (by decide) lk_X7_weekGoes_f13 dX7_weekGoes_137 ?_
      refine z_iconst (v := 4) hX dX7_weekGoes_140 (by decide) ?_
      refine z_iload_n hX dX7_weekGoes_141 rfl 1 rfl ?_
      refine z_imul hX dX7_weekGoes_142 ?_
      refine z_iconst (v := 2) hX dX7_weekGoes_143 (by decide) ?_
      refine z_iadd hX dX7_weekGoes_144 ?_
      refine z_sipush (v := 999) hX dX7_weekGoes_145 (by decide) ?_
      refine z_aload_n hX dX7_weekGoes_148 rfl 0 rfl ?_
      refine z_iload_n hX dX7_weekGoes_149 rfl 1 rfl ?_
      refine z_iconst (v := 2) hX dX7_weekGoes_150 (by decide) ?_
      refine z_callVI (n := 2) hX (c_X7_of M.2.1 V hX.2.2.2.2.2 hs x2 (2 : Int32) r5.2) gX7_weekGoes_X7_of rfl (by decide +kernel) ⟨by decide, by decide⟩ rfl rfl (z_mod0 hs) rfl rfl rfl rfl (Nat.le_of_ble_eq_true rfl) dX7_weekGoes_151 (fun r6 _ => ?_)
      refine z_aload_n hX dX7_weekGoes_154 rfl 0 rfl ?_
      refine z_iload_n hX dX7_weekGoes_155 rfl 1 rfl ?_
      refine z_iconst (v := 2) hX dX7_weekGoes_156 (by decide) ?_
      refine z_callVI (n := 2) hX (c_X7_of M.2.1 V hX.2.2.2.2.2 hs x2 (2 : Int32) r6.2) gX7_weekGoes_X7_of rfl (by decide +kernel) ⟨by decide, by decide⟩ rfl rfl (z_mod0 hs) rfl rfl rfl rfl (Nat.le_of_ble_eq_true rfl) dX7_weekGoes_157 (fun r7 _ => ?_)
      refine z_aload_n hX dX7_weekGoes_160 rfl 0 rfl ?_
      refine z_getR (k := 1) hX (z_mod0 hs) rfl rfl in_X7_weekGoes_X7 (by decide) lk_X7_weekGoes_f13 dX7_weekGoes_161 ?_
      refine z_bipush (v := 23) hX dX7_weekGoes_164 (by decide) ?_
      refine z_ialdc (j := 23) hX (z_mod2 hs) (by decide) dX7_weekGoes_166 ?_
      refine z_imul hX dX7_weekGoes_167 ?_
      refine z_bipush (v := 10) hX dX7_weekGoes_168 (by decide) ?_
      refine z_idivc hX dX7_weekGoes_170 (by decide) ?_
      refine z_iadd hX dX7_weekGoes_171 ?_
      refine z_callSI (n := 2) hX (c_X7_least M.2.1 V hX.2.2.2.2.2 hs (999 : Int32) (r6.1 + ((r7.1 * (r7.2 2 23)) / (10 : Int32))) r7.2) gX7_weekGoes_X7_least rfl (by decide +kernel) ⟨by decide, by decide⟩ rfl rfl rfl rfl (Nat.le_of_ble_eq_true rfl) dX7_weekGoes_172 (fun r8 _ => ?_)
      refine z_iast hX (z_mod2 hs) dX7_weekGoes_175 (z_bs fun s9 => ?_)
      refine z_iinc (v := (x2 + 1)) (lv' := [(2, .int (x2 + 1)), (0, .ref (z_ad V 0))]) hX dX7_weekGoes_176 1 rfl rfl (by decide) rfl ?_
      refine z_goto (tgt := 107) hX dX7_weekGoes_179 (by decide) ?_
      refine z_sub [1, 0] rfl ?_
      exact ih (x2 + 1) s9
set_option maxHeartbeats 4000000 in
set_option maxRecDepth 100000 in
theorem w_X7_weekGoes_76 (M : z_M) (V : z_V) (hs : z_isM V) (hX : z_Cx M V cX7_weekGoes 3 none wsX7_weekGoes RX7) : ∀ (n : Nat) (x1 : Int32) (x2 : Int32) (σ : z_St), z_Go M rm_X7_weekGoes 3 V (z_QV V) σ 76 [(0, .ref (z_ad V 0)), (1, .int x1), (2, .int x2)] [] (f_X7_weekGoes_76 n x1 x2 σ) := by
  intro n
  induction n with
  | zero => intro x1 x2 σ; exact z_none
  | succ n ih =>
    intro x1 x2 σ
    rw [f_X7_weekGoes_76]
    refine z_iload_n hX dX7_weekGoes_76 rfl 2 rfl ?_
    refine z_aload_n hX dX7_weekGoes_77 rfl 0 rfl ?_
    refine z_getI (k := 5) hX (z_mod0 hs) rfl rfl in_X7_weekGoes_X7 (by decide) lk_X7_weekGoes_f105 dX7_weekGoes_78 ?_
    refine z_icmp_ge (tgt := 105) hX dX7_weekGoes_81 (by decide) ?_ ?_
    · refine z_iconst (v := 0) hX dX7_weekGoes_105 (by decide) ?_
      refine z_istore_n (lv' := [(2, .int (0 : Int32)), (0, .ref (z_ad V 0)), (1, .int x1)]) hX dX7_weekGoes_106 rfl (by decide) rfl ?_
      refine z_sub [1, 0] rfl ?_
      exact w_X7_weekGoes_107 M V hs hX 200 (0 : Int32) σ
    · refine z_aload_n hX dX7_weekGoes_84 rfl 0 rfl ?_
      refine z_getR (k := 10) hX (z_mod0 hs) rfl rfl in_X7_weekGoes_X7 (by decide) lk_X7_weekGoes_f32 dX7_weekGoes_85 ?_
      refine z_iload_n hX dX7_weekGoes_88 rfl 2 rfl ?_
      refine z_iald hX (z_mod8 hs) dX7_weekGoes_89 ?_
      refine z_iload_n hX dX7_weekGoes_90 rfl 1 rfl ?_
      refine z_icmp_ne (tgt := 99) hX dX7_weekGoes_91 (by decide) ?_ ?_
      · refine z_iinc (v := (x2 + 1)) (lv' := [(2, .int (x2 + 1)), (0, .ref (z_ad V 0)), (1, .int x1)]) hX dX7_weekGoes_99 2 rfl rfl (by decide) rfl ?_
        refine z_goto (tgt := 76) hX dX7_weekGoes_102 (by decide) ?_
        refine z_sub [1, 2, 0] rfl ?_
        exact ih x1 (x2 + 1) σ
      · refine z_aload_n hX dX7_weekGoes_94 rfl 0 rfl ?_
        refine z_iload_n hX dX7_weekGoes_95 rfl 2 rfl ?_
        refine z_callVV (n := 1) hX (c_X7_isAskedOf M.2.1 V hX.2.2.2.2.2 hs x2 σ) gX7_weekGoes_X7_isAskedOf rfl (by decide +kernel) ⟨by decide, by decide⟩ rfl rfl (z_mod0 hs) rfl rfl rfl rfl (Nat.le_of_ble_eq_true rfl) dX7_weekGoes_96 (fun r10 _ => ?_)
        refine z_iinc (v := (x2 + 1)) (lv' := [(2, .int (x2 + 1)), (0, .ref (z_ad V 0)), (1, .int x1)]) hX dX7_weekGoes_99 2 rfl rfl (by decide) rfl ?_
        refine z_goto (tgt := 76) hX dX7_weekGoes_102 (by decide) ?_
        refine z_sub [1, 2, 0] rfl ?_
        exact ih x1 (x2 + 1) r10.2
set_option maxHeartbeats 4000000 in
set_option maxRecDepth 100000 in
theorem w_X7_weekGoes_15 (M : z_M) (V : z_V) (hs : z_isM V) (hX : z_Cx M V cX7_weekGoes 3 none wsX7_weekGoes RX7) : ∀ (n : Nat) (x1 : Int32) (x2 : Int32) (σ : z_St), z_Go M rm_X7_weekGoes 3 V (z_QV V) σ 15 [(0, .ref (z_ad V 0)), (1, .int x1), (2, .int x2)] [] (f_X7_weekGoes_15 n x1 x2 σ) := by
  intro n
  induction n with
  | zero => intro x1 x2 σ; exact z_none
  | succ n ih =>
    intro x1 x2 σ
    rw [f_X7_weekGoes_15]
    refine z_iload_n hX dX7_weekGoes_15 rfl 2 rfl ?_
    refine z_aload_n hX dX7_weekGoes_16 rfl 0 rfl ?_
    refine z_getI (k := 4) hX (z_mod0 hs) rfl rfl in_X7_weekGoes_X7 (by decide) lk_X7_weekGoes_f102 dX7_weekGoes_17 ?_
    refine z_icmp_ge (tgt := 74) hX dX7_weekGoes_20 (by decide) ?_ ?_
    · refine z_iconst (v := 0) hX dX7_weekGoes_74 (by decide) ?_
      refine z_istore_n (lv' := [(2, .int (0 : Int32)), (0, .ref (z_ad V 0)), (1, .int x1)]) hX dX7_weekGoes_75 rfl (by decide) rfl ?_
      refine z_sub [1, 2, 0] rfl ?_
      exact w_X7_weekGoes_76 M V hs hX 200 x1 (0 : Int32) σ
    · refine z_aload_n hX dX7_weekGoes_23 rfl 0 rfl ?_
      refine z_getR (k := 7) hX (z_mod0 hs) rfl rfl in_X7_weekGoes_X7 (by decide) lk_X7_weekGoes_f23 dX7_weekGoes_24 ?_
      refine z_iload_n hX dX7_weekGoes_27 rfl 2 rfl ?_
      refine z_iald hX (z_mod5 hs) dX7_weekGoes_28 ?_
      refine z_iload_n hX dX7_weekGoes_29 rfl 1 rfl ?_
      refine z_icmp_ne (tgt := 68) hX dX7_weekGoes_30 (by decide) ?_ ?_
      · refine z_iinc (v := (x2 + 1)) (lv' := [(2, .int (x2 + 1)), (0, .ref (z_ad V 0)), (1, .int x1)]) hX dX7_weekGoes_68 2 rfl rfl (by decide) rfl ?_
        refine z_goto (tgt := 15) hX dX7_weekGoes_71 (by decide) ?_
        refine z_sub [1, 2, 0] rfl ?_
        exact ih x1 (x2 + 1) σ
      · refine z_aload_n hX dX7_weekGoes_33 rfl 0 rfl ?_
        refine z_aload_n hX dX7_weekGoes_34 rfl 0 rfl ?_
        refine z_getR (k := 6) hX (z_mod0 hs) rfl rfl in_X7_weekGoes_X7 (by decide) lk_X7_weekGoes_f20 dX7_weekGoes_35 ?_
        refine z_iload_n hX dX7_weekGoes_38 rfl 2 rfl ?_
        refine z_iald hX (z_mod4 hs) dX7_weekGoes_39 ?_
        refine z_aload_n hX dX7_weekGoes_40 rfl 0 rfl ?_
        refine z_getR (k := 1) hX (z_mod0 hs) rfl rfl in_X7_weekGoes_X7 (by decide) lk_X7_weekGoes_f13 dX7_weekGoes_41 ?_
        refine z_bipush (v := 22) hX dX7_weekGoes_44 (by decide) ?_
        refine z_ialdc (j := 22) hX (z_mod2 hs) (by decide) dX7_weekGoes_46 ?_
        refine z_iload_n hX dX7_weekGoes_47 rfl 2 rfl ?_
        refine z_ishr hX dX7_weekGoes_48 ?_
        refine z_iconst (v := 1) hX dX7_weekGoes_49 (by decide) ?_
        refine z_iand hX dX7_weekGoes_50 ?_
        refine z_iconst (v := 1) hX dX7_weekGoes_51 (by decide) ?_
        refine z_icmp_ne (tgt := 59) hX dX7_weekGoes_52 (by decide) ?_ ?_
        · refine z_iconst (v := 1) hX dX7_weekGoes_59 (by decide) ?_
          refine z_aload_n hX dX7_weekGoes_60 rfl 0 rfl ?_
          refine z_iload_n hX dX7_weekGoes_61 rfl 2 rfl ?_
          refine z_callVI (n := 1) hX (c_X7_blushOf M.2.1 V hX.2.2.2.2.2 hs x2 σ) gX7_weekGoes_X7_blushOf rfl (by decide +kernel) ⟨by decide, by decide⟩ rfl rfl (z_mod0 hs) rfl rfl rfl rfl (Nat.le_of_ble_eq_true rfl) dX7_weekGoes_62 (fun r11 _ => ?_)
          refine z_callVV (n := 3) hX (c_X7_more M.2.1 V hX.2.2.2.2.2 hs (σ 4 x2.toNatClampNeg) (1 : Int32) r11.1 r11.2) gX7_weekGoes_X7_more rfl (by decide +kernel) ⟨by decide, by decide⟩ rfl rfl (z_mod0 hs) rfl rfl rfl rfl (Nat.le_of_ble_eq_true rfl) dX7_weekGoes_65 (fun r12 _ => ?_)
          refine z_iinc (v := (x2 + 1)) (lv' := [(2, .int (x2 + 1)), (0, .ref (z_ad V 0)), (1, .int x1)]) hX dX7_weekGoes_68 2 rfl rfl (by decide) rfl ?_
          refine z_goto (tgt := 15) hX dX7_weekGoes_71 (by decide) ?_
          refine z_sub [1, 2, 0] rfl ?_
          exact ih x1 (x2 + 1) r12.2
        · refine z_iconst (v := 2) hX dX7_weekGoes_55 (by decide) ?_
          refine z_goto (tgt := 60) hX dX7_weekGoes_56 (by decide) ?_
          refine z_aload_n hX dX7_weekGoes_60 rfl 0 rfl ?_
          refine z_iload_n hX dX7_weekGoes_61 rfl 2 rfl ?_
          refine z_callVI (n := 1) hX (c_X7_blushOf M.2.1 V hX.2.2.2.2.2 hs x2 σ) gX7_weekGoes_X7_blushOf rfl (by decide +kernel) ⟨by decide, by decide⟩ rfl rfl (z_mod0 hs) rfl rfl rfl rfl (Nat.le_of_ble_eq_true rfl) dX7_weekGoes_62 (fun r13 _ => ?_)
          refine z_callVV (n := 3) hX (c_X7_more M.2.1 V hX.2.2.2.2.2 hs (σ 4 x2.toNatClampNeg) (2 : Int32) r13.1 r13.2) gX7_weekGoes_X7_more rfl (by decide +kernel) ⟨by decide, by decide⟩ rfl rfl (z_mod0 hs) rfl rfl rfl rfl (Nat.le_of_ble_eq_true rfl) dX7_weekGoes_65 (fun r14 _ => ?_)
          refine z_iinc (v := (x2 + 1)) (lv' := [(2, .int (x2 + 1)), (0, .ref (z_ad V 0)), (1, .int x1)]) hX dX7_weekGoes_68 2 rfl rfl (by decide) rfl ?_
          refine z_goto (tgt := 15) hX dX7_weekGoes_71 (by decide) ?_
          refine z_sub [1, 2, 0] rfl ?_
          exact ih x1 (x2 + 1) r14.2
set_option maxHeartbeats 4000000 in
set_option maxRecDepth 100000 in
theorem c_X7_weekGoes (l : Launch) (V : z_V) (hV : z_ok V) (hs : z_isM V) (σ : z_St) : z_CtV l V yX7_weekGoes wsX7_weekGoes rm_X7_weekGoes [.ref (z_ad V 0)] σ (f_X7_weekGoes σ) := by
  refine z_startV (lv := [(0, .ref (z_ad V 0))]) hV (by decide) rfl (Nat.le_of_ble_eq_true rfl) rfl ?_
  intro M hM hX
  have hX : z_Cx M V cX7_weekGoes 3 none wsX7_weekGoes RX7 := hX
  unfold f_X7_weekGoes
  refine z_aload_n hX dX7_weekGoes_0 rfl 0 rfl ?_
  refine z_getR (k := 1) hX (z_mod0 hs) rfl rfl in_X7_weekGoes_X7 (by decide) lk_X7_weekGoes_f13 dX7_weekGoes_1 ?_
  refine z_bipush (v := 25) hX dX7_weekGoes_4 (by decide) ?_
  refine z_ialdc (j := 25) hX (z_mod2 hs) (by decide) dX7_weekGoes_6 ?_
  refine z_istore_n (lv' := [(1, .int (σ 2 25)), (0, .ref (z_ad V 0))]) hX dX7_weekGoes_7 rfl (by decide) rfl ?_
  refine z_aload_n hX dX7_weekGoes_8 rfl 1 rfl ?_
  refine z_iconst (v := 0) hX dX7_weekGoes_9 (by decide) ?_
  refine z_put1 (k := 32) hX (z_mod0 hs) rfl rfl in_X7_weekGoes_X7 (by decide) lk_X7_weekGoes_f192 tyX7 tyX7_ok nmX7 rfl rfl rfl dX7_weekGoes_10 (z_bs fun s1 => ?_)
  refine z_iconst (v := 0) hX dX7_weekGoes_13 (by decide) ?_
  refine z_istore_n (lv' := [(2, .int (0 : Int32)), (1, .int (σ 2 25)), (0, .ref (z_ad V 0))]) hX dX7_weekGoes_14 rfl (by decide) rfl ?_
  refine z_sub [2, 1, 0] rfl ?_
  exact w_X7_weekGoes_15 M V hs hX 200 (σ 2 25) (0 : Int32) s1

abbrev rm_X7_weeksGo : Room := { frames := 3, cells := 0, slots := 0, locals := 72 }
set_option maxHeartbeats 4000000 in
set_option maxRecDepth 100000 in
theorem w_X7_weeksGo_2 (M : z_M) (V : z_V) (hs : z_isM V) (hX : z_Cx M V cX7_weeksGo 3 none wsX7_weeksGo RX7) : ∀ (n : Nat) (x1 : Int32) (x2 : Int32) (σ : z_St), z_Go M rm_X7_weeksGo 3 V (z_QV V) σ 2 [(0, .ref (z_ad V 0)), (1, .int x1), (2, .int x2)] [] (f_X7_weeksGo_2 n x1 x2 σ) := by
  intro n
  induction n with
  | zero => intro x1 x2 σ; exact z_none
  | succ n ih =>
    intro x1 x2 σ
    rw [f_X7_weeksGo_2]
    refine z_iload_n hX dX7_weeksGo_2 rfl 2 rfl ?_
    refine z_iload_n hX dX7_weeksGo_3 rfl 1 rfl ?_
    refine z_icmp_ge (tgt := 17) hX dX7_weeksGo_4 (by decide) ?_ ?_
    · exact z_vret hX dX7_weeksGo_17
    · refine z_aload_n hX dX7_weeksGo_7 rfl 0 rfl ?_
      refine z_callVV (n := 0) hX (c_X7_weekGoes M.2.1 V hX.2.2.2.2.2 hs σ) gX7_weeksGo_X7_weekGoes rfl (by decide +kernel) ⟨by decide, by decide⟩ rfl rfl (z_mod0 hs) rfl rfl rfl rfl (Nat.le_of_ble_eq_true rfl) dX7_weeksGo_8 (fun r1 _ => ?_)
      refine z_iinc (v := (x2 + 1)) (lv' := [(2, .int (x2 + 1)), (0, .ref (z_ad V 0)), (1, .int x1)]) hX dX7_weeksGo_11 2 rfl rfl (by decide) rfl ?_
      refine z_goto (tgt := 2) hX dX7_weeksGo_14 (by decide) ?_
      refine z_sub [1, 2, 0] rfl ?_
      exact ih x1 (x2 + 1) r1.2
set_option maxHeartbeats 4000000 in
set_option maxRecDepth 100000 in
theorem c_X7_weeksGo (l : Launch) (V : z_V) (hV : z_ok V) (hs : z_isM V) (x1 : Int32) (σ : z_St) : z_CtV l V yX7_weeksGo wsX7_weeksGo rm_X7_weeksGo [.ref (z_ad V 0), .int x1] σ (f_X7_weeksGo x1 σ) := by
  refine z_startV (lv := [(0, .ref (z_ad V 0)), (1, .int x1)]) hV (by decide) rfl (Nat.le_of_ble_eq_true rfl) rfl ?_
  intro M hM hX
  have hX : z_Cx M V cX7_weeksGo 3 none wsX7_weeksGo RX7 := hX
  unfold f_X7_weeksGo
  refine z_iconst (v := 0) hX dX7_weeksGo_0 (by decide) ?_
  refine z_istore_n (lv' := [(2, .int (0 : Int32)), (0, .ref (z_ad V 0)), (1, .int x1)]) hX dX7_weeksGo_1 rfl (by decide) rfl ?_
  refine z_sub [1, 2, 0] rfl ?_
  exact w_X7_weeksGo_2 M V hs hX 200 x1 (0 : Int32) σ

abbrev rm_X7_weeksLeft : Room := { frames := 0, cells := 0, slots := 0, locals := 0 }
theorem in_X7_weeksLeft_X7 : ∀ w ∈ wsX70, w ∈ wsX7_weeksLeft := fun w h => List.mem_cons_of_mem _ (List.mem_append_right _ h)
theorem lk_X7_weeksLeft_f7 : Cond.fieldLink RX7 7 (TX7 0).1 (TX7 0).2.1 (TX7 0).2.2.1 ∈ wsX7_weeksLeft := by decide +kernel
set_option maxHeartbeats 4000000 in
set_option maxRecDepth 100000 in
theorem c_X7_weeksLeft (l : Launch) (V : z_V) (hV : z_ok V) (hs : z_isM V) (σ : z_St) : z_CtI l V yX7_weeksLeft wsX7_weeksLeft rm_X7_weeksLeft [.ref (z_ad V 0)] σ (f_X7_weeksLeft σ) := by
  refine z_startI (lv := [(0, .ref (z_ad V 0))]) hV (by decide) rfl (Nat.le_of_ble_eq_true rfl) rfl ?_
  intro M hM hX
  have hX : z_Cx M V cX7_weeksLeft 1 (some .int) wsX7_weeksLeft RX7 := hX
  unfold f_X7_weeksLeft
  refine z_aload_n hX dX7_weeksLeft_0 rfl 0 rfl ?_
  refine z_getR (k := 0) hX (z_mod0 hs) rfl rfl in_X7_weeksLeft_X7 (by decide) lk_X7_weeksLeft_f7 dX7_weeksLeft_1 ?_
  refine z_bipush (v := 25) hX dX7_weeksLeft_4 (by decide) ?_
  refine z_ialdc (j := 25) hX (z_mod1 hs) (by decide) dX7_weeksLeft_6 ?_
  refine z_bipush (v := 10) hX dX7_weeksLeft_7 (by decide) ?_
  refine z_icmp_ge (tgt := 25) hX dX7_weeksLeft_9 (by decide) ?_ ?_
  · refine z_iconst (v := 0) hX dX7_weeksLeft_25 (by decide) ?_
    exact z_iret hX dX7_weeksLeft_26
  · refine z_bipush (v := 10) hX dX7_weeksLeft_12 (by decide) ?_
    refine z_aload_n hX dX7_weeksLeft_14 rfl 0 rfl ?_
    refine z_getR (k := 0) hX (z_mod0 hs) rfl rfl in_X7_weeksLeft_X7 (by decide) lk_X7_weeksLeft_f7 dX7_weeksLeft_15 ?_
    refine z_bipush (v := 25) hX dX7_weeksLeft_18 (by decide) ?_
    refine z_ialdc (j := 25) hX (z_mod1 hs) (by decide) dX7_weeksLeft_20 ?_
    refine z_isub hX dX7_weeksLeft_21 ?_
    refine z_goto (tgt := 26) hX dX7_weeksLeft_22 (by decide) ?_
    exact z_iret hX dX7_weeksLeft_26

abbrev rm_X7_brazenMore : Room := { frames := 1, cells := 0, slots := 0, locals := 22 }
theorem in_X7_brazenMore_X7 : ∀ w ∈ wsX70, w ∈ wsX7_brazenMore := fun w h => List.mem_cons_of_mem _ (List.mem_append_right _ h)
theorem lk_X7_brazenMore_f99 : Cond.fieldLink RX7 99 (TX7 3).1 (TX7 3).2.1 (TX7 3).2.2.1 ∈ wsX7_brazenMore := by decide +kernel
theorem lk_X7_brazenMore_f7 : Cond.fieldLink RX7 7 (TX7 0).1 (TX7 0).2.1 (TX7 0).2.2.1 ∈ wsX7_brazenMore := by decide +kernel
set_option maxHeartbeats 4000000 in
set_option maxRecDepth 100000 in
theorem w_X7_brazenMore_4 (M : z_M) (V : z_V) (hs : z_isM V) (hX : z_Cx M V cX7_brazenMore 3 (some .int) wsX7_brazenMore RX7) : ∀ (n : Nat) (x1 : Int32) (x2 : Int32) (σ : z_St), z_Go M rm_X7_brazenMore 3 V (z_QI V) σ 4 [(0, .ref (z_ad V 0)), (1, .int x1), (2, .int x2)] [] (f_X7_brazenMore_4 n x1 x2 σ) := by
  intro n
  induction n with
  | zero => intro x1 x2 σ; exact z_none
  | succ n ih =>
    intro x1 x2 σ
    rw [f_X7_brazenMore_4]
    refine z_iload_n hX dX7_brazenMore_4 rfl 2 rfl ?_
    refine z_aload_n hX dX7_brazenMore_5 rfl 0 rfl ?_
    refine z_getI (k := 3) hX (z_mod0 hs) rfl rfl in_X7_brazenMore_X7 (by decide) lk_X7_brazenMore_f99 dX7_brazenMore_6 ?_
    refine z_icmp_ge (tgt := 38) hX dX7_brazenMore_9 (by decide) ?_ ?_
    · refine z_iload_n hX dX7_brazenMore_38 rfl 1 rfl ?_
      exact z_iret hX dX7_brazenMore_39
    · refine z_iload_n hX dX7_brazenMore_12 rfl 1 rfl ?_
      refine z_aload_n hX dX7_brazenMore_13 rfl 0 rfl ?_
      refine z_iload_n hX dX7_brazenMore_14 rfl 2 rfl ?_
      refine z_iconst (v := 3) hX dX7_brazenMore_15 (by decide) ?_
      refine z_callVI (n := 2) hX (c_X7_of M.2.1 V hX.2.2.2.2.2 hs x2 (3 : Int32) σ) gX7_brazenMore_X7_of rfl (by decide +kernel) ⟨by decide, by decide⟩ rfl rfl (z_mod0 hs) rfl rfl rfl rfl (Nat.le_of_ble_eq_true rfl) dX7_brazenMore_16 (fun r1 _ => ?_)
      refine z_aload_n hX dX7_brazenMore_19 rfl 0 rfl ?_
      refine z_getR (k := 0) hX (z_mod0 hs) rfl rfl in_X7_brazenMore_X7 (by decide) lk_X7_brazenMore_f7 dX7_brazenMore_20 ?_
      refine z_iconst (v := 4) hX dX7_brazenMore_23 (by decide) ?_
      refine z_iload_n hX dX7_brazenMore_24 rfl 2 rfl ?_
      refine z_imul hX dX7_brazenMore_25 ?_
      refine z_iconst (v := 3) hX dX7_brazenMore_26 (by decide) ?_
      refine z_iadd hX dX7_brazenMore_27 ?_
      refine z_iald hX (z_mod1 hs) dX7_brazenMore_28 ?_
      refine z_isub hX dX7_brazenMore_29 ?_
      refine z_iadd hX dX7_brazenMore_30 ?_
      refine z_top (fun v2 => ?_)
      refine z_istore_n (lv' := [(1, .int v2), (0, .ref (z_ad V 0)), (2, .int x2)]) hX dX7_brazenMore_31 rfl (by decide) rfl ?_
      refine z_iinc (v := (x2 + 1)) (lv' := [(2, .int (x2 + 1)), (1, .int v2), (0, .ref (z_ad V 0))]) hX dX7_brazenMore_32 2 rfl rfl (by decide) rfl ?_
      refine z_goto (tgt := 4) hX dX7_brazenMore_35 (by decide) ?_
      refine z_sub [2, 1, 0] rfl ?_
      exact ih v2 (x2 + 1) r1.2
set_option maxHeartbeats 4000000 in
set_option maxRecDepth 100000 in
theorem c_X7_brazenMore (l : Launch) (V : z_V) (hV : z_ok V) (hs : z_isM V) (σ : z_St) : z_CtI l V yX7_brazenMore wsX7_brazenMore rm_X7_brazenMore [.ref (z_ad V 0)] σ (f_X7_brazenMore σ) := by
  refine z_startI (lv := [(0, .ref (z_ad V 0))]) hV (by decide) rfl (Nat.le_of_ble_eq_true rfl) rfl ?_
  intro M hM hX
  have hX : z_Cx M V cX7_brazenMore 3 (some .int) wsX7_brazenMore RX7 := hX
  unfold f_X7_brazenMore
  refine z_iconst (v := 0) hX dX7_brazenMore_0 (by decide) ?_
  refine z_istore_n (lv' := [(1, .int (0 : Int32)), (0, .ref (z_ad V 0))]) hX dX7_brazenMore_1 rfl (by decide) rfl ?_
  refine z_iconst (v := 0) hX dX7_brazenMore_2 (by decide) ?_
  refine z_istore_n (lv' := [(2, .int (0 : Int32)), (1, .int (0 : Int32)), (0, .ref (z_ad V 0))]) hX dX7_brazenMore_3 rfl (by decide) rfl ?_
  refine z_sub [2, 1, 0] rfl ?_
  exact w_X7_brazenMore_4 M V hs hX 200 (0 : Int32) (0 : Int32) σ

abbrev rm_X7_brazenIn : Room := { frames := 4, cells := 0, slots := 0, locals := 94 }
set_option maxHeartbeats 4000000 in
set_option maxRecDepth 100000 in
theorem c_X7_brazenIn (l : Launch) (V : z_V) (hV : z_ok V) (hs : z_isM V) (x1 : Int32) (σ : z_St) : z_CtI l V yX7_brazenIn wsX7_brazenIn rm_X7_brazenIn [.ref (z_ad V 0), .int x1] σ (f_X7_brazenIn x1 σ) := by
  refine z_startI (lv := [(0, .ref (z_ad V 0)), (1, .int x1)]) hV (by decide) rfl (Nat.le_of_ble_eq_true rfl) rfl ?_
  intro M hM hX
  have hX : z_Cx M V cX7_brazenIn 2 (some .int) wsX7_brazenIn RX7 := hX
  unfold f_X7_brazenIn
  refine z_aload_n hX dX7_brazenIn_0 rfl 0 rfl ?_
  refine z_iload_n hX dX7_brazenIn_1 rfl 1 rfl ?_
  refine z_callVV (n := 1) hX (c_X7_weeksGo M.2.1 V hX.2.2.2.2.2 hs x1 σ) gX7_brazenIn_X7_weeksGo rfl (by decide +kernel) ⟨by decide, by decide⟩ rfl rfl (z_mod0 hs) rfl rfl rfl rfl (Nat.le_of_ble_eq_true rfl) dX7_brazenIn_2 (fun r1 _ => ?_)
  refine z_aload_n hX dX7_brazenIn_5 rfl 0 rfl ?_
  refine z_callVI (n := 0) hX (c_X7_brazenMore M.2.1 V hX.2.2.2.2.2 hs r1.2) gX7_brazenIn_X7_brazenMore rfl (by decide +kernel) ⟨by decide, by decide⟩ rfl rfl (z_mod0 hs) rfl rfl rfl rfl (Nat.le_of_ble_eq_true rfl) dX7_brazenIn_6 (fun r2 _ => ?_)
  exact z_iret hX dX7_brazenIn_9

abbrev rm_X7_rule : Room := { frames := 0, cells := 0, slots := 0, locals := 0 }
theorem in_X7_rule_X7 : ∀ w ∈ wsX70, w ∈ wsX7_rule := fun w h => List.mem_cons_of_mem _ (List.mem_append_right _ h)
theorem lk_X7_rule_f99 : Cond.fieldLink RX7 99 (TX7 3).1 (TX7 3).2.1 (TX7 3).2.2.1 ∈ wsX7_rule := by decide +kernel
theorem lk_X7_rule_f102 : Cond.fieldLink RX7 102 (TX7 4).1 (TX7 4).2.1 (TX7 4).2.2.1 ∈ wsX7_rule := by decide +kernel
theorem lk_X7_rule_f105 : Cond.fieldLink RX7 105 (TX7 5).1 (TX7 5).2.1 (TX7 5).2.2.1 ∈ wsX7_rule := by decide +kernel
theorem lk_X7_rule_f7 : Cond.fieldLink RX7 7 (TX7 0).1 (TX7 0).2.1 (TX7 0).2.2.1 ∈ wsX7_rule := by decide +kernel
set_option maxHeartbeats 4000000 in
set_option maxRecDepth 100000 in
theorem c_X7_rule (l : Launch) (V : z_V) (hV : z_ok V) (hs : z_isM V) (x1 : Int32) (σ : z_St) : z_CtI l V yX7_rule wsX7_rule rm_X7_rule [.ref (z_ad V 0), .int x1] σ (f_X7_rule x1 σ) := by
  refine z_startI (lv := [(0, .ref (z_ad V 0)), (1, .int x1)]) hV (by decide) rfl (Nat.le_of_ble_eq_true rfl) rfl ?_
  intro M hM hX
  have hX : z_Cx M V cX7_rule 2 (some .int) wsX7_rule RX7 := hX
  unfold f_X7_rule
  refine z_iload_n hX dX7_rule_0 rfl 1 rfl ?_
  refine z_case (fun h1 => ?_) (fun h1 => ?_)
  · refine z_tabIn (tgt := 44) hX dX7_rule_1 (0 : Int32) h1 (by decide) (by decide) rfl (by decide) ?_
    refine z_aload_n hX dX7_rule_44 rfl 0 rfl ?_
    refine z_getI (k := 3) hX (z_mod0 hs) rfl rfl in_X7_rule_X7 (by decide) lk_X7_rule_f99 dX7_rule_45 ?_
    exact z_iret hX dX7_rule_48
  · skip
    refine z_case (fun h2 => ?_) (fun h2 => ?_)
    · refine z_tabIn (tgt := 49) hX dX7_rule_1 (1 : Int32) h2 (by decide) (by decide) rfl (by decide) ?_
      refine z_aload_n hX dX7_rule_49 rfl 0 rfl ?_
      refine z_getI (k := 4) hX (z_mod0 hs) rfl rfl in_X7_rule_X7 (by decide) lk_X7_rule_f102 dX7_rule_50 ?_
      exact z_iret hX dX7_rule_53
    · skip
      refine z_case (fun h3 => ?_) (fun h3 => ?_)
      · refine z_tabIn (tgt := 54) hX dX7_rule_1 (2 : Int32) h3 (by decide) (by decide) rfl (by decide) ?_
        refine z_aload_n hX dX7_rule_54 rfl 0 rfl ?_
        refine z_getI (k := 5) hX (z_mod0 hs) rfl rfl in_X7_rule_X7 (by decide) lk_X7_rule_f105 dX7_rule_55 ?_
        exact z_iret hX dX7_rule_58
      · skip
        refine z_case (fun h4 => ?_) (fun h4 => ?_)
        · refine z_tabIn (tgt := 59) hX dX7_rule_1 (3 : Int32) h4 (by decide) (by decide) rfl (by decide) ?_
          refine z_aload_n hX dX7_rule_59 rfl 0 rfl ?_
          refine z_getR (k := 0) hX (z_mod0 hs) rfl rfl in_X7_rule_X7 (by decide) lk_X7_rule_f7 dX7_rule_60 ?_
          refine z_bipush (v := 23) hX dX7_rule_63 (by decide) ?_
          refine z_ialdc (j := 23) hX (z_mod1 hs) (by decide) dX7_rule_65 ?_
          exact z_iret hX dX7_rule_66
        · skip
          refine z_case (fun h5 => ?_) (fun h5 => ?_)
          · refine z_tabIn (tgt := 67) hX dX7_rule_1 (4 : Int32) h5 (by decide) (by decide) rfl (by decide) ?_
            refine z_aload_n hX dX7_rule_67 rfl 0 rfl ?_
            refine z_getR (k := 0) hX (z_mod0 hs) rfl rfl in_X7_rule_X7 (by decide) lk_X7_rule_f7 dX7_rule_68 ?_
            refine z_bipush (v := 24) hX dX7_rule_71 (by decide) ?_
            refine z_ialdc (j := 24) hX (z_mod1 hs) (by decide) dX7_rule_73 ?_
            exact z_iret hX dX7_rule_74
          · skip
            refine z_case (fun h6 => ?_) (fun h6 => ?_)
            · refine z_tabIn (tgt := 75) hX dX7_rule_1 (5 : Int32) h6 (by decide) (by decide) rfl (by decide) ?_
              refine z_aload_n hX dX7_rule_75 rfl 0 rfl ?_
              refine z_getR (k := 0) hX (z_mod0 hs) rfl rfl in_X7_rule_X7 (by decide) lk_X7_rule_f7 dX7_rule_76 ?_
              refine z_bipush (v := 25) hX dX7_rule_79 (by decide) ?_
              refine z_ialdc (j := 25) hX (z_mod1 hs) (by decide) dX7_rule_81 ?_
              exact z_iret hX dX7_rule_82
            · skip
              refine z_case (fun h7 => ?_) (fun h7 => ?_)
              · refine z_tabIn (tgt := 83) hX dX7_rule_1 (6 : Int32) h7 (by decide) (by decide) rfl (by decide) ?_
                refine z_aload_n hX dX7_rule_83 rfl 0 rfl ?_
                refine z_getR (k := 0) hX (z_mod0 hs) rfl rfl in_X7_rule_X7 (by decide) lk_X7_rule_f7 dX7_rule_84 ?_
                refine z_bipush (v := 22) hX dX7_rule_87 (by decide) ?_
                refine z_ialdc (j := 22) hX (z_mod1 hs) (by decide) dX7_rule_89 ?_
                exact z_iret hX dX7_rule_90
              · skip
                refine z_tabOut (tgt := 91) hX dX7_rule_1 (by have qh1 := lv_neT (a := 0) h1 (by decide); have qh2 := lv_neT (a := 1) h2 (by decide); have qh3 := lv_neT (a := 2) h3 (by decide); have qh4 := lv_neT (a := 3) h4 (by decide); have qh5 := lv_neT (a := 4) h5 (by decide); have qh6 := lv_neT (a := 5) h6 (by decide); have qh7 := lv_neT (a := 6) h7 (by decide); omega) (by decide) ?_
                refine z_iconst (v := -1) hX dX7_rule_91 (by decide) ?_
                exact z_iret hX dX7_rule_92

abbrev rm_X7_one : Room := { frames := 2, cells := 0, slots := 0, locals := 46 }
theorem in_X7_one_X7 : ∀ w ∈ wsX70, w ∈ wsX7_one := fun w h => List.mem_cons_of_mem _ (List.mem_append_right _ h)
theorem lk_X7_one_c173 : Cond.constantLong RX7 173 3 ∈ wsX7_one := by decide +kernel
theorem lk_X7_one_f7 : Cond.fieldLink RX7 7 (TX7 0).1 (TX7 0).2.1 (TX7 0).2.2.1 ∈ wsX7_one := by decide +kernel
set_option maxHeartbeats 4000000 in
set_option maxRecDepth 100000 in
theorem c_X7_one (l : Launch) (V : z_V) (hV : z_ok V) (hs : z_isM V) (x1 : Int32) (x2 : Int32) (σ : z_St) : z_CtI l V yX7_one wsX7_one rm_X7_one [.ref (z_ad V 0), .int x1, .int x2] σ (f_X7_one x1 x2 σ) := by
  refine z_startI (lv := [(0, .ref (z_ad V 0)), (1, .int x1), (2, .int x2)]) hV (by decide) rfl (Nat.le_of_ble_eq_true rfl) rfl ?_
  intro M hM hX
  have hX : z_Cx M V cX7_one 3 (some .int) wsX7_one RX7 := hX
  unfold f_X7_one
  refine z_aload_n hX dX7_one_0 rfl 0 rfl ?_
  refine z_iload_n hX dX7_one_1 rfl 1 rfl ?_
  refine z_callVI (n := 1) hX (c_X7_isOne M.2.1 V hX.2.2.2.2.2 hs x1 σ) gX7_one_X7_isOne rfl (by decide +kernel) ⟨by decide, by decide⟩ rfl rfl (z_mod0 hs) rfl rfl rfl rfl (Nat.le_of_ble_eq_true rfl) dX7_one_2 (fun r1 _ => ?_)
  refine z_if_eq (tgt := 33) hX dX7_one_5 (by decide) ?_ ?_
  · refine z_iconst (v := -1) hX dX7_one_33 (by decide) ?_
    exact z_iret hX dX7_one_34
  · refine z_iload_n hX dX7_one_8 rfl 2 rfl ?_
    refine z_i2l hX dX7_one_9 ?_
    refine z_lconst (v := 0) hX dX7_one_10 (by decide) ?_
    refine z_ldc2 (v := 3) hX lk_X7_one_c173 dX7_one_11 ?_
    refine z_callSI (n := 3) hX (c_X7_in M.2.1 V hX.2.2.2.2.2 hs x2.toInt64 (0 : Int64) (3 : Int64) r1.2) gX7_one_X7_in rfl (by decide +kernel) ⟨by decide, by decide⟩ rfl rfl rfl rfl (Nat.le_of_ble_eq_true rfl) dX7_one_14 (fun r2 _ => ?_)
    refine z_if_eq (tgt := 33) hX dX7_one_17 (by decide) ?_ ?_
    · refine z_iconst (v := -1) hX dX7_one_33 (by decide) ?_
      exact z_iret hX dX7_one_34
    · refine z_aload_n hX dX7_one_20 rfl 0 rfl ?_
      refine z_getR (k := 0) hX (z_mod0 hs) rfl rfl in_X7_one_X7 (by decide) lk_X7_one_f7 dX7_one_21 ?_
      refine z_iconst (v := 4) hX dX7_one_24 (by decide) ?_
      refine z_iload_n hX dX7_one_25 rfl 1 rfl ?_
      refine z_imul hX dX7_one_26 ?_
      refine z_iload_n hX dX7_one_27 rfl 2 rfl ?_
      refine z_iadd hX dX7_one_28 ?_
      refine z_iald hX (z_mod1 hs) dX7_one_29 ?_
      refine z_goto (tgt := 34) hX dX7_one_30 (by decide) ?_
      exact z_iret hX dX7_one_34

abbrev rm_X7_trip : Room := { frames := 2, cells := 0, slots := 0, locals := 46 }
theorem in_X7_trip_X7 : ∀ w ∈ wsX70, w ∈ wsX7_trip := fun w h => List.mem_cons_of_mem _ (List.mem_append_right _ h)
theorem lk_X7_trip_f20 : Cond.fieldLink RX7 20 (TX7 6).1 (TX7 6).2.1 (TX7 6).2.2.1 ∈ wsX7_trip := by decide +kernel
theorem lk_X7_trip_f23 : Cond.fieldLink RX7 23 (TX7 7).1 (TX7 7).2.1 (TX7 7).2.2.1 ∈ wsX7_trip := by decide +kernel
theorem lk_X7_trip_f26 : Cond.fieldLink RX7 26 (TX7 8).1 (TX7 8).2.1 (TX7 8).2.2.1 ∈ wsX7_trip := by decide +kernel
theorem lk_X7_trip_f7 : Cond.fieldLink RX7 7 (TX7 0).1 (TX7 0).2.1 (TX7 0).2.2.1 ∈ wsX7_trip := by decide +kernel
set_option maxHeartbeats 4000000 in
set_option maxRecDepth 100000 in
theorem c_X7_trip (l : Launch) (V : z_V) (hV : z_ok V) (hs : z_isM V) (x1 : Int32) (x2 : Int32) (σ : z_St) : z_CtI l V yX7_trip wsX7_trip rm_X7_trip [.ref (z_ad V 0), .int x1, .int x2] σ (f_X7_trip x1 x2 σ) := by
  refine z_startI (lv := [(0, .ref (z_ad V 0)), (1, .int x1), (2, .int x2)]) hV (by decide) rfl (Nat.le_of_ble_eq_true rfl) rfl ?_
  intro M hM hX
  have hX : z_Cx M V cX7_trip 3 (some .int) wsX7_trip RX7 := hX
  unfold f_X7_trip
  refine z_aload_n hX dX7_trip_0 rfl 0 rfl ?_
  refine z_iload_n hX dX7_trip_1 rfl 1 rfl ?_
  refine z_callVI (n := 1) hX (c_X7_isTrip M.2.1 V hX.2.2.2.2.2 hs x1 σ) gX7_trip_X7_isTrip rfl (by decide +kernel) ⟨by decide, by decide⟩ rfl rfl (z_mod0 hs) rfl rfl rfl rfl (Nat.le_of_ble_eq_true rfl) dX7_trip_2 (fun r1 _ => ?_)
  refine z_if_ne (tgt := 10) hX dX7_trip_5 (by decide) ?_ ?_
  · refine z_aload_n hX dX7_trip_10 rfl 0 rfl ?_
    refine z_callVV (n := 0) hX (c_X7_starts M.2.1 V hX.2.2.2.2.2 hs r1.2) gX7_trip_X7_starts rfl (by decide +kernel) ⟨by decide, by decide⟩ rfl rfl (z_mod0 hs) rfl rfl rfl rfl (Nat.le_of_ble_eq_true rfl) dX7_trip_11 (fun r2 _ => ?_)
    refine z_iload_n hX dX7_trip_14 rfl 2 rfl ?_
    refine z_case (fun h3 => ?_) (fun h3 => ?_)
    · refine z_tabIn (tgt := 52) hX dX7_trip_15 (0 : Int32) h3 (by decide) (by decide) rfl (by decide) ?_
      refine z_aload_n hX dX7_trip_52 rfl 0 rfl ?_
      refine z_getR (k := 6) hX (z_mod0 hs) rfl rfl in_X7_trip_X7 (by decide) lk_X7_trip_f20 dX7_trip_53 ?_
      refine z_iload_n hX dX7_trip_56 rfl 1 rfl ?_
      refine z_iald hX (z_mod4 hs) dX7_trip_57 ?_
      exact z_iret hX dX7_trip_58
    · skip
      refine z_case (fun h4 => ?_) (fun h4 => ?_)
      · refine z_tabIn (tgt := 59) hX dX7_trip_15 (1 : Int32) h4 (by decide) (by decide) rfl (by decide) ?_
        refine z_aload_n hX dX7_trip_59 rfl 0 rfl ?_
        refine z_getR (k := 7) hX (z_mod0 hs) rfl rfl in_X7_trip_X7 (by decide) lk_X7_trip_f23 dX7_trip_60 ?_
        refine z_iload_n hX dX7_trip_63 rfl 1 rfl ?_
        refine z_iald hX (z_mod5 hs) dX7_trip_64 ?_
        exact z_iret hX dX7_trip_65
      · skip
        refine z_case (fun h5 => ?_) (fun h5 => ?_)
        · refine z_tabIn (tgt := 66) hX dX7_trip_15 (2 : Int32) h5 (by decide) (by decide) rfl (by decide) ?_
          refine z_aload_n hX dX7_trip_66 rfl 0 rfl ?_
          refine z_getR (k := 8) hX (z_mod0 hs) rfl rfl in_X7_trip_X7 (by decide) lk_X7_trip_f26 dX7_trip_67 ?_
          refine z_iload_n hX dX7_trip_70 rfl 1 rfl ?_
          refine z_iald hX (z_mod6 hs) dX7_trip_71 ?_
          exact z_iret hX dX7_trip_72
        · skip
          refine z_case (fun h6 => ?_) (fun h6 => ?_)
          · refine z_tabIn (tgt := 73) hX dX7_trip_15 (3 : Int32) h6 (by decide) (by decide) rfl (by decide) ?_
            refine z_aload_n hX dX7_trip_73 rfl 0 rfl ?_
            refine z_getR (k := 0) hX (z_mod0 hs) rfl rfl in_X7_trip_X7 (by decide) lk_X7_trip_f7 dX7_trip_74 ?_
            refine z_bipush (v := 16) hX dX7_trip_77 (by decide) ?_
            refine z_iload_n hX dX7_trip_79 rfl 1 rfl ?_
            refine z_iadd hX dX7_trip_80 ?_
            refine z_iald hX (z_mod1 hs) dX7_trip_81 ?_
            exact z_iret hX dX7_trip_82
          · skip
            refine z_case (fun h7 => ?_) (fun h7 => ?_)
            · refine z_tabIn (tgt := 83) hX dX7_trip_15 (4 : Int32) h7 (by decide) (by decide) rfl (by decide) ?_
              refine z_aload_n hX dX7_trip_83 rfl 0 rfl ?_
              refine z_getR (k := 0) hX (z_mod0 hs) rfl rfl in_X7_trip_X7 (by decide) lk_X7_trip_f7 dX7_trip_84 ?_
              refine z_bipush (v := 22) hX dX7_trip_87 (by decide) ?_
              refine z_ialdc (j := 22) hX (z_mod1 hs) (by decide) dX7_trip_89 ?_
              refine z_iload_n hX dX7_trip_90 rfl 1 rfl ?_
              refine z_ishr hX dX7_trip_91 ?_
              refine z_iconst (v := 1) hX dX7_trip_92 (by decide) ?_
              refine z_iand hX dX7_trip_93 ?_
              exact z_iret hX dX7_trip_94
            · skip
              refine z_case (fun h8 => ?_) (fun h8 => ?_)
              · refine z_tabIn (tgt := 95) hX dX7_trip_15 (5 : Int32) h8 (by decide) (by decide) rfl (by decide) ?_
                refine z_aload_n hX dX7_trip_95 rfl 0 rfl ?_
                refine z_iload_n hX dX7_trip_96 rfl 1 rfl ?_
                refine z_callVI (n := 1) hX (c_X7_blushOf M.2.1 V hX.2.2.2.2.2 hs x1 r2.2) gX7_trip_X7_blushOf rfl (by decide +kernel) ⟨by decide, by decide⟩ rfl rfl (z_mod0 hs) rfl rfl rfl rfl (Nat.le_of_ble_eq_true rfl) dX7_trip_97 (fun r9 _ => ?_)
                exact z_iret hX dX7_trip_100
              · skip
                refine z_tabOut (tgt := 101) hX dX7_trip_15 (by have qh3 := lv_neT (a := 0) h3 (by decide); have qh4 := lv_neT (a := 1) h4 (by decide); have qh5 := lv_neT (a := 2) h5 (by decide); have qh6 := lv_neT (a := 3) h6 (by decide); have qh7 := lv_neT (a := 4) h7 (by decide); have qh8 := lv_neT (a := 5) h8 (by decide); omega) (by decide) ?_
                refine z_iconst (v := -1) hX dX7_trip_101 (by decide) ?_
                exact z_iret hX dX7_trip_102
  · refine z_iconst (v := -1) hX dX7_trip_8 (by decide) ?_
    exact z_iret hX dX7_trip_9

abbrev rm_X7_asked : Room := { frames := 1, cells := 0, slots := 0, locals := 25 }
theorem in_X7_asked_X7 : ∀ w ∈ wsX70, w ∈ wsX7_asked := fun w h => List.mem_cons_of_mem _ (List.mem_append_right _ h)
theorem lk_X7_asked_f105 : Cond.fieldLink RX7 105 (TX7 5).1 (TX7 5).2.1 (TX7 5).2.2.1 ∈ wsX7_asked := by decide +kernel
theorem lk_X7_asked_c220 : Cond.constantLong RX7 220 2 ∈ wsX7_asked := by decide +kernel
theorem lk_X7_asked_f35 : Cond.fieldLink RX7 35 (TX7 11).1 (TX7 11).2.1 (TX7 11).2.2.1 ∈ wsX7_asked := by decide +kernel
theorem lk_X7_asked_f32 : Cond.fieldLink RX7 32 (TX7 10).1 (TX7 10).2.1 (TX7 10).2.2.1 ∈ wsX7_asked := by decide +kernel
theorem lk_X7_asked_f29 : Cond.fieldLink RX7 29 (TX7 9).1 (TX7 9).2.1 (TX7 9).2.2.1 ∈ wsX7_asked := by decide +kernel
set_option maxHeartbeats 4000000 in
set_option maxRecDepth 100000 in
theorem c_X7_asked (l : Launch) (V : z_V) (hV : z_ok V) (hs : z_isM V) (x1 : Int32) (x2 : Int32) (σ : z_St) : z_CtI l V yX7_asked wsX7_asked rm_X7_asked [.ref (z_ad V 0), .int x1, .int x2] σ (f_X7_asked x1 x2 σ) := by
  refine z_startI (lv := [(0, .ref (z_ad V 0)), (1, .int x1), (2, .int x2)]) hV (by decide) rfl (Nat.le_of_ble_eq_true rfl) rfl ?_
  intro M hM hX
  have hX : z_Cx M V cX7_asked 3 (some .int) wsX7_asked RX7 := hX
  unfold f_X7_asked
  refine z_iload_n hX dX7_asked_0 rfl 1 rfl ?_
  refine z_i2l hX dX7_asked_1 ?_
  refine z_lconst (v := 0) hX dX7_asked_2 (by decide) ?_
  refine z_aload_n hX dX7_asked_3 rfl 0 rfl ?_
  refine z_getI (k := 5) hX (z_mod0 hs) rfl rfl in_X7_asked_X7 (by decide) lk_X7_asked_f105 dX7_asked_4 ?_
  refine z_iconst (v := 1) hX dX7_asked_7 (by decide) ?_
  refine z_isub hX dX7_asked_8 ?_
  refine z_i2l hX dX7_asked_9 ?_
  refine z_callSI (n := 3) hX (c_X7_in M.2.1 V hX.2.2.2.2.2 hs x1.toInt64 (0 : Int64) ((σ 0 5) - (1 : Int32)).toInt64 σ) gX7_asked_X7_in rfl (by decide +kernel) ⟨by decide, by decide⟩ rfl rfl rfl rfl (Nat.le_of_ble_eq_true rfl) dX7_asked_10 (fun r1 _ => ?_)
  refine z_if_eq (tgt := 28) hX dX7_asked_13 (by decide) ?_ ?_
  · refine z_iconst (v := -1) hX dX7_asked_28 (by decide) ?_
    exact z_iret hX dX7_asked_29
  · refine z_iload_n hX dX7_asked_16 rfl 2 rfl ?_
    refine z_i2l hX dX7_asked_17 ?_
    refine z_lconst (v := 0) hX dX7_asked_18 (by decide) ?_
    refine z_ldc2 (v := 2) hX lk_X7_asked_c220 dX7_asked_19 ?_
    refine z_callSI (n := 3) hX (c_X7_in M.2.1 V hX.2.2.2.2.2 hs x2.toInt64 (0 : Int64) (2 : Int64) r1.2) gX7_asked_X7_in rfl (by decide +kernel) ⟨by decide, by decide⟩ rfl rfl rfl rfl (Nat.le_of_ble_eq_true rfl) dX7_asked_22 (fun r2 _ => ?_)
    refine z_if_ne (tgt := 30) hX dX7_asked_25 (by decide) ?_ ?_
    · refine z_iload_n hX dX7_asked_30 rfl 2 rfl ?_
      refine z_if_ne (tgt := 43) hX dX7_asked_31 (by decide) ?_ ?_
      · refine z_iload_n hX dX7_asked_43 rfl 2 rfl ?_
        refine z_iconst (v := 1) hX dX7_asked_44 (by decide) ?_
        refine z_icmp_ne (tgt := 57) hX dX7_asked_45 (by decide) ?_ ?_
        · refine z_aload_n hX dX7_asked_57 rfl 0 rfl ?_
          refine z_getR (k := 11) hX (z_mod0 hs) rfl rfl in_X7_asked_X7 (by decide) lk_X7_asked_f35 dX7_asked_58 ?_
          refine z_iload_n hX dX7_asked_61 rfl 1 rfl ?_
          refine z_iald hX (z_mod9 hs) dX7_asked_62 ?_
          exact z_iret hX dX7_asked_63
        · refine z_aload_n hX dX7_asked_48 rfl 0 rfl ?_
          refine z_getR (k := 10) hX (z_mod0 hs) rfl rfl in_X7_asked_X7 (by decide) lk_X7_asked_f32 dX7_asked_49 ?_
          refine z_iload_n hX dX7_asked_52 rfl 1 rfl ?_
          refine z_iald hX (z_mod8 hs) dX7_asked_53 ?_
          refine z_goto (tgt := 63) hX dX7_asked_54 (by decide) ?_
          exact z_iret hX dX7_asked_63
      · refine z_aload_n hX dX7_asked_34 rfl 0 rfl ?_
        refine z_getR (k := 9) hX (z_mod0 hs) rfl rfl in_X7_asked_X7 (by decide) lk_X7_asked_f29 dX7_asked_35 ?_
        refine z_iload_n hX dX7_asked_38 rfl 1 rfl ?_
        refine z_iald hX (z_mod7 hs) dX7_asked_39 ?_
        refine z_goto (tgt := 63) hX dX7_asked_40 (by decide) ?_
        exact z_iret hX dX7_asked_63
    · refine z_iconst (v := -1) hX dX7_asked_28 (by decide) ?_
      exact z_iret hX dX7_asked_29

abbrev rm_X7_becomes : Room := { frames := 0, cells := 0, slots := 0, locals := 0 }
theorem in_X7_becomes_X7 : ∀ w ∈ wsX70, w ∈ wsX7_becomes := fun w h => List.mem_cons_of_mem _ (List.mem_append_right _ h)
theorem lk_X7_becomes_f7 : Cond.fieldLink RX7 7 (TX7 0).1 (TX7 0).2.1 (TX7 0).2.2.1 ∈ wsX7_becomes := by decide +kernel
set_option maxHeartbeats 4000000 in
set_option maxRecDepth 100000 in
theorem c_X7_becomes (l : Launch) (V : z_V) (hV : z_ok V) (hs : z_isM V) (x1 : Int32) (x2 : Int32) (σ : z_St) : z_CtI l V yX7_becomes wsX7_becomes rm_X7_becomes [.ref (z_ad V 0), .int x1, .int x2] σ (f_X7_becomes x1 x2 σ) := by
  refine z_startI (lv := [(0, .ref (z_ad V 0)), (1, .int x1), (2, .int x2)]) hV (by decide) rfl (Nat.le_of_ble_eq_true rfl) rfl ?_
  intro M hM hX
  have hX : z_Cx M V cX7_becomes 4 (some .int) wsX7_becomes RX7 := hX
  unfold f_X7_becomes
  refine z_aload_n hX dX7_becomes_0 rfl 0 rfl ?_
  refine z_getR (k := 0) hX (z_mod0 hs) rfl rfl in_X7_becomes_X7 (by decide) lk_X7_becomes_f7 dX7_becomes_1 ?_
  refine z_iload_n hX dX7_becomes_4 rfl 1 rfl ?_
  refine z_iald hX (z_mod1 hs) dX7_becomes_5 ?_
  refine z_istore_n (lv' := [(3, .int (σ 1 x1.toNatClampNeg)), (0, .ref (z_ad V 0)), (1, .int x1), (2, .int x2)]) hX dX7_becomes_6 rfl (by decide) rfl ?_
  refine z_aload_n hX dX7_becomes_7 rfl 1 rfl ?_
  refine z_getR (k := 0) hX (z_mod0 hs) rfl rfl in_X7_becomes_X7 (by decide) lk_X7_becomes_f7 dX7_becomes_8 ?_
  refine z_iload_n hX dX7_becomes_11 rfl 2 rfl ?_
  refine z_iload_n hX dX7_becomes_12 rfl 3 rfl ?_
  refine z_iast hX (z_mod1 hs) dX7_becomes_13 (z_bs fun s1 => ?_)
  refine z_iload_n hX dX7_becomes_14 rfl 0 rfl ?_
  exact z_iret hX dX7_becomes_15

abbrev rm_X7_deposit : Room := { frames := 2, cells := 0, slots := 0, locals := 46 }
theorem in_X7_deposit_X7 : ∀ w ∈ wsX70, w ∈ wsX7_deposit := fun w h => List.mem_cons_of_mem _ (List.mem_append_right _ h)
theorem lk_X7_deposit_f23 : Cond.fieldLink RX7 23 (TX7 7).1 (TX7 7).2.1 (TX7 7).2.2.1 ∈ wsX7_deposit := by decide +kernel
theorem lk_X7_deposit_f7 : Cond.fieldLink RX7 7 (TX7 0).1 (TX7 0).2.1 (TX7 0).2.2.1 ∈ wsX7_deposit := by decide +kernel
set_option maxHeartbeats 4000000 in
set_option maxRecDepth 100000 in
theorem c_X7_deposit (l : Launch) (V : z_V) (hV : z_ok V) (hs : z_isM V) (x1 : Int32) (x2 : Int32) (σ : z_St) : z_CtI l V yX7_deposit wsX7_deposit rm_X7_deposit [.ref (z_ad V 0), .int x1, .int x2] σ (f_X7_deposit x1 x2 σ) := by
  refine z_startI (lv := [(0, .ref (z_ad V 0)), (1, .int x1), (2, .int x2)]) hV (by decide) rfl (Nat.le_of_ble_eq_true rfl) rfl ?_
  intro M hM hX
  have hX : z_Cx M V cX7_deposit 4 (some .int) wsX7_deposit RX7 := hX
  unfold f_X7_deposit
  refine z_aload_n hX dX7_deposit_0 rfl 0 rfl ?_
  refine z_iload_n hX dX7_deposit_1 rfl 1 rfl ?_
  refine z_callVI (n := 1) hX (c_X7_isTrip M.2.1 V hX.2.2.2.2.2 hs x1 σ) gX7_deposit_X7_isTrip rfl (by decide +kernel) ⟨by decide, by decide⟩ rfl rfl (z_mod0 hs) rfl rfl rfl rfl (Nat.le_of_ble_eq_true rfl) dX7_deposit_2 (fun r1 _ => ?_)
  refine z_if_ne (tgt := 10) hX dX7_deposit_5 (by decide) ?_ ?_
  · refine z_aload_n hX dX7_deposit_10 rfl 0 rfl ?_
    refine z_getR (k := 7) hX (z_mod0 hs) rfl rfl in_X7_deposit_X7 (by decide) lk_X7_deposit_f23 dX7_deposit_11 ?_
    refine z_iload_n hX dX7_deposit_14 rfl 1 rfl ?_
    refine z_iald hX (z_mod5 hs) dX7_deposit_15 ?_
    refine z_aload_n hX dX7_deposit_16 rfl 0 rfl ?_
    refine z_getR (k := 0) hX (z_mod0 hs) rfl rfl in_X7_deposit_X7 (by decide) lk_X7_deposit_f7 dX7_deposit_17 ?_
    refine z_bipush (v := 25) hX dX7_deposit_20 (by decide) ?_
    refine z_ialdc (j := 25) hX (z_mod1 hs) (by decide) dX7_deposit_22 ?_
    refine z_icmp_ge (tgt := 29) hX dX7_deposit_23 (by decide) ?_ ?_
    · refine z_aload_n hX dX7_deposit_29 rfl 0 rfl ?_
      refine z_getR (k := 0) hX (z_mod0 hs) rfl rfl in_X7_deposit_X7 (by decide) lk_X7_deposit_f7 dX7_deposit_30 ?_
      refine z_bipush (v := 22) hX dX7_deposit_33 (by decide) ?_
      refine z_ialdc (j := 22) hX (z_mod1 hs) (by decide) dX7_deposit_35 ?_
      refine z_iload_n hX dX7_deposit_36 rfl 1 rfl ?_
      refine z_ishr hX dX7_deposit_37 ?_
      refine z_iconst (v := 1) hX dX7_deposit_38 (by decide) ?_
      refine z_iand hX dX7_deposit_39 ?_
      refine z_top (fun v2 => ?_)
      refine z_istore_n (lv' := [(3, .int v2), (0, .ref (z_ad V 0)), (1, .int x1), (2, .int x2)]) hX dX7_deposit_40 rfl (by decide) rfl ?_
      refine z_aload_n hX dX7_deposit_41 rfl 1 rfl ?_
      refine z_getR (k := 0) hX (z_mod0 hs) rfl rfl in_X7_deposit_X7 (by decide) lk_X7_deposit_f7 dX7_deposit_42 ?_
      refine z_bipush (v := 22) hX dX7_deposit_45 (by decide) ?_
      refine z_iload_n hX dX7_deposit_47 rfl 3 rfl ?_
      refine z_if_eq (tgt := 65) hX dX7_deposit_48 (by decide) ?_ ?_
      · refine z_aload_n hX dX7_deposit_65 rfl 1 rfl ?_
        refine z_getR (k := 0) hX (z_mod0 hs) rfl rfl in_X7_deposit_X7 (by decide) lk_X7_deposit_f7 dX7_deposit_66 ?_
        refine z_bipush (v := 22) hX dX7_deposit_69 (by decide) ?_
        refine z_ialdc (j := 22) hX (z_mod1 hs) (by decide) dX7_deposit_71 ?_
        refine z_iconst (v := 1) hX dX7_deposit_72 (by decide) ?_
        refine z_iload_n hX dX7_deposit_73 rfl 2 rfl ?_
        refine z_ishl hX dX7_deposit_74 ?_
        refine z_iconst (v := -1) hX dX7_deposit_75 (by decide) ?_
        refine z_ixor hX dX7_deposit_76 ?_
        refine z_iand hX dX7_deposit_77 ?_
        refine z_iastc (j := 22) hX (z_mod1 hs) (by decide) dX7_deposit_78 (z_bs fun s3 => ?_)
        refine z_iload_n hX dX7_deposit_79 rfl 0 rfl ?_
        exact z_iret hX dX7_deposit_80
      · refine z_aload_n hX dX7_deposit_51 rfl 1 rfl ?_
        refine z_getR (k := 0) hX (z_mod0 hs) rfl rfl in_X7_deposit_X7 (by decide) lk_X7_deposit_f7 dX7_deposit_52 ?_
        refine z_bipush (v := 22) hX dX7_deposit_55 (by decide) ?_
        refine z_ialdc (j := 22) hX (z_mod1 hs) (by decide) dX7_deposit_57 ?_
        refine z_iconst (v := 1) hX dX7_deposit_58 (by decide) ?_
        refine z_iload_n hX dX7_deposit_59 rfl 2 rfl ?_
        refine z_ishl hX dX7_deposit_60 ?_
        refine z_ior hX dX7_deposit_61 ?_
        refine z_goto (tgt := 78) hX dX7_deposit_62 (by decide) ?_
        refine z_iastc (j := 22) hX (z_mod1 hs) (by decide) dX7_deposit_78 (z_bs fun s4 => ?_)
        refine z_iload_n hX dX7_deposit_79 rfl 0 rfl ?_
        exact z_iret hX dX7_deposit_80
    · refine z_bipush (v := -2) hX dX7_deposit_26 (by decide) ?_
      exact z_iret hX dX7_deposit_28
  · refine z_iconst (v := -1) hX dX7_deposit_8 (by decide) ?_
    exact z_iret hX dX7_deposit_9

abbrev rm_X7_give : Room := { frames := 2, cells := 0, slots := 0, locals := 46 }
theorem in_X7_give_X7 : ∀ w ∈ wsX70, w ∈ wsX7_give := fun w h => List.mem_cons_of_mem _ (List.mem_append_right _ h)
theorem lk_X7_give_c222 : Cond.constantLong RX7 222 99 ∈ wsX7_give := by decide +kernel
theorem lk_X7_give_f7 : Cond.fieldLink RX7 7 (TX7 0).1 (TX7 0).2.1 (TX7 0).2.2.1 ∈ wsX7_give := by decide +kernel
set_option maxHeartbeats 4000000 in
set_option maxRecDepth 100000 in
theorem c_X7_give (l : Launch) (V : z_V) (hV : z_ok V) (hs : z_isM V) (x1 : Int32) (x2 : Int32) (x3 : Int32) (σ : z_St) : z_CtI l V yX7_give wsX7_give rm_X7_give [.ref (z_ad V 0), .int x1, .int x2, .int x3] σ (f_X7_give x1 x2 x3 σ) := by
  refine z_startI (lv := [(0, .ref (z_ad V 0)), (1, .int x1), (2, .int x2), (3, .int x3)]) hV (by decide) rfl (Nat.le_of_ble_eq_true rfl) rfl ?_
  intro M hM hX
  have hX : z_Cx M V cX7_give 4 (some .int) wsX7_give RX7 := hX
  unfold f_X7_give
  refine z_aload_n hX dX7_give_0 rfl 0 rfl ?_
  refine z_iload_n hX dX7_give_1 rfl 1 rfl ?_
  refine z_callVI (n := 1) hX (c_X7_isOne M.2.1 V hX.2.2.2.2.2 hs x1 σ) gX7_give_X7_isOne rfl (by decide +kernel) ⟨by decide, by decide⟩ rfl rfl (z_mod0 hs) rfl rfl rfl rfl (Nat.le_of_ble_eq_true rfl) dX7_give_2 (fun r1 _ => ?_)
  refine z_if_eq (tgt := 33) hX dX7_give_5 (by decide) ?_ ?_
  · refine z_iconst (v := -1) hX dX7_give_33 (by decide) ?_
    exact z_iret hX dX7_give_34
  · refine z_aload_n hX dX7_give_8 rfl 0 rfl ?_
    refine z_iload_n hX dX7_give_9 rfl 2 rfl ?_
    refine z_callVI (n := 1) hX (c_X7_isOne M.2.1 V hX.2.2.2.2.2 hs x2 r1.2) gX7_give_X7_isOne rfl (by decide +kernel) ⟨by decide, by decide⟩ rfl rfl (z_mod0 hs) rfl rfl rfl rfl (Nat.le_of_ble_eq_true rfl) dX7_give_10 (fun r2 _ => ?_)
    refine z_if_eq (tgt := 33) hX dX7_give_13 (by decide) ?_ ?_
    · refine z_iconst (v := -1) hX dX7_give_33 (by decide) ?_
      exact z_iret hX dX7_give_34
    · refine z_iload_n hX dX7_give_16 rfl 1 rfl ?_
      refine z_iload_n hX dX7_give_17 rfl 2 rfl ?_
      refine z_icmp_eq (tgt := 33) hX dX7_give_18 (by decide) ?_ ?_
      · refine z_iconst (v := -1) hX dX7_give_33 (by decide) ?_
        exact z_iret hX dX7_give_34
      · refine z_iload_n hX dX7_give_21 rfl 3 rfl ?_
        refine z_i2l hX dX7_give_22 ?_
        refine z_lconst (v := 0) hX dX7_give_23 (by decide) ?_
        refine z_ldc2 (v := 99) hX lk_X7_give_c222 dX7_give_24 ?_
        refine z_callSI (n := 3) hX (c_X7_in M.2.1 V hX.2.2.2.2.2 hs x3.toInt64 (0 : Int64) (99 : Int64) r2.2) gX7_give_X7_in rfl (by decide +kernel) ⟨by decide, by decide⟩ rfl rfl rfl rfl (Nat.le_of_ble_eq_true rfl) dX7_give_27 (fun r3 _ => ?_)
        refine z_if_ne (tgt := 35) hX dX7_give_30 (by decide) ?_ ?_
        · refine z_aload_n hX dX7_give_35 rfl 0 rfl ?_
          refine z_getR (k := 0) hX (z_mod0 hs) rfl rfl in_X7_give_X7 (by decide) lk_X7_give_f7 dX7_give_36 ?_
          refine z_iconst (v := 4) hX dX7_give_39 (by decide) ?_
          refine z_iload_n hX dX7_give_40 rfl 1 rfl ?_
          refine z_imul hX dX7_give_41 ?_
          refine z_iconst (v := 1) hX dX7_give_42 (by decide) ?_
          refine z_iadd hX dX7_give_43 ?_
          refine z_iald hX (z_mod1 hs) dX7_give_44 ?_
          refine z_iload_n hX dX7_give_45 rfl 3 rfl ?_
          refine z_icmp_ge (tgt := 52) hX dX7_give_46 (by decide) ?_ ?_
          · refine z_aload_n hX dX7_give_52 rfl 0 rfl ?_
            refine z_getR (k := 0) hX (z_mod0 hs) rfl rfl in_X7_give_X7 (by decide) lk_X7_give_f7 dX7_give_53 ?_
            refine z_iconst (v := 4) hX dX7_give_56 (by decide) ?_
            refine z_iload_n hX dX7_give_57 rfl 2 rfl ?_
            refine z_imul hX dX7_give_58 ?_
            refine z_iconst (v := 1) hX dX7_give_59 (by decide) ?_
            refine z_iadd hX dX7_give_60 ?_
            refine z_iald hX (z_mod1 hs) dX7_give_61 ?_
            refine z_iload_n hX dX7_give_62 rfl 3 rfl ?_
            refine z_iadd hX dX7_give_63 ?_
            refine z_sipush (v := 999) hX dX7_give_64 (by decide) ?_
            refine z_icmp_le (tgt := 73) hX dX7_give_67 (by decide) ?_ ?_
            · refine z_aload_n hX dX7_give_73 rfl 0 rfl ?_
              refine z_getR (k := 0) hX (z_mod0 hs) rfl rfl in_X7_give_X7 (by decide) lk_X7_give_f7 dX7_give_74 ?_
              refine z_iconst (v := 4) hX dX7_give_77 (by decide) ?_
              refine z_iload_n hX dX7_give_78 rfl 1 rfl ?_
              refine z_imul hX dX7_give_79 ?_
              refine z_iconst (v := 1) hX dX7_give_80 (by decide) ?_
              refine z_iadd hX dX7_give_81 ?_
              refine z_dup2 hX dX7_give_82 rfl rfl ?_
              refine z_iald hX (z_mod1 hs) dX7_give_83 ?_
              refine z_iload_n hX dX7_give_84 rfl 3 rfl ?_
              refine z_isub hX dX7_give_85 ?_
              refine z_iast hX (z_mod1 hs) dX7_give_86 (z_bs fun s4 => ?_)
              refine z_aload_n hX dX7_give_87 rfl 0 rfl ?_
              refine z_getR (k := 0) hX (z_mod0 hs) rfl rfl in_X7_give_X7 (by decide) lk_X7_give_f7 dX7_give_88 ?_
              refine z_iconst (v := 4) hX dX7_give_91 (by decide) ?_
              refine z_iload_n hX dX7_give_92 rfl 2 rfl ?_
              refine z_imul hX dX7_give_93 ?_
              refine z_iconst (v := 1) hX dX7_give_94 (by decide) ?_
              refine z_iadd hX dX7_give_95 ?_
              refine z_dup2 hX dX7_give_96 rfl rfl ?_
              refine z_iald hX (z_mod1 hs) dX7_give_97 ?_
              refine z_iload_n hX dX7_give_98 rfl 3 rfl ?_
              refine z_iadd hX dX7_give_99 ?_
              refine z_iast hX (z_mod1 hs) dX7_give_100 (z_bs fun s5 => ?_)
              refine z_aload_n hX dX7_give_101 rfl 0 rfl ?_
              refine z_getR (k := 0) hX (z_mod0 hs) rfl rfl in_X7_give_X7 (by decide) lk_X7_give_f7 dX7_give_102 ?_
              refine z_iconst (v := 4) hX dX7_give_105 (by decide) ?_
              refine z_iload_n hX dX7_give_106 rfl 1 rfl ?_
              refine z_imul hX dX7_give_107 ?_
              refine z_iconst (v := 1) hX dX7_give_108 (by decide) ?_
              refine z_iadd hX dX7_give_109 ?_
              refine z_iald hX (z_mod1 hs) dX7_give_110 ?_
              exact z_iret hX dX7_give_111
            · refine z_bipush (v := -3) hX dX7_give_70 (by decide) ?_
              exact z_iret hX dX7_give_72
          · refine z_bipush (v := -2) hX dX7_give_49 (by decide) ?_
            exact z_iret hX dX7_give_51
        · refine z_iconst (v := -1) hX dX7_give_33 (by decide) ?_
          exact z_iret hX dX7_give_34

abbrev rm_X7_draw : Room := { frames := 2, cells := 0, slots := 0, locals := 46 }
theorem in_X7_draw_X7 : ∀ w ∈ wsX70, w ∈ wsX7_draw := fun w h => List.mem_cons_of_mem _ (List.mem_append_right _ h)
theorem lk_X7_draw_c222 : Cond.constantLong RX7 222 99 ∈ wsX7_draw := by decide +kernel
theorem lk_X7_draw_f7 : Cond.fieldLink RX7 7 (TX7 0).1 (TX7 0).2.1 (TX7 0).2.2.1 ∈ wsX7_draw := by decide +kernel
set_option maxHeartbeats 4000000 in
set_option maxRecDepth 100000 in
theorem c_X7_draw (l : Launch) (V : z_V) (hV : z_ok V) (hs : z_isM V) (x1 : Int32) (x2 : Int32) (σ : z_St) : z_CtI l V yX7_draw wsX7_draw rm_X7_draw [.ref (z_ad V 0), .int x1, .int x2] σ (f_X7_draw x1 x2 σ) := by
  refine z_startI (lv := [(0, .ref (z_ad V 0)), (1, .int x1), (2, .int x2)]) hV (by decide) rfl (Nat.le_of_ble_eq_true rfl) rfl ?_
  intro M hM hX
  have hX : z_Cx M V cX7_draw 3 (some .int) wsX7_draw RX7 := hX
  unfold f_X7_draw
  refine z_aload_n hX dX7_draw_0 rfl 0 rfl ?_
  refine z_iload_n hX dX7_draw_1 rfl 1 rfl ?_
  refine z_callVI (n := 1) hX (c_X7_isOne M.2.1 V hX.2.2.2.2.2 hs x1 σ) gX7_draw_X7_isOne rfl (by decide +kernel) ⟨by decide, by decide⟩ rfl rfl (z_mod0 hs) rfl rfl rfl rfl (Nat.le_of_ble_eq_true rfl) dX7_draw_2 (fun r1 _ => ?_)
  refine z_if_eq (tgt := 20) hX dX7_draw_5 (by decide) ?_ ?_
  · refine z_iconst (v := -1) hX dX7_draw_20 (by decide) ?_
    exact z_iret hX dX7_draw_21
  · refine z_iload_n hX dX7_draw_8 rfl 2 rfl ?_
    refine z_i2l hX dX7_draw_9 ?_
    refine z_lconst (v := 0) hX dX7_draw_10 (by decide) ?_
    refine z_ldc2 (v := 99) hX lk_X7_draw_c222 dX7_draw_11 ?_
    refine z_callSI (n := 3) hX (c_X7_in M.2.1 V hX.2.2.2.2.2 hs x2.toInt64 (0 : Int64) (99 : Int64) r1.2) gX7_draw_X7_in rfl (by decide +kernel) ⟨by decide, by decide⟩ rfl rfl rfl rfl (Nat.le_of_ble_eq_true rfl) dX7_draw_14 (fun r2 _ => ?_)
    refine z_if_ne (tgt := 22) hX dX7_draw_17 (by decide) ?_ ?_
    · refine z_aload_n hX dX7_draw_22 rfl 0 rfl ?_
      refine z_getR (k := 0) hX (z_mod0 hs) rfl rfl in_X7_draw_X7 (by decide) lk_X7_draw_f7 dX7_draw_23 ?_
      refine z_iconst (v := 4) hX dX7_draw_26 (by decide) ?_
      refine z_iload_n hX dX7_draw_27 rfl 1 rfl ?_
      refine z_imul hX dX7_draw_28 ?_
      refine z_iconst (v := 2) hX dX7_draw_29 (by decide) ?_
      refine z_iadd hX dX7_draw_30 ?_
      refine z_iald hX (z_mod1 hs) dX7_draw_31 ?_
      refine z_iload_n hX dX7_draw_32 rfl 2 rfl ?_
      refine z_icmp_lt (tgt := 47) hX dX7_draw_33 (by decide) ?_ ?_
      · refine z_bipush (v := -2) hX dX7_draw_47 (by decide) ?_
        exact z_iret hX dX7_draw_49
      · refine z_aload_n hX dX7_draw_36 rfl 0 rfl ?_
        refine z_getR (k := 0) hX (z_mod0 hs) rfl rfl in_X7_draw_X7 (by decide) lk_X7_draw_f7 dX7_draw_37 ?_
        refine z_bipush (v := 24) hX dX7_draw_40 (by decide) ?_
        refine z_ialdc (j := 24) hX (z_mod1 hs) (by decide) dX7_draw_42 ?_
        refine z_iload_n hX dX7_draw_43 rfl 2 rfl ?_
        refine z_icmp_ge (tgt := 50) hX dX7_draw_44 (by decide) ?_ ?_
        · refine z_aload_n hX dX7_draw_50 rfl 0 rfl ?_
          refine z_getR (k := 0) hX (z_mod0 hs) rfl rfl in_X7_draw_X7 (by decide) lk_X7_draw_f7 dX7_draw_51 ?_
          refine z_iconst (v := 4) hX dX7_draw_54 (by decide) ?_
          refine z_iload_n hX dX7_draw_55 rfl 1 rfl ?_
          refine z_imul hX dX7_draw_56 ?_
          refine z_iconst (v := 1) hX dX7_draw_57 (by decide) ?_
          refine z_iadd hX dX7_draw_58 ?_
          refine z_iald hX (z_mod1 hs) dX7_draw_59 ?_
          refine z_iload_n hX dX7_draw_60 rfl 2 rfl ?_
          refine z_iadd hX dX7_draw_61 ?_
          refine z_sipush (v := 999) hX dX7_draw_62 (by decide) ?_
          refine z_icmp_le (tgt := 71) hX dX7_draw_65 (by decide) ?_ ?_
          · refine z_aload_n hX dX7_draw_71 rfl 0 rfl ?_
            refine z_getR (k := 0) hX (z_mod0 hs) rfl rfl in_X7_draw_X7 (by decide) lk_X7_draw_f7 dX7_draw_72 ?_
            refine z_iconst (v := 4) hX dX7_draw_75 (by decide) ?_
            refine z_iload_n hX dX7_draw_76 rfl 1 rfl ?_
            refine z_imul hX dX7_draw_77 ?_
            refine z_iconst (v := 2) hX dX7_draw_78 (by decide) ?_
            refine z_iadd hX dX7_draw_79 ?_
            refine z_dup2 hX dX7_draw_80 rfl rfl ?_
            refine z_iald hX (z_mod1 hs) dX7_draw_81 ?_
            refine z_iload_n hX dX7_draw_82 rfl 2 rfl ?_
            refine z_isub hX dX7_draw_83 ?_
            refine z_iast hX (z_mod1 hs) dX7_draw_84 (z_bs fun s3 => ?_)
            refine z_aload_n hX dX7_draw_85 rfl 0 rfl ?_
            refine z_getR (k := 0) hX (z_mod0 hs) rfl rfl in_X7_draw_X7 (by decide) lk_X7_draw_f7 dX7_draw_86 ?_
            refine z_iconst (v := 4) hX dX7_draw_89 (by decide) ?_
            refine z_iload_n hX dX7_draw_90 rfl 1 rfl ?_
            refine z_imul hX dX7_draw_91 ?_
            refine z_iconst (v := 1) hX dX7_draw_92 (by decide) ?_
            refine z_iadd hX dX7_draw_93 ?_
            refine z_dup2 hX dX7_draw_94 rfl rfl ?_
            refine z_iald hX (z_mod1 hs) dX7_draw_95 ?_
            refine z_iload_n hX dX7_draw_96 rfl 2 rfl ?_
            refine z_iadd hX dX7_draw_97 ?_
            refine z_iast hX (z_mod1 hs) dX7_draw_98 (z_bs fun s4 => ?_)
            refine z_aload_n hX dX7_draw_99 rfl 0 rfl ?_
            refine z_getR (k := 0) hX (z_mod0 hs) rfl rfl in_X7_draw_X7 (by decide) lk_X7_draw_f7 dX7_draw_100 ?_
            refine z_bipush (v := 24) hX dX7_draw_103 (by decide) ?_
            refine z_dup2 hX dX7_draw_105 rfl rfl ?_
            refine z_ialdc (j := 24) hX (z_mod1 hs) (by decide) dX7_draw_106 ?_
            refine z_iload_n hX dX7_draw_107 rfl 2 rfl ?_
            refine z_isub hX dX7_draw_108 ?_
            refine z_iastc (j := 24) hX (z_mod1 hs) (by decide) dX7_draw_109 (z_bs fun s5 => ?_)
            refine z_aload_n hX dX7_draw_110 rfl 0 rfl ?_
            refine z_getR (k := 0) hX (z_mod0 hs) rfl rfl in_X7_draw_X7 (by decide) lk_X7_draw_f7 dX7_draw_111 ?_
            refine z_bipush (v := 24) hX dX7_draw_114 (by decide) ?_
            refine z_ialdc (j := 24) hX (z_mod1 hs) (by decide) dX7_draw_116 ?_
            exact z_iret hX dX7_draw_117
          · refine z_bipush (v := -3) hX dX7_draw_68 (by decide) ?_
            exact z_iret hX dX7_draw_70
        · refine z_bipush (v := -2) hX dX7_draw_47 (by decide) ?_
          exact z_iret hX dX7_draw_49
    · refine z_iconst (v := -1) hX dX7_draw_20 (by decide) ?_
      exact z_iret hX dX7_draw_21

abbrev rm_X7_rumoured : Room := { frames := 1, cells := 0, slots := 0, locals := 20 }
theorem in_X7_rumoured_X7 : ∀ w ∈ wsX70, w ∈ wsX7_rumoured := fun w h => List.mem_cons_of_mem _ (List.mem_append_right _ h)
theorem lk_X7_rumoured_f102 : Cond.fieldLink RX7 102 (TX7 4).1 (TX7 4).2.1 (TX7 4).2.2.1 ∈ wsX7_rumoured := by decide +kernel
theorem lk_X7_rumoured_f20 : Cond.fieldLink RX7 20 (TX7 6).1 (TX7 6).2.1 (TX7 6).2.2.1 ∈ wsX7_rumoured := by decide +kernel
theorem lk_X7_rumoured_f13 : Cond.fieldLink RX7 13 (TX7 1).1 (TX7 1).2.1 (TX7 1).2.2.1 ∈ wsX7_rumoured := by decide +kernel
theorem lk_X7_rumoured_f23 : Cond.fieldLink RX7 23 (TX7 7).1 (TX7 7).2.1 (TX7 7).2.2.1 ∈ wsX7_rumoured := by decide +kernel
set_option maxHeartbeats 4000000 in
set_option maxRecDepth 100000 in
theorem w_X7_rumoured_57 (M : z_M) (V : z_V) (hs : z_isM V) (hX : z_Cx M V cX7_rumoured 5 (some .int) wsX7_rumoured RX7) (K4 : Int32 → Int32 → Int32 → z_St → Option (Int32 × z_St)) (hK4 : ∀ (x1 : Int32) (x2 : Int32) (x3 : Int32) (σ : z_St), z_Go M rm_X7_rumoured 5 V (z_QI V) σ 4 [(0, .ref (z_ad V 0)), (1, .int x1), (2, .int x2), (3, .int x3)] [] (K4 x1 x2 x3 σ)) (x1 : Int32) (x2 : Int32) (x3 : Int32) (y0 : Int32) (σ : z_St) : z_Go M rm_X7_rumoured 5 V (z_QI V) σ 57 [(0, .ref (z_ad V 0)), (1, .int x1), (2, .int x2), (3, .int x3)] [.int y0] (f_X7_rumoured_57 K4 x1 x2 x3 y0 σ) := by
  unfold f_X7_rumoured_57
  refine z_istore (lv' := [(4, .int y0), (0, .ref (z_ad V 0)), (1, .int x1), (2, .int x2), (3, .int x3)]) hX dX7_rumoured_57 (by decide) rfl ?_
  refine z_iload_n hX dX7_rumoured_59 rfl 3 rfl ?_
  refine z_iload hX dX7_rumoured_60 0 rfl ?_
  refine z_callSI (n := 1) hX (c_X7_flag M.2.1 V hX.2.2.2.2.2 hs y0 σ) gX7_rumoured_X7_flag rfl (by decide +kernel) ⟨by decide, by decide⟩ rfl rfl rfl rfl (Nat.le_of_ble_eq_true rfl) dX7_rumoured_62 (fun r1 _ => ?_)
  refine z_iadd hX dX7_rumoured_65 ?_
  refine z_istore_n (lv' := [(2, .int (x2 + r1.1)), (4, .int y0), (0, .ref (z_ad V 0)), (1, .int x1), (3, .int x3)]) hX dX7_rumoured_66 rfl (by decide) rfl ?_
  refine z_aload_n hX dX7_rumoured_67 rfl 2 rfl ?_
  refine z_getR (k := 1) hX (z_mod0 hs) rfl rfl in_X7_rumoured_X7 (by decide) lk_X7_rumoured_f13 dX7_rumoured_68 ?_
  refine z_bipush (v := 16) hX dX7_rumoured_71 (by decide) ?_
  refine z_iload_n hX dX7_rumoured_73 rfl 4 rfl ?_
  refine z_iadd hX dX7_rumoured_74 ?_
  refine z_iload hX dX7_rumoured_75 1 rfl ?_
  refine z_if_eq (tgt := 85) hX dX7_rumoured_77 (by decide) ?_ ?_
  · refine z_aload_n hX dX7_rumoured_85 rfl 2 rfl ?_
    refine z_getR (k := 1) hX (z_mod0 hs) rfl rfl in_X7_rumoured_X7 (by decide) lk_X7_rumoured_f13 dX7_rumoured_86 ?_
    refine z_bipush (v := 16) hX dX7_rumoured_89 (by decide) ?_
    refine z_iload_n hX dX7_rumoured_91 rfl 4 rfl ?_
    refine z_iadd hX dX7_rumoured_92 ?_
    refine z_iald hX (z_mod2 hs) dX7_rumoured_93 ?_
    refine z_iast hX (z_mod2 hs) dX7_rumoured_94 (z_bs fun s2 => ?_)
    refine z_iinc (v := (x3 + 1)) (lv' := [(3, .int (x3 + 1)), (2, .int (x2 + r1.1)), (4, .int y0), (0, .ref (z_ad V 0)), (1, .int x1)]) hX dX7_rumoured_95 4 rfl rfl (by decide) rfl ?_
    refine z_goto (tgt := 4) hX dX7_rumoured_98 (by decide) ?_
    refine z_sub [3, 4, 1, 0] rfl ?_
    exact hK4 x1 (x2 + r1.1) (x3 + 1) s2
  · refine z_bipush (v := 9) hX dX7_rumoured_80 (by decide) ?_
    refine z_goto (tgt := 94) hX dX7_rumoured_82 (by decide) ?_
    refine z_iast hX (z_mod2 hs) dX7_rumoured_94 (z_bs fun s3 => ?_)
    refine z_iinc (v := (x3 + 1)) (lv' := [(3, .int (x3 + 1)), (2, .int (x2 + r1.1)), (4, .int y0), (0, .ref (z_ad V 0)), (1, .int x1)]) hX dX7_rumoured_95 4 rfl rfl (by decide) rfl ?_
    refine z_goto (tgt := 4) hX dX7_rumoured_98 (by decide) ?_
    refine z_sub [3, 4, 1, 0] rfl ?_
    exact hK4 x1 (x2 + r1.1) (x3 + 1) s3
set_option maxHeartbeats 4000000 in
set_option maxRecDepth 100000 in
theorem w_X7_rumoured_4 (M : z_M) (V : z_V) (hs : z_isM V) (hX : z_Cx M V cX7_rumoured 5 (some .int) wsX7_rumoured RX7) : ∀ (n : Nat) (x1 : Int32) (x2 : Int32) (x3 : Int32) (σ : z_St), z_Go M rm_X7_rumoured 5 V (z_QI V) σ 4 [(0, .ref (z_ad V 0)), (1, .int x1), (2, .int x2), (3, .int x3)] [] (f_X7_rumoured_4 n x1 x2 x3 σ) := by
  intro n
  induction n with
  | zero => intro x1 x2 x3 σ; exact z_none
  | succ n ih =>
    intro x1 x2 x3 σ
    rw [f_X7_rumoured_4]
    refine z_iload_n hX dX7_rumoured_4 rfl 3 rfl ?_
    refine z_aload_n hX dX7_rumoured_5 rfl 0 rfl ?_
    refine z_getI (k := 4) hX (z_mod0 hs) rfl rfl in_X7_rumoured_X7 (by decide) lk_X7_rumoured_f102 dX7_rumoured_6 ?_
    refine z_icmp_ge (tgt := 101) hX dX7_rumoured_9 (by decide) ?_ ?_
    · refine z_iload_n hX dX7_rumoured_101 rfl 2 rfl ?_
      exact z_iret hX dX7_rumoured_102
    · refine z_aload_n hX dX7_rumoured_12 rfl 0 rfl ?_
      refine z_getR (k := 6) hX (z_mod0 hs) rfl rfl in_X7_rumoured_X7 (by decide) lk_X7_rumoured_f20 dX7_rumoured_13 ?_
      refine z_iload_n hX dX7_rumoured_16 rfl 3 rfl ?_
      refine z_iald hX (z_mod4 hs) dX7_rumoured_17 ?_
      refine z_iload_n hX dX7_rumoured_18 rfl 1 rfl ?_
      refine z_icmp_ne (tgt := 56) hX dX7_rumoured_19 (by decide) ?_ ?_
      · refine z_iconst (v := 0) hX dX7_rumoured_56 (by decide) ?_
        exact w_X7_rumoured_57 M V hs hX (fun x1 x2 x3 σ => f_X7_rumoured_4 n x1 x2 x3 σ) ih x1 x2 x3 (0 : Int32) σ
      · refine z_aload_n hX dX7_rumoured_22 rfl 0 rfl ?_
        refine z_getR (k := 7) hX (z_mod0 hs) rfl rfl in_X7_rumoured_X7 (by decide) lk_X7_rumoured_f23 dX7_rumoured_23 ?_
        refine z_iload_n hX dX7_rumoured_26 rfl 3 rfl ?_
        refine z_iald hX (z_mod5 hs) dX7_rumoured_27 ?_
        refine z_aload_n hX dX7_rumoured_28 rfl 0 rfl ?_
        refine z_getR (k := 1) hX (z_mod0 hs) rfl rfl in_X7_rumoured_X7 (by decide) lk_X7_rumoured_f13 dX7_rumoured_29 ?_
        refine z_bipush (v := 25) hX dX7_rumoured_32 (by decide) ?_
        refine z_ialdc (j := 25) hX (z_mod2 hs) (by decide) dX7_rumoured_34 ?_
        refine z_icmp_lt (tgt := 56) hX dX7_rumoured_35 (by decide) ?_ ?_
        · refine z_iconst (v := 0) hX dX7_rumoured_56 (by decide) ?_
          exact w_X7_rumoured_57 M V hs hX (fun x1 x2 x3 σ => f_X7_rumoured_4 n x1 x2 x3 σ) ih x1 x2 x3 (0 : Int32) σ
        · refine z_aload_n hX dX7_rumoured_38 rfl 0 rfl ?_
          refine z_getR (k := 1) hX (z_mod0 hs) rfl rfl in_X7_rumoured_X7 (by decide) lk_X7_rumoured_f13 dX7_rumoured_39 ?_
          refine z_bipush (v := 16) hX dX7_rumoured_42 (by decide) ?_
          refine z_iload_n hX dX7_rumoured_44 rfl 3 rfl ?_
          refine z_iadd hX dX7_rumoured_45 ?_
          refine z_iald hX (z_mod2 hs) dX7_rumoured_46 ?_
          refine z_bipush (v := 9) hX dX7_rumoured_47 (by decide) ?_
          refine z_icmp_eq (tgt := 56) hX dX7_rumoured_49 (by decide) ?_ ?_
          · refine z_iconst (v := 0) hX dX7_rumoured_56 (by decide) ?_
            exact w_X7_rumoured_57 M V hs hX (fun x1 x2 x3 σ => f_X7_rumoured_4 n x1 x2 x3 σ) ih x1 x2 x3 (0 : Int32) σ
          · refine z_iconst (v := 1) hX dX7_rumoured_52 (by decide) ?_
            refine z_goto (tgt := 57) hX dX7_rumoured_53 (by decide) ?_
            exact w_X7_rumoured_57 M V hs hX (fun x1 x2 x3 σ => f_X7_rumoured_4 n x1 x2 x3 σ) ih x1 x2 x3 (1 : Int32) σ
set_option maxHeartbeats 4000000 in
set_option maxRecDepth 100000 in
theorem c_X7_rumoured (l : Launch) (V : z_V) (hV : z_ok V) (hs : z_isM V) (x1 : Int32) (σ : z_St) : z_CtI l V yX7_rumoured wsX7_rumoured rm_X7_rumoured [.ref (z_ad V 0), .int x1] σ (f_X7_rumoured x1 σ) := by
  refine z_startI (lv := [(0, .ref (z_ad V 0)), (1, .int x1)]) hV (by decide) rfl (Nat.le_of_ble_eq_true rfl) rfl ?_
  intro M hM hX
  have hX : z_Cx M V cX7_rumoured 5 (some .int) wsX7_rumoured RX7 := hX
  unfold f_X7_rumoured
  refine z_iconst (v := 0) hX dX7_rumoured_0 (by decide) ?_
  refine z_istore_n (lv' := [(2, .int (0 : Int32)), (0, .ref (z_ad V 0)), (1, .int x1)]) hX dX7_rumoured_1 rfl (by decide) rfl ?_
  refine z_iconst (v := 0) hX dX7_rumoured_2 (by decide) ?_
  refine z_istore_n (lv' := [(3, .int (0 : Int32)), (2, .int (0 : Int32)), (0, .ref (z_ad V 0)), (1, .int x1)]) hX dX7_rumoured_3 rfl (by decide) rfl ?_
  refine z_sub [2, 3, 1, 0] rfl ?_
  exact w_X7_rumoured_4 M V hs hX 200 x1 (0 : Int32) (0 : Int32) σ

abbrev rm_X7_settles : Room := { frames := 0, cells := 0, slots := 0, locals := 0 }
theorem in_X7_settles_X7 : ∀ w ∈ wsX70, w ∈ wsX7_settles := fun w h => List.mem_cons_of_mem _ (List.mem_append_right _ h)
theorem lk_X7_settles_f7 : Cond.fieldLink RX7 7 (TX7 0).1 (TX7 0).2.1 (TX7 0).2.2.1 ∈ wsX7_settles := by decide +kernel
theorem lk_X7_settles_f13 : Cond.fieldLink RX7 13 (TX7 1).1 (TX7 1).2.1 (TX7 1).2.2.1 ∈ wsX7_settles := by decide +kernel
set_option maxHeartbeats 4000000 in
set_option maxRecDepth 100000 in
theorem w_X7_settles_2 (M : z_M) (V : z_V) (hs : z_isM V) (hX : z_Cx M V cX7_settles 2 none wsX7_settles RX7) : ∀ (n : Nat) (x1 : Int32) (σ : z_St), z_Go M rm_X7_settles 2 V (z_QV V) σ 2 [(0, .ref (z_ad V 0)), (1, .int x1)] [] (f_X7_settles_2 n x1 σ) := by
  intro n
  induction n with
  | zero => intro x1 σ; exact z_none
  | succ n ih =>
    intro x1 σ
    rw [f_X7_settles_2]
    refine z_iload_n hX dX7_settles_2 rfl 1 rfl ?_
    refine z_bipush (v := 45) hX dX7_settles_3 (by decide) ?_
    refine z_icmp_ge (tgt := 26) hX dX7_settles_5 (by decide) ?_ ?_
    · exact z_vret hX dX7_settles_26
    · refine z_aload_n hX dX7_settles_8 rfl 0 rfl ?_
      refine z_getR (k := 0) hX (z_mod0 hs) rfl rfl in_X7_settles_X7 (by decide) lk_X7_settles_f7 dX7_settles_9 ?_
      refine z_iload_n hX dX7_settles_12 rfl 1 rfl ?_
      refine z_aload_n hX dX7_settles_13 rfl 0 rfl ?_
      refine z_getR (k := 1) hX (z_mod0 hs) rfl rfl in_X7_settles_X7 (by decide) lk_X7_settles_f13 dX7_settles_14 ?_
      refine z_iload_n hX dX7_settles_17 rfl 1 rfl ?_
      refine z_iald hX (z_mod2 hs) dX7_settles_18 ?_
      refine z_iast hX (z_mod1 hs) dX7_settles_19 (z_bs fun s1 => ?_)
      refine z_iinc (v := (x1 + 1)) (lv' := [(1, .int (x1 + 1)), (0, .ref (z_ad V 0))]) hX dX7_settles_20 1 rfl rfl (by decide) rfl ?_
      refine z_goto (tgt := 2) hX dX7_settles_23 (by decide) ?_
      refine z_sub [1, 0] rfl ?_
      exact ih (x1 + 1) s1
set_option maxHeartbeats 4000000 in
set_option maxRecDepth 100000 in
theorem c_X7_settles (l : Launch) (V : z_V) (hV : z_ok V) (hs : z_isM V) (σ : z_St) : z_CtV l V yX7_settles wsX7_settles rm_X7_settles [.ref (z_ad V 0)] σ (f_X7_settles σ) := by
  refine z_startV (lv := [(0, .ref (z_ad V 0))]) hV (by decide) rfl (Nat.le_of_ble_eq_true rfl) rfl ?_
  intro M hM hX
  have hX : z_Cx M V cX7_settles 2 none wsX7_settles RX7 := hX
  unfold f_X7_settles
  refine z_iconst (v := 0) hX dX7_settles_0 (by decide) ?_
  refine z_istore_n (lv' := [(1, .int (0 : Int32)), (0, .ref (z_ad V 0))]) hX dX7_settles_1 rfl (by decide) rfl ?_
  refine z_sub [1, 0] rfl ?_
  exact w_X7_settles_2 M V hs hX 200 (0 : Int32) σ

abbrev rm_X7_rumour : Room := { frames := 2, cells := 0, slots := 0, locals := 46 }
set_option maxHeartbeats 4000000 in
set_option maxRecDepth 100000 in
theorem c_X7_rumour (l : Launch) (V : z_V) (hV : z_ok V) (hs : z_isM V) (x1 : Int32) (σ : z_St) : z_CtI l V yX7_rumour wsX7_rumour rm_X7_rumour [.ref (z_ad V 0), .int x1] σ (f_X7_rumour x1 σ) := by
  refine z_startI (lv := [(0, .ref (z_ad V 0)), (1, .int x1)]) hV (by decide) rfl (Nat.le_of_ble_eq_true rfl) rfl ?_
  intro M hM hX
  have hX : z_Cx M V cX7_rumour 3 (some .int) wsX7_rumour RX7 := hX
  unfold f_X7_rumour
  refine z_aload_n hX dX7_rumour_0 rfl 0 rfl ?_
  refine z_iload_n hX dX7_rumour_1 rfl 1 rfl ?_
  refine z_callVI (n := 1) hX (c_X7_isOne M.2.1 V hX.2.2.2.2.2 hs x1 σ) gX7_rumour_X7_isOne rfl (by decide +kernel) ⟨by decide, by decide⟩ rfl rfl (z_mod0 hs) rfl rfl rfl rfl (Nat.le_of_ble_eq_true rfl) dX7_rumour_2 (fun r1 _ => ?_)
  refine z_if_ne (tgt := 10) hX dX7_rumour_5 (by decide) ?_ ?_
  · refine z_aload_n hX dX7_rumour_10 rfl 0 rfl ?_
    refine z_callVV (n := 0) hX (c_X7_starts M.2.1 V hX.2.2.2.2.2 hs r1.2) gX7_rumour_X7_starts rfl (by decide +kernel) ⟨by decide, by decide⟩ rfl rfl (z_mod0 hs) rfl rfl rfl rfl (Nat.le_of_ble_eq_true rfl) dX7_rumour_11 (fun r2 _ => ?_)
    refine z_aload_n hX dX7_rumour_14 rfl 0 rfl ?_
    refine z_iload_n hX dX7_rumour_15 rfl 1 rfl ?_
    refine z_callVI (n := 1) hX (c_X7_rumoured M.2.1 V hX.2.2.2.2.2 hs x1 r2.2) gX7_rumour_X7_rumoured rfl (by decide +kernel) ⟨by decide, by decide⟩ rfl rfl (z_mod0 hs) rfl rfl rfl rfl (Nat.le_of_ble_eq_true rfl) dX7_rumour_16 (fun r3 _ => ?_)
    refine z_istore_n (lv' := [(2, .int r3.1), (0, .ref (z_ad V 0)), (1, .int x1)]) hX dX7_rumour_19 rfl (by decide) rfl ?_
    refine z_aload_n hX dX7_rumour_20 rfl 1 rfl ?_
    refine z_callVV (n := 0) hX (c_X7_settles M.2.1 V hX.2.2.2.2.2 hs r3.2) gX7_rumour_X7_settles rfl (by decide +kernel) ⟨by decide, by decide⟩ rfl rfl (z_mod0 hs) rfl rfl rfl rfl (Nat.le_of_ble_eq_true rfl) dX7_rumour_21 (fun r4 _ => ?_)
    refine z_iload_n hX dX7_rumour_24 rfl 0 rfl ?_
    exact z_iret hX dX7_rumour_25
  · refine z_iconst (v := -1) hX dX7_rumour_8 (by decide) ?_
    exact z_iret hX dX7_rumour_9

abbrev rm_X7_law : Room := { frames := 2, cells := 0, slots := 0, locals := 45 }
theorem lk_X7_law_c222 : Cond.constantLong RX7 222 99 ∈ wsX7_law := by decide +kernel
theorem lk_X7_law_c237 : Cond.constantLong RX7 237 9 ∈ wsX7_law := by decide +kernel
set_option maxHeartbeats 4000000 in
set_option maxRecDepth 100000 in
theorem w_X7_law_23 (M : z_M) (V : z_V) (hs : z_isM V) (hX : z_Cx M V cX7_law 3 (some .int) wsX7_law RX7) (x1 : Int32) (x2 : Int32) (y0 : Int64) (y1 : Int64) (y2 : Int64) (σ : z_St) : z_Go M rm_X7_law 3 V (z_QI V) σ 23 [(0, .ref (z_ad V 0)), (1, .int x1), (2, .int x2)] [.long y0, .long y1, .long y2] (f_X7_law_23 x1 x2 y0 y1 y2 σ) := by
  unfold f_X7_law_23
  refine z_callSI (n := 3) hX (c_X7_in M.2.1 V hX.2.2.2.2.2 hs y2 y1 y0 σ) gX7_law_X7_in rfl (by decide +kernel) ⟨by decide, by decide⟩ rfl rfl rfl rfl (Nat.le_of_ble_eq_true rfl) dX7_law_23 (fun r2 _ => ?_)
  refine z_if_ne (tgt := 31) hX dX7_law_26 (by decide) ?_ ?_
  · refine z_aload_n hX dX7_law_31 rfl 0 rfl ?_
    refine z_iload_n hX dX7_law_32 rfl 1 rfl ?_
    refine z_if_ne (tgt := 41) hX dX7_law_33 (by decide) ?_ ?_
    · refine z_bipush (v := 24) hX dX7_law_41 (by decide) ?_
      refine z_iload_n hX dX7_law_43 rfl 2 rfl ?_
      refine z_callVI (n := 2) hX (c_X7_becomes M.2.1 V hX.2.2.2.2.2 hs (24 : Int32) x2 r2.2) gX7_law_X7_becomes rfl (by decide +kernel) ⟨by decide, by decide⟩ rfl rfl (z_mod0 hs) rfl rfl rfl rfl (Nat.le_of_ble_eq_true rfl) dX7_law_44 (fun r3 _ => ?_)
      exact z_iret hX dX7_law_47
    · refine z_bipush (v := 23) hX dX7_law_36 (by decide) ?_
      refine z_goto (tgt := 43) hX dX7_law_38 (by decide) ?_
      refine z_iload_n hX dX7_law_43 rfl 2 rfl ?_
      refine z_callVI (n := 2) hX (c_X7_becomes M.2.1 V hX.2.2.2.2.2 hs (23 : Int32) x2 r2.2) gX7_law_X7_becomes rfl (by decide +kernel) ⟨by decide, by decide⟩ rfl rfl (z_mod0 hs) rfl rfl rfl rfl (Nat.le_of_ble_eq_true rfl) dX7_law_44 (fun r4 _ => ?_)
      exact z_iret hX dX7_law_47
  · refine z_iconst (v := -1) hX dX7_law_29 (by decide) ?_
    exact z_iret hX dX7_law_30
set_option maxHeartbeats 4000000 in
set_option maxRecDepth 100000 in
theorem c_X7_law (l : Launch) (V : z_V) (hV : z_ok V) (hs : z_isM V) (x1 : Int32) (x2 : Int32) (σ : z_St) : z_CtI l V yX7_law wsX7_law rm_X7_law [.ref (z_ad V 0), .int x1, .int x2] σ (f_X7_law x1 x2 σ) := by
  refine z_startI (lv := [(0, .ref (z_ad V 0)), (1, .int x1), (2, .int x2)]) hV (by decide) rfl (Nat.le_of_ble_eq_true rfl) rfl ?_
  intro M hM hX
  have hX : z_Cx M V cX7_law 3 (some .int) wsX7_law RX7 := hX
  unfold f_X7_law
  refine z_iload_n hX dX7_law_0 rfl 1 rfl ?_
  refine z_callSI (n := 1) hX (c_X7_isPart M.2.1 V hX.2.2.2.2.2 hs x1 σ) gX7_law_X7_isPart rfl (by decide +kernel) ⟨by decide, by decide⟩ rfl rfl rfl rfl (Nat.le_of_ble_eq_true rfl) dX7_law_1 (fun r1 _ => ?_)
  refine z_if_eq (tgt := 29) hX dX7_law_4 (by decide) ?_ ?_
  · refine z_iconst (v := -1) hX dX7_law_29 (by decide) ?_
    exact z_iret hX dX7_law_30
  · refine z_iload_n hX dX7_law_7 rfl 2 rfl ?_
    refine z_i2l hX dX7_law_8 ?_
    refine z_lconst (v := 0) hX dX7_law_9 (by decide) ?_
    refine z_iload_n hX dX7_law_10 rfl 1 rfl ?_
    refine z_if_ne (tgt := 20) hX dX7_law_11 (by decide) ?_ ?_
    · refine z_ldc2 (v := 99) hX lk_X7_law_c222 dX7_law_20 ?_
      exact w_X7_law_23 M V hs hX x1 x2 (99 : Int64) (0 : Int64) x2.toInt64 r1.2
    · refine z_ldc2 (v := 9) hX lk_X7_law_c237 dX7_law_14 ?_
      refine z_goto (tgt := 23) hX dX7_law_17 (by decide) ?_
      exact w_X7_law_23 M V hs hX x1 x2 (9 : Int64) (0 : Int64) x2.toInt64 r1.2

abbrev rm_X7_teach : Room := { frames := 2, cells := 0, slots := 0, locals := 46 }
theorem lk_X7_teach_c173 : Cond.constantLong RX7 173 3 ∈ wsX7_teach := by decide +kernel
set_option maxHeartbeats 4000000 in
set_option maxRecDepth 100000 in
theorem c_X7_teach (l : Launch) (V : z_V) (hV : z_ok V) (hs : z_isM V) (x1 : Int32) (x2 : Int32) (σ : z_St) : z_CtI l V yX7_teach wsX7_teach rm_X7_teach [.ref (z_ad V 0), .int x1, .int x2] σ (f_X7_teach x1 x2 σ) := by
  refine z_startI (lv := [(0, .ref (z_ad V 0)), (1, .int x1), (2, .int x2)]) hV (by decide) rfl (Nat.le_of_ble_eq_true rfl) rfl ?_
  intro M hM hX
  have hX : z_Cx M V cX7_teach 3 (some .int) wsX7_teach RX7 := hX
  unfold f_X7_teach
  refine z_aload_n hX dX7_teach_0 rfl 0 rfl ?_
  refine z_iload_n hX dX7_teach_1 rfl 1 rfl ?_
  refine z_callVI (n := 1) hX (c_X7_isOne M.2.1 V hX.2.2.2.2.2 hs x1 σ) gX7_teach_X7_isOne rfl (by decide +kernel) ⟨by decide, by decide⟩ rfl rfl (z_mod0 hs) rfl rfl rfl rfl (Nat.le_of_ble_eq_true rfl) dX7_teach_2 (fun r1 _ => ?_)
  refine z_if_eq (tgt := 33) hX dX7_teach_5 (by decide) ?_ ?_
  · refine z_iconst (v := -1) hX dX7_teach_33 (by decide) ?_
    exact z_iret hX dX7_teach_34
  · refine z_iload_n hX dX7_teach_8 rfl 2 rfl ?_
    refine z_i2l hX dX7_teach_9 ?_
    refine z_lconst (v := 0) hX dX7_teach_10 (by decide) ?_
    refine z_ldc2 (v := 3) hX lk_X7_teach_c173 dX7_teach_11 ?_
    refine z_callSI (n := 3) hX (c_X7_in M.2.1 V hX.2.2.2.2.2 hs x2.toInt64 (0 : Int64) (3 : Int64) r1.2) gX7_teach_X7_in rfl (by decide +kernel) ⟨by decide, by decide⟩ rfl rfl rfl rfl (Nat.le_of_ble_eq_true rfl) dX7_teach_14 (fun r2 _ => ?_)
    refine z_if_eq (tgt := 33) hX dX7_teach_17 (by decide) ?_ ?_
    · refine z_iconst (v := -1) hX dX7_teach_33 (by decide) ?_
      exact z_iret hX dX7_teach_34
    · refine z_aload_n hX dX7_teach_20 rfl 0 rfl ?_
      refine z_iconst (v := 4) hX dX7_teach_21 (by decide) ?_
      refine z_iload_n hX dX7_teach_22 rfl 1 rfl ?_
      refine z_imul hX dX7_teach_23 ?_
      refine z_iconst (v := 0) hX dX7_teach_24 (by decide) ?_
      refine z_iadd hX dX7_teach_25 ?_
      refine z_iload_n hX dX7_teach_26 rfl 2 rfl ?_
      refine z_callVI (n := 2) hX (c_X7_becomes M.2.1 V hX.2.2.2.2.2 hs (((4 : Int32) * x1) + (0 : Int32)) x2 r2.2) gX7_teach_X7_becomes rfl (by decide +kernel) ⟨by decide, by decide⟩ rfl rfl (z_mod0 hs) rfl rfl rfl rfl (Nat.le_of_ble_eq_true rfl) dX7_teach_27 (fun r3 _ => ?_)
      refine z_goto (tgt := 34) hX dX7_teach_30 (by decide) ?_
      exact z_iret hX dX7_teach_34

abbrev rm_X7_go : Room := { frames := 5, cells := 0, slots := 0, locals := 115 }
theorem in_X7_go_X7 : ∀ w ∈ wsX70, w ∈ wsX7_go := fun w h => List.mem_cons_of_mem _ (List.mem_append_right _ h)
theorem lk_X7_go_c242 : Cond.constantLong RX7 242 20 ∈ wsX7_go := by decide +kernel
theorem lk_X7_go_f7 : Cond.fieldLink RX7 7 (TX7 0).1 (TX7 0).2.1 (TX7 0).2.2.1 ∈ wsX7_go := by decide +kernel
set_option maxHeartbeats 4000000 in
set_option maxRecDepth 100000 in
theorem c_X7_go (l : Launch) (V : z_V) (hV : z_ok V) (hs : z_isM V) (x1 : Int32) (σ : z_St) : z_CtI l V yX7_go wsX7_go rm_X7_go [.ref (z_ad V 0), .int x1] σ (f_X7_go x1 σ) := by
  refine z_startI (lv := [(0, .ref (z_ad V 0)), (1, .int x1)]) hV (by decide) rfl (Nat.le_of_ble_eq_true rfl) rfl ?_
  intro M hM hX
  have hX : z_Cx M V cX7_go 3 (some .int) wsX7_go RX7 := hX
  unfold f_X7_go
  refine z_iload_n hX dX7_go_0 rfl 1 rfl ?_
  refine z_i2l hX dX7_go_1 ?_
  refine z_lconst (v := 0) hX dX7_go_2 (by decide) ?_
  refine z_ldc2 (v := 20) hX lk_X7_go_c242 dX7_go_3 ?_
  refine z_callSI (n := 3) hX (c_X7_in M.2.1 V hX.2.2.2.2.2 hs x1.toInt64 (0 : Int64) (20 : Int64) σ) gX7_go_X7_in rfl (by decide +kernel) ⟨by decide, by decide⟩ rfl rfl rfl rfl (Nat.le_of_ble_eq_true rfl) dX7_go_6 (fun r1 _ => ?_)
  refine z_if_ne (tgt := 14) hX dX7_go_9 (by decide) ?_ ?_
  · refine z_aload_n hX dX7_go_14 rfl 0 rfl ?_
    refine z_getR (k := 0) hX (z_mod0 hs) rfl rfl in_X7_go_X7 (by decide) lk_X7_go_f7 dX7_go_15 ?_
    refine z_bipush (v := 25) hX dX7_go_18 (by decide) ?_
    refine z_ialdc (j := 25) hX (z_mod1 hs) (by decide) dX7_go_20 ?_
    refine z_iload_n hX dX7_go_21 rfl 1 rfl ?_
    refine z_iadd hX dX7_go_22 ?_
    refine z_bipush (v := 99) hX dX7_go_23 (by decide) ?_
    refine z_icmp_le (tgt := 31) hX dX7_go_25 (by decide) ?_ ?_
    · refine z_aload_n hX dX7_go_31 rfl 0 rfl ?_
      refine z_callVV (n := 0) hX (c_X7_starts M.2.1 V hX.2.2.2.2.2 hs r1.2) gX7_go_X7_starts rfl (by decide +kernel) ⟨by decide, by decide⟩ rfl rfl (z_mod0 hs) rfl rfl rfl rfl (Nat.le_of_ble_eq_true rfl) dX7_go_32 (fun r2 _ => ?_)
      refine z_aload_n hX dX7_go_35 rfl 0 rfl ?_
      refine z_iload_n hX dX7_go_36 rfl 1 rfl ?_
      refine z_callVI (n := 1) hX (c_X7_brazenIn M.2.1 V hX.2.2.2.2.2 hs x1 r2.2) gX7_go_X7_brazenIn rfl (by decide +kernel) ⟨by decide, by decide⟩ rfl rfl (z_mod0 hs) rfl rfl rfl rfl (Nat.le_of_ble_eq_true rfl) dX7_go_37 (fun r3 _ => ?_)
      refine z_istore_n (lv' := [(2, .int r3.1), (0, .ref (z_ad V 0)), (1, .int x1)]) hX dX7_go_40 rfl (by decide) rfl ?_
      refine z_aload_n hX dX7_go_41 rfl 1 rfl ?_
      refine z_callVV (n := 0) hX (c_X7_settles M.2.1 V hX.2.2.2.2.2 hs r3.2) gX7_go_X7_settles rfl (by decide +kernel) ⟨by decide, by decide⟩ rfl rfl (z_mod0 hs) rfl rfl rfl rfl (Nat.le_of_ble_eq_true rfl) dX7_go_42 (fun r4 _ => ?_)
      refine z_iload_n hX dX7_go_45 rfl 0 rfl ?_
      exact z_iret hX dX7_go_46
    · refine z_bipush (v := -3) hX dX7_go_28 (by decide) ?_
      exact z_iret hX dX7_go_30
  · refine z_iconst (v := -1) hX dX7_go_12 (by decide) ?_
    exact z_iret hX dX7_go_13

abbrev rm_X7_ahead : Room := { frames := 4, cells := 0, slots := 0, locals := 94 }
theorem in_X7_ahead_X7 : ∀ w ∈ wsX70, w ∈ wsX7_ahead := fun w h => List.mem_cons_of_mem _ (List.mem_append_right _ h)
theorem lk_X7_ahead_c242 : Cond.constantLong RX7 242 20 ∈ wsX7_ahead := by decide +kernel
theorem lk_X7_ahead_c173 : Cond.constantLong RX7 173 3 ∈ wsX7_ahead := by decide +kernel
theorem lk_X7_ahead_f13 : Cond.fieldLink RX7 13 (TX7 1).1 (TX7 1).2.1 (TX7 1).2.2.1 ∈ wsX7_ahead := by decide +kernel
theorem lk_X7_ahead_f7 : Cond.fieldLink RX7 7 (TX7 0).1 (TX7 0).2.1 (TX7 0).2.2.1 ∈ wsX7_ahead := by decide +kernel
set_option maxHeartbeats 4000000 in
set_option maxRecDepth 100000 in
theorem c_X7_ahead (l : Launch) (V : z_V) (hV : z_ok V) (hs : z_isM V) (x1 : Int32) (x2 : Int32) (x3 : Int32) (σ : z_St) : z_CtI l V yX7_ahead wsX7_ahead rm_X7_ahead [.ref (z_ad V 0), .int x1, .int x2, .int x3] σ (f_X7_ahead x1 x2 x3 σ) := by
  refine z_startI (lv := [(0, .ref (z_ad V 0)), (1, .int x1), (2, .int x2), (3, .int x3)]) hV (by decide) rfl (Nat.le_of_ble_eq_true rfl) rfl ?_
  intro M hM hX
  have hX : z_Cx M V cX7_ahead 4 (some .int) wsX7_ahead RX7 := hX
  unfold f_X7_ahead
  refine z_aload_n hX dX7_ahead_0 rfl 0 rfl ?_
  refine z_iload_n hX dX7_ahead_1 rfl 1 rfl ?_
  refine z_callVI (n := 1) hX (c_X7_isOne M.2.1 V hX.2.2.2.2.2 hs x1 σ) gX7_ahead_X7_isOne rfl (by decide +kernel) ⟨by decide, by decide⟩ rfl rfl (z_mod0 hs) rfl rfl rfl rfl (Nat.le_of_ble_eq_true rfl) dX7_ahead_2 (fun r1 _ => ?_)
  refine z_if_eq (tgt := 32) hX dX7_ahead_5 (by decide) ?_ ?_
  · refine z_iconst (v := -1) hX dX7_ahead_32 (by decide) ?_
    exact z_iret hX dX7_ahead_33
  · refine z_iload_n hX dX7_ahead_8 rfl 2 rfl ?_
    refine z_i2l hX dX7_ahead_9 ?_
    refine z_lconst (v := 0) hX dX7_ahead_10 (by decide) ?_
    refine z_ldc2 (v := 20) hX lk_X7_ahead_c242 dX7_ahead_11 ?_
    refine z_callSI (n := 3) hX (c_X7_in M.2.1 V hX.2.2.2.2.2 hs x2.toInt64 (0 : Int64) (20 : Int64) r1.2) gX7_ahead_X7_in rfl (by decide +kernel) ⟨by decide, by decide⟩ rfl rfl rfl rfl (Nat.le_of_ble_eq_true rfl) dX7_ahead_14 (fun r2 _ => ?_)
    refine z_if_eq (tgt := 32) hX dX7_ahead_17 (by decide) ?_ ?_
    · refine z_iconst (v := -1) hX dX7_ahead_32 (by decide) ?_
      exact z_iret hX dX7_ahead_33
    · refine z_iload_n hX dX7_ahead_20 rfl 3 rfl ?_
      refine z_i2l hX dX7_ahead_21 ?_
      refine z_lconst (v := 0) hX dX7_ahead_22 (by decide) ?_
      refine z_ldc2 (v := 3) hX lk_X7_ahead_c173 dX7_ahead_23 ?_
      refine z_callSI (n := 3) hX (c_X7_in M.2.1 V hX.2.2.2.2.2 hs x3.toInt64 (0 : Int64) (3 : Int64) r2.2) gX7_ahead_X7_in rfl (by decide +kernel) ⟨by decide, by decide⟩ rfl rfl rfl rfl (Nat.le_of_ble_eq_true rfl) dX7_ahead_26 (fun r3 _ => ?_)
      refine z_if_ne (tgt := 34) hX dX7_ahead_29 (by decide) ?_ ?_
      · refine z_aload_n hX dX7_ahead_34 rfl 0 rfl ?_
        refine z_callVV (n := 0) hX (c_X7_starts M.2.1 V hX.2.2.2.2.2 hs r3.2) gX7_ahead_X7_starts rfl (by decide +kernel) ⟨by decide, by decide⟩ rfl rfl (z_mod0 hs) rfl rfl rfl rfl (Nat.le_of_ble_eq_true rfl) dX7_ahead_35 (fun r4 _ => ?_)
        refine z_aload_n hX dX7_ahead_38 rfl 0 rfl ?_
        refine z_iload_n hX dX7_ahead_39 rfl 2 rfl ?_
        refine z_callVV (n := 1) hX (c_X7_weeksGo M.2.1 V hX.2.2.2.2.2 hs x2 r4.2) gX7_ahead_X7_weeksGo rfl (by decide +kernel) ⟨by decide, by decide⟩ rfl rfl (z_mod0 hs) rfl rfl rfl rfl (Nat.le_of_ble_eq_true rfl) dX7_ahead_40 (fun r5 _ => ?_)
        refine z_iload_n hX dX7_ahead_43 rfl 3 rfl ?_
        refine z_if_ne (tgt := 56) hX dX7_ahead_44 (by decide) ?_ ?_
        · refine z_iload_n hX dX7_ahead_56 rfl 3 rfl ?_
          refine z_iconst (v := 1) hX dX7_ahead_57 (by decide) ?_
          refine z_icmp_ne (tgt := 70) hX dX7_ahead_58 (by decide) ?_ ?_
          · refine z_iload_n hX dX7_ahead_70 rfl 3 rfl ?_
            refine z_iconst (v := 2) hX dX7_ahead_71 (by decide) ?_
            refine z_icmp_ne (tgt := 95) hX dX7_ahead_72 (by decide) ?_ ?_
            · refine z_aload_n hX dX7_ahead_95 rfl 0 rfl ?_
              refine z_getR (k := 1) hX (z_mod0 hs) rfl rfl in_X7_ahead_X7 (by decide) lk_X7_ahead_f13 dX7_ahead_96 ?_
              refine z_bipush (v := 24) hX dX7_ahead_99 (by decide) ?_
              refine z_ialdc (j := 24) hX (z_mod2 hs) (by decide) dX7_ahead_101 ?_
              exact z_iret hX dX7_ahead_102
            · refine z_aload_n hX dX7_ahead_75 rfl 0 rfl ?_
              refine z_iload_n hX dX7_ahead_76 rfl 1 rfl ?_
              refine z_iconst (v := 3) hX dX7_ahead_77 (by decide) ?_
              refine z_callVI (n := 2) hX (c_X7_of M.2.1 V hX.2.2.2.2.2 hs x1 (3 : Int32) r5.2) gX7_ahead_X7_of rfl (by decide +kernel) ⟨by decide, by decide⟩ rfl rfl (z_mod0 hs) rfl rfl rfl rfl (Nat.le_of_ble_eq_true rfl) dX7_ahead_78 (fun r6 _ => ?_)
              refine z_aload_n hX dX7_ahead_81 rfl 0 rfl ?_
              refine z_getR (k := 0) hX (z_mod0 hs) rfl rfl in_X7_ahead_X7 (by decide) lk_X7_ahead_f7 dX7_ahead_82 ?_
              refine z_iconst (v := 4) hX dX7_ahead_85 (by decide) ?_
              refine z_iload_n hX dX7_ahead_86 rfl 1 rfl ?_
              refine z_imul hX dX7_ahead_87 ?_
              refine z_iconst (v := 3) hX dX7_ahead_88 (by decide) ?_
              refine z_iadd hX dX7_ahead_89 ?_
              refine z_iald hX (z_mod1 hs) dX7_ahead_90 ?_
              refine z_isub hX dX7_ahead_91 ?_
              refine z_goto (tgt := 102) hX dX7_ahead_92 (by decide) ?_
              exact z_iret hX dX7_ahead_102
          · refine z_aload_n hX dX7_ahead_61 rfl 0 rfl ?_
            refine z_iload_n hX dX7_ahead_62 rfl 1 rfl ?_
            refine z_iconst (v := 2) hX dX7_ahead_63 (by decide) ?_
            refine z_callVI (n := 2) hX (c_X7_of M.2.1 V hX.2.2.2.2.2 hs x1 (2 : Int32) r5.2) gX7_ahead_X7_of rfl (by decide +kernel) ⟨by decide, by decide⟩ rfl rfl (z_mod0 hs) rfl rfl rfl rfl (Nat.le_of_ble_eq_true rfl) dX7_ahead_64 (fun r7 _ => ?_)
            refine z_goto (tgt := 102) hX dX7_ahead_67 (by decide) ?_
            exact z_iret hX dX7_ahead_102
        · refine z_aload_n hX dX7_ahead_47 rfl 0 rfl ?_
          refine z_iload_n hX dX7_ahead_48 rfl 1 rfl ?_
          refine z_iconst (v := 1) hX dX7_ahead_49 (by decide) ?_
          refine z_callVI (n := 2) hX (c_X7_of M.2.1 V hX.2.2.2.2.2 hs x1 (1 : Int32) r5.2) gX7_ahead_X7_of rfl (by decide +kernel) ⟨by decide, by decide⟩ rfl rfl (z_mod0 hs) rfl rfl rfl rfl (Nat.le_of_ble_eq_true rfl) dX7_ahead_50 (fun r8 _ => ?_)
          refine z_goto (tgt := 102) hX dX7_ahead_53 (by decide) ?_
          exact z_iret hX dX7_ahead_102
      · refine z_iconst (v := -1) hX dX7_ahead_32 (by decide) ?_
        exact z_iret hX dX7_ahead_33

abbrev rm_X7_first : Room := { frames := 3, cells := 0, slots := 0, locals := 72 }
theorem in_X7_first_X7 : ∀ w ∈ wsX70, w ∈ wsX7_first := fun w h => List.mem_cons_of_mem _ (List.mem_append_right _ h)
theorem lk_X7_first_f192 : Cond.fieldLink RX7 192 (TX7 32).1 (TX7 32).2.1 (TX7 32).2.2.1 ∈ wsX7_first := by decide +kernel
theorem lk_X7_first_f13 : Cond.fieldLink RX7 13 (TX7 1).1 (TX7 1).2.1 (TX7 1).2.2.1 ∈ wsX7_first := by decide +kernel
set_option maxHeartbeats 4000000 in
set_option maxRecDepth 100000 in
theorem w_X7_first_16 (M : z_M) (V : z_V) (hs : z_isM V) (hX : z_Cx M V cX7_first 3 (some .int) wsX7_first RX7) : ∀ (n : Nat) (x1 : Int32) (x2 : Int32) (σ : z_St), z_Go M rm_X7_first 3 V (z_QI V) σ 16 [(0, .ref (z_ad V 0)), (1, .int x1), (2, .int x2)] [] (f_X7_first_16 n x1 x2 σ) := by
  intro n
  induction n with
  | zero => intro x1 x2 σ; exact z_none
  | succ n ih =>
    intro x1 x2 σ
    rw [f_X7_first_16]
    refine z_iload_n hX dX7_first_16 rfl 2 rfl ?_
    refine z_bipush (v := 20) hX dX7_first_17 (by decide) ?_
    refine z_icmp_ge (tgt := 54) hX dX7_first_19 (by decide) ?_ ?_
    · refine z_bipush (v := -4) hX dX7_first_54 (by decide) ?_
      exact z_iret hX dX7_first_56
    · refine z_aload_n hX dX7_first_22 rfl 0 rfl ?_
      refine z_callVV (n := 0) hX (c_X7_weekGoes M.2.1 V hX.2.2.2.2.2 hs σ) gX7_first_X7_weekGoes rfl (by decide +kernel) ⟨by decide, by decide⟩ rfl rfl (z_mod0 hs) rfl rfl rfl rfl (Nat.le_of_ble_eq_true rfl) dX7_first_23 (fun r3 _ => ?_)
      refine z_aload_n hX dX7_first_26 rfl 0 rfl ?_
      refine z_getI (k := 32) hX (z_mod0 hs) rfl rfl in_X7_first_X7 (by decide) lk_X7_first_f192 dX7_first_27 ?_
      refine z_iload_n hX dX7_first_30 rfl 1 rfl ?_
      refine z_ishr hX dX7_first_31 ?_
      refine z_iconst (v := 1) hX dX7_first_32 (by decide) ?_
      refine z_iand hX dX7_first_33 ?_
      refine z_iconst (v := 1) hX dX7_first_34 (by decide) ?_
      refine z_icmp_ne (tgt := 48) hX dX7_first_35 (by decide) ?_ ?_
      · refine z_iinc (v := (x2 + 1)) (lv' := [(2, .int (x2 + 1)), (0, .ref (z_ad V 0)), (1, .int x1)]) hX dX7_first_48 2 rfl rfl (by decide) rfl ?_
        refine z_goto (tgt := 16) hX dX7_first_51 (by decide) ?_
        refine z_sub [1, 2, 0] rfl ?_
        exact ih x1 (x2 + 1) r3.2
      · refine z_aload_n hX dX7_first_38 rfl 0 rfl ?_
        refine z_getR (k := 1) hX (z_mod0 hs) rfl rfl in_X7_first_X7 (by decide) lk_X7_first_f13 dX7_first_39 ?_
        refine z_bipush (v := 25) hX dX7_first_42 (by decide) ?_
        refine z_ialdc (j := 25) hX (z_mod2 hs) (by decide) dX7_first_44 ?_
        refine z_iconst (v := 1) hX dX7_first_45 (by decide) ?_
        refine z_isub hX dX7_first_46 ?_
        exact z_iret hX dX7_first_47
set_option maxHeartbeats 4000000 in
set_option maxRecDepth 100000 in
theorem c_X7_first (l : Launch) (V : z_V) (hV : z_ok V) (hs : z_isM V) (x1 : Int32) (σ : z_St) : z_CtI l V yX7_first wsX7_first rm_X7_first [.ref (z_ad V 0), .int x1] σ (f_X7_first x1 σ) := by
  refine z_startI (lv := [(0, .ref (z_ad V 0)), (1, .int x1)]) hV (by decide) rfl (Nat.le_of_ble_eq_true rfl) rfl ?_
  intro M hM hX
  have hX : z_Cx M V cX7_first 3 (some .int) wsX7_first RX7 := hX
  unfold f_X7_first
  refine z_aload_n hX dX7_first_0 rfl 0 rfl ?_
  refine z_iload_n hX dX7_first_1 rfl 1 rfl ?_
  refine z_callVI (n := 1) hX (c_X7_isOne M.2.1 V hX.2.2.2.2.2 hs x1 σ) gX7_first_X7_isOne rfl (by decide +kernel) ⟨by decide, by decide⟩ rfl rfl (z_mod0 hs) rfl rfl rfl rfl (Nat.le_of_ble_eq_true rfl) dX7_first_2 (fun r1 _ => ?_)
  refine z_if_ne (tgt := 10) hX dX7_first_5 (by decide) ?_ ?_
  · refine z_aload_n hX dX7_first_10 rfl 0 rfl ?_
    refine z_callVV (n := 0) hX (c_X7_starts M.2.1 V hX.2.2.2.2.2 hs r1.2) gX7_first_X7_starts rfl (by decide +kernel) ⟨by decide, by decide⟩ rfl rfl (z_mod0 hs) rfl rfl rfl rfl (Nat.le_of_ble_eq_true rfl) dX7_first_11 (fun r2 _ => ?_)
    refine z_iconst (v := 0) hX dX7_first_14 (by decide) ?_
    refine z_istore_n (lv' := [(2, .int (0 : Int32)), (0, .ref (z_ad V 0)), (1, .int x1)]) hX dX7_first_15 rfl (by decide) rfl ?_
    refine z_sub [1, 2, 0] rfl ?_
    exact w_X7_first_16 M V hs hX 200 x1 (0 : Int32) r2.2
  · refine z_iconst (v := -1) hX dX7_first_8 (by decide) ?_
    exact z_iret hX dX7_first_9

abbrev rm_X7_modest : Room := { frames := 3, cells := 0, slots := 0, locals := 72 }
theorem in_X7_modest_X7 : ∀ w ∈ wsX70, w ∈ wsX7_modest := fun w h => List.mem_cons_of_mem _ (List.mem_append_right _ h)
theorem lk_X7_modest_f192 : Cond.fieldLink RX7 192 (TX7 32).1 (TX7 32).2.1 (TX7 32).2.2.1 ∈ wsX7_modest := by decide +kernel
set_option maxHeartbeats 4000000 in
set_option maxRecDepth 100000 in
theorem w_X7_modest_8 (M : z_M) (V : z_V) (hs : z_isM V) (hX : z_Cx M V cX7_modest 3 (some .int) wsX7_modest RX7) : ∀ (n : Nat) (x1 : Int32) (x2 : Int32) (σ : z_St), z_Go M rm_X7_modest 3 V (z_QI V) σ 8 [(0, .ref (z_ad V 0)), (1, .int x1), (2, .int x2)] [] (f_X7_modest_8 n x1 x2 σ) := by
  intro n
  induction n with
  | zero => intro x1 x2 σ; exact z_none
  | succ n ih =>
    intro x1 x2 σ
    rw [f_X7_modest_8]
    refine z_iload_n hX dX7_modest_8 rfl 2 rfl ?_
    refine z_bipush (v := 10) hX dX7_modest_9 (by decide) ?_
    refine z_icmp_ge (tgt := 42) hX dX7_modest_11 (by decide) ?_ ?_
    · refine z_iload_n hX dX7_modest_42 rfl 1 rfl ?_
      exact z_iret hX dX7_modest_43
    · refine z_aload_n hX dX7_modest_14 rfl 0 rfl ?_
      refine z_callVV (n := 0) hX (c_X7_weekGoes M.2.1 V hX.2.2.2.2.2 hs σ) gX7_modest_X7_weekGoes rfl (by decide +kernel) ⟨by decide, by decide⟩ rfl rfl (z_mod0 hs) rfl rfl rfl rfl (Nat.le_of_ble_eq_true rfl) dX7_modest_15 (fun r2 _ => ?_)
      refine z_iload_n hX dX7_modest_18 rfl 1 rfl ?_
      refine z_aload_n hX dX7_modest_19 rfl 0 rfl ?_
      refine z_getI (k := 32) hX (z_mod0 hs) rfl rfl in_X7_modest_X7 (by decide) lk_X7_modest_f192 dX7_modest_20 ?_
      refine z_if_ne (tgt := 30) hX dX7_modest_23 (by decide) ?_ ?_
      · refine z_iconst (v := 0) hX dX7_modest_30 (by decide) ?_
        refine z_callSI (n := 1) hX (c_X7_flag M.2.1 V hX.2.2.2.2.2 hs (0 : Int32) r2.2) gX7_modest_X7_flag rfl (by decide +kernel) ⟨by decide, by decide⟩ rfl rfl rfl rfl (Nat.le_of_ble_eq_true rfl) dX7_modest_31 (fun r3 _ => ?_)
        refine z_iadd hX dX7_modest_34 ?_
        refine z_istore_n (lv' := [(1, .int (x1 + r3.1)), (0, .ref (z_ad V 0)), (2, .int x2)]) hX dX7_modest_35 rfl (by decide) rfl ?_
        refine z_iinc (v := (x2 + 1)) (lv' := [(2, .int (x2 + 1)), (1, .int (x1 + r3.1)), (0, .ref (z_ad V 0))]) hX dX7_modest_36 2 rfl rfl (by decide) rfl ?_
        refine z_goto (tgt := 8) hX dX7_modest_39 (by decide) ?_
        refine z_sub [2, 1, 0] rfl ?_
        exact ih (x1 + r3.1) (x2 + 1) r3.2
      · refine z_iconst (v := 1) hX dX7_modest_26 (by decide) ?_
        refine z_goto (tgt := 31) hX dX7_modest_27 (by decide) ?_
        refine z_callSI (n := 1) hX (c_X7_flag M.2.1 V hX.2.2.2.2.2 hs (1 : Int32) r2.2) gX7_modest_X7_flag rfl (by decide +kernel) ⟨by decide, by decide⟩ rfl rfl rfl rfl (Nat.le_of_ble_eq_true rfl) dX7_modest_31 (fun r4 _ => ?_)
        refine z_iadd hX dX7_modest_34 ?_
        refine z_istore_n (lv' := [(1, .int (x1 + r4.1)), (0, .ref (z_ad V 0)), (2, .int x2)]) hX dX7_modest_35 rfl (by decide) rfl ?_
        refine z_iinc (v := (x2 + 1)) (lv' := [(2, .int (x2 + 1)), (1, .int (x1 + r4.1)), (0, .ref (z_ad V 0))]) hX dX7_modest_36 2 rfl rfl (by decide) rfl ?_
        refine z_goto (tgt := 8) hX dX7_modest_39 (by decide) ?_
        refine z_sub [2, 1, 0] rfl ?_
        exact ih (x1 + r4.1) (x2 + 1) r4.2
set_option maxHeartbeats 4000000 in
set_option maxRecDepth 100000 in
theorem c_X7_modest (l : Launch) (V : z_V) (hV : z_ok V) (hs : z_isM V) (σ : z_St) : z_CtI l V yX7_modest wsX7_modest rm_X7_modest [.ref (z_ad V 0)] σ (f_X7_modest σ) := by
  refine z_startI (lv := [(0, .ref (z_ad V 0))]) hV (by decide) rfl (Nat.le_of_ble_eq_true rfl) rfl ?_
  intro M hM hX
  have hX : z_Cx M V cX7_modest 3 (some .int) wsX7_modest RX7 := hX
  unfold f_X7_modest
  refine z_iconst (v := 0) hX dX7_modest_0 (by decide) ?_
  refine z_istore_n (lv' := [(1, .int (0 : Int32)), (0, .ref (z_ad V 0))]) hX dX7_modest_1 rfl (by decide) rfl ?_
  refine z_aload_n hX dX7_modest_2 rfl 1 rfl ?_
  refine z_callVV (n := 0) hX (c_X7_starts M.2.1 V hX.2.2.2.2.2 hs σ) gX7_modest_X7_starts rfl (by decide +kernel) ⟨by decide, by decide⟩ rfl rfl (z_mod0 hs) rfl rfl rfl rfl (Nat.le_of_ble_eq_true rfl) dX7_modest_3 (fun r1 _ => ?_)
  refine z_iconst (v := 0) hX dX7_modest_6 (by decide) ?_
  refine z_istore_n (lv' := [(2, .int (0 : Int32)), (1, .int (0 : Int32)), (0, .ref (z_ad V 0))]) hX dX7_modest_7 rfl (by decide) rfl ?_
  refine z_sub [2, 1, 0] rfl ?_
  exact w_X7_modest_8 M V hs hX 200 (0 : Int32) (0 : Int32) r1.2

abbrev rm_X7_isPlan : Room := { frames := 0, cells := 0, slots := 0, locals := 0 }
theorem in_X7_isPlan_X7 : ∀ w ∈ wsX70, w ∈ wsX7_isPlan := fun w h => List.mem_cons_of_mem _ (List.mem_append_right _ h)
theorem lk_X7_isPlan_f102 : Cond.fieldLink RX7 102 (TX7 4).1 (TX7 4).2.1 (TX7 4).2.2.1 ∈ wsX7_isPlan := by decide +kernel
theorem lk_X7_isPlan_f23 : Cond.fieldLink RX7 23 (TX7 7).1 (TX7 7).2.1 (TX7 7).2.2.1 ∈ wsX7_isPlan := by decide +kernel
theorem lk_X7_isPlan_f7 : Cond.fieldLink RX7 7 (TX7 0).1 (TX7 0).2.1 (TX7 0).2.2.1 ∈ wsX7_isPlan := by decide +kernel
set_option maxHeartbeats 4000000 in
set_option maxRecDepth 100000 in
theorem w_X7_isPlan_4 (M : z_M) (V : z_V) (hs : z_isM V) (hX : z_Cx M V cX7_isPlan 4 (some .boolean) wsX7_isPlan RX7) : ∀ (n : Nat) (x1 : Int32) (x2 : Int32) (x3 : Int32) (σ : z_St), z_Go M rm_X7_isPlan 4 V (z_QI V) σ 4 [(0, .ref (z_ad V 0)), (1, .int x1), (2, .int x2), (3, .int x3)] [] (f_X7_isPlan_4 n x1 x2 x3 σ) := by
  intro n
  induction n with
  | zero => intro x1 x2 x3 σ; exact z_none
  | succ n ih =>
    intro x1 x2 x3 σ
    rw [f_X7_isPlan_4]
    refine z_iload_n hX dX7_isPlan_4 rfl 3 rfl ?_
    refine z_aload_n hX dX7_isPlan_5 rfl 0 rfl ?_
    refine z_getI (k := 4) hX (z_mod0 hs) rfl rfl in_X7_isPlan_X7 (by decide) lk_X7_isPlan_f102 dX7_isPlan_6 ?_
    refine z_icmp_ge (tgt := 63) hX dX7_isPlan_9 (by decide) ?_ ?_
    · refine z_iload_n hX dX7_isPlan_63 rfl 2 rfl ?_
      exact z_zretv hX dX7_isPlan_64
    · refine z_iload_n hX dX7_isPlan_12 rfl 2 rfl ?_
      refine z_if_eq (tgt := 55) hX dX7_isPlan_13 (by decide) ?_ ?_
      · refine z_iconst (v := 0) hX dX7_isPlan_55 (by decide) ?_
        refine z_istore_n (lv' := [(2, .int (0 : Int32)), (0, .ref (z_ad V 0)), (1, .int x1), (3, .int x3)]) hX dX7_isPlan_56 rfl (by decide) rfl ?_
        refine z_iinc (v := (x3 + 1)) (lv' := [(3, .int (x3 + 1)), (2, .int (0 : Int32)), (0, .ref (z_ad V 0)), (1, .int x1)]) hX dX7_isPlan_57 3 rfl rfl (by decide) rfl ?_
        refine z_goto (tgt := 4) hX dX7_isPlan_60 (by decide) ?_
        refine z_sub [2, 3, 1, 0] rfl ?_
        exact ih x1 (0 : Int32) (x3 + 1) σ
      · refine z_aload_n hX dX7_isPlan_16 rfl 0 rfl ?_
        refine z_getR (k := 7) hX (z_mod0 hs) rfl rfl in_X7_isPlan_X7 (by decide) lk_X7_isPlan_f23 dX7_isPlan_17 ?_
        refine z_iload_n hX dX7_isPlan_20 rfl 3 rfl ?_
        refine z_iald hX (z_mod5 hs) dX7_isPlan_21 ?_
        refine z_aload_n hX dX7_isPlan_22 rfl 0 rfl ?_
        refine z_getR (k := 0) hX (z_mod0 hs) rfl rfl in_X7_isPlan_X7 (by decide) lk_X7_isPlan_f7 dX7_isPlan_23 ?_
        refine z_bipush (v := 25) hX dX7_isPlan_26 (by decide) ?_
        refine z_ialdc (j := 25) hX (z_mod1 hs) (by decide) dX7_isPlan_28 ?_
        refine z_icmp_ge (tgt := 51) hX dX7_isPlan_29 (by decide) ?_ ?_
        · refine z_iconst (v := 1) hX dX7_isPlan_51 (by decide) ?_
          refine z_goto (tgt := 56) hX dX7_isPlan_52 (by decide) ?_
          refine z_istore_n (lv' := [(2, .int (1 : Int32)), (0, .ref (z_ad V 0)), (1, .int x1), (3, .int x3)]) hX dX7_isPlan_56 rfl (by decide) rfl ?_
          refine z_iinc (v := (x3 + 1)) (lv' := [(3, .int (x3 + 1)), (2, .int (1 : Int32)), (0, .ref (z_ad V 0)), (1, .int x1)]) hX dX7_isPlan_57 3 rfl rfl (by decide) rfl ?_
          refine z_goto (tgt := 4) hX dX7_isPlan_60 (by decide) ?_
          refine z_sub [2, 3, 1, 0] rfl ?_
          exact ih x1 (1 : Int32) (x3 + 1) σ
        · refine z_iload_n hX dX7_isPlan_32 rfl 1 rfl ?_
          refine z_iload_n hX dX7_isPlan_33 rfl 3 rfl ?_
          refine z_ishr hX dX7_isPlan_34 ?_
          refine z_iconst (v := 1) hX dX7_isPlan_35 (by decide) ?_
          refine z_iand hX dX7_isPlan_36 ?_
          refine z_aload_n hX dX7_isPlan_37 rfl 0 rfl ?_
          refine z_getR (k := 0) hX (z_mod0 hs) rfl rfl in_X7_isPlan_X7 (by decide) lk_X7_isPlan_f7 dX7_isPlan_38 ?_
          refine z_bipush (v := 22) hX dX7_isPlan_41 (by decide) ?_
          refine z_ialdc (j := 22) hX (z_mod1 hs) (by decide) dX7_isPlan_43 ?_
          refine z_iload_n hX dX7_isPlan_44 rfl 3 rfl ?_
          refine z_ishr hX dX7_isPlan_45 ?_
          refine z_iconst (v := 1) hX dX7_isPlan_46 (by decide) ?_
          refine z_iand hX dX7_isPlan_47 ?_
          refine z_icmp_ne (tgt := 55) hX dX7_isPlan_48 (by decide) ?_ ?_
          · refine z_iconst (v := 0) hX dX7_isPlan_55 (by decide) ?_
            refine z_istore_n (lv' := [(2, .int (0 : Int32)), (0, .ref (z_ad V 0)), (1, .int x1), (3, .int x3)]) hX dX7_isPlan_56 rfl (by decide) rfl ?_
            refine z_iinc (v := (x3 + 1)) (lv' := [(3, .int (x3 + 1)), (2, .int (0 : Int32)), (0, .ref (z_ad V 0)), (1, .int x1)]) hX dX7_isPlan_57 3 rfl rfl (by decide) rfl ?_
            refine z_goto (tgt := 4) hX dX7_isPlan_60 (by decide) ?_
            refine z_sub [2, 3, 1, 0] rfl ?_
            exact ih x1 (0 : Int32) (x3 + 1) σ
          · refine z_iconst (v := 1) hX dX7_isPlan_51 (by decide) ?_
            refine z_goto (tgt := 56) hX dX7_isPlan_52 (by decide) ?_
            refine z_istore_n (lv' := [(2, .int (1 : Int32)), (0, .ref (z_ad V 0)), (1, .int x1), (3, .int x3)]) hX dX7_isPlan_56 rfl (by decide) rfl ?_
            refine z_iinc (v := (x3 + 1)) (lv' := [(3, .int (x3 + 1)), (2, .int (1 : Int32)), (0, .ref (z_ad V 0)), (1, .int x1)]) hX dX7_isPlan_57 3 rfl rfl (by decide) rfl ?_
            refine z_goto (tgt := 4) hX dX7_isPlan_60 (by decide) ?_
            refine z_sub [2, 3, 1, 0] rfl ?_
            exact ih x1 (1 : Int32) (x3 + 1) σ
set_option maxHeartbeats 4000000 in
set_option maxRecDepth 100000 in
theorem c_X7_isPlan (l : Launch) (V : z_V) (hV : z_ok V) (hs : z_isM V) (x1 : Int32) (σ : z_St) : z_CtI l V yX7_isPlan wsX7_isPlan rm_X7_isPlan [.ref (z_ad V 0), .int x1] σ (f_X7_isPlan x1 σ) := by
  refine z_startI (lv := [(0, .ref (z_ad V 0)), (1, .int x1)]) hV (by decide) rfl (Nat.le_of_ble_eq_true rfl) rfl ?_
  intro M hM hX
  have hX : z_Cx M V cX7_isPlan 4 (some .boolean) wsX7_isPlan RX7 := hX
  unfold f_X7_isPlan
  refine z_iconst (v := 1) hX dX7_isPlan_0 (by decide) ?_
  refine z_istore_n (lv' := [(2, .int (1 : Int32)), (0, .ref (z_ad V 0)), (1, .int x1)]) hX dX7_isPlan_1 rfl (by decide) rfl ?_
  refine z_iconst (v := 0) hX dX7_isPlan_2 (by decide) ?_
  refine z_istore_n (lv' := [(3, .int (0 : Int32)), (2, .int (1 : Int32)), (0, .ref (z_ad V 0)), (1, .int x1)]) hX dX7_isPlan_3 rfl (by decide) rfl ?_
  refine z_sub [2, 3, 1, 0] rfl ?_
  exact w_X7_isPlan_4 M V hs hX 200 x1 (1 : Int32) (0 : Int32) σ

abbrev rm_X7_startsBy : Room := { frames := 1, cells := 0, slots := 0, locals := 21 }
theorem in_X7_startsBy_X7 : ∀ w ∈ wsX70, w ∈ wsX7_startsBy := fun w h => List.mem_cons_of_mem _ (List.mem_append_right _ h)
theorem lk_X7_startsBy_f13 : Cond.fieldLink RX7 13 (TX7 1).1 (TX7 1).2.1 (TX7 1).2.2.1 ∈ wsX7_startsBy := by decide +kernel
set_option maxHeartbeats 4000000 in
set_option maxRecDepth 100000 in
theorem c_X7_startsBy (l : Launch) (V : z_V) (hV : z_ok V) (hs : z_isM V) (x1 : Int32) (σ : z_St) : z_CtV l V yX7_startsBy wsX7_startsBy rm_X7_startsBy [.ref (z_ad V 0), .int x1] σ (f_X7_startsBy x1 σ) := by
  refine z_startV (lv := [(0, .ref (z_ad V 0)), (1, .int x1)]) hV (by decide) rfl (Nat.le_of_ble_eq_true rfl) rfl ?_
  intro M hM hX
  have hX : z_Cx M V cX7_startsBy 2 none wsX7_startsBy RX7 := hX
  unfold f_X7_startsBy
  refine z_aload_n hX dX7_startsBy_0 rfl 0 rfl ?_
  refine z_callVV (n := 0) hX (c_X7_starts M.2.1 V hX.2.2.2.2.2 hs σ) gX7_startsBy_X7_starts rfl (by decide +kernel) ⟨by decide, by decide⟩ rfl rfl (z_mod0 hs) rfl rfl rfl rfl (Nat.le_of_ble_eq_true rfl) dX7_startsBy_1 (fun r1 _ => ?_)
  refine z_aload_n hX dX7_startsBy_4 rfl 0 rfl ?_
  refine z_getR (k := 1) hX (z_mod0 hs) rfl rfl in_X7_startsBy_X7 (by decide) lk_X7_startsBy_f13 dX7_startsBy_5 ?_
  refine z_bipush (v := 22) hX dX7_startsBy_8 (by decide) ?_
  refine z_iload_n hX dX7_startsBy_10 rfl 1 rfl ?_
  refine z_iastc (j := 22) hX (z_mod2 hs) (by decide) dX7_startsBy_11 (z_bs fun s2 => ?_)
  exact z_vret hX dX7_startsBy_12

abbrev rm_X7_plan : Room := { frames := 5, cells := 0, slots := 0, locals := 115 }
theorem in_X7_plan_X7 : ∀ w ∈ wsX70, w ∈ wsX7_plan := fun w h => List.mem_cons_of_mem _ (List.mem_append_right _ h)
theorem lk_X7_plan_f102 : Cond.fieldLink RX7 102 (TX7 4).1 (TX7 4).2.1 (TX7 4).2.2.1 ∈ wsX7_plan := by decide +kernel
set_option maxHeartbeats 4000000 in
set_option maxRecDepth 100000 in
theorem c_X7_plan (l : Launch) (V : z_V) (hV : z_ok V) (hs : z_isM V) (x1 : Int32) (σ : z_St) : z_CtI l V yX7_plan wsX7_plan rm_X7_plan [.ref (z_ad V 0), .int x1] σ (f_X7_plan x1 σ) := by
  refine z_startI (lv := [(0, .ref (z_ad V 0)), (1, .int x1)]) hV (by decide) rfl (Nat.le_of_ble_eq_true rfl) rfl ?_
  intro M hM hX
  have hX : z_Cx M V cX7_plan 2 (some .int) wsX7_plan RX7 := hX
  unfold f_X7_plan
  refine z_iload_n hX dX7_plan_0 rfl 1 rfl ?_
  refine z_i2l hX dX7_plan_1 ?_
  refine z_lconst (v := 0) hX dX7_plan_2 (by decide) ?_
  refine z_iconst (v := 1) hX dX7_plan_3 (by decide) ?_
  refine z_aload_n hX dX7_plan_4 rfl 0 rfl ?_
  refine z_getI (k := 4) hX (z_mod0 hs) rfl rfl in_X7_plan_X7 (by decide) lk_X7_plan_f102 dX7_plan_5 ?_
  refine z_ishl hX dX7_plan_8 ?_
  refine z_iconst (v := 1) hX dX7_plan_9 (by decide) ?_
  refine z_isub hX dX7_plan_10 ?_
  refine z_i2l hX dX7_plan_11 ?_
  refine z_callSI (n := 3) hX (c_X7_in M.2.1 V hX.2.2.2.2.2 hs x1.toInt64 (0 : Int64) (((1 : Int32) <<< ((σ 0 4) &&& 31)) - (1 : Int32)).toInt64 σ) gX7_plan_X7_in rfl (by decide +kernel) ⟨by decide, by decide⟩ rfl rfl rfl rfl (Nat.le_of_ble_eq_true rfl) dX7_plan_12 (fun r1 _ => ?_)
  refine z_if_ne (tgt := 20) hX dX7_plan_15 (by decide) ?_ ?_
  · refine z_aload_n hX dX7_plan_20 rfl 0 rfl ?_
    refine z_iload_n hX dX7_plan_21 rfl 1 rfl ?_
    refine z_callVI (n := 1) hX (c_X7_isPlan M.2.1 V hX.2.2.2.2.2 hs x1 r1.2) gX7_plan_X7_isPlan rfl (by decide +kernel) ⟨by decide, by decide⟩ rfl rfl (z_mod0 hs) rfl rfl rfl rfl (Nat.le_of_ble_eq_true rfl) dX7_plan_22 (fun r2 _ => ?_)
    refine z_if_ne (tgt := 31) hX dX7_plan_25 (by decide) ?_ ?_
    · refine z_aload_n hX dX7_plan_31 rfl 0 rfl ?_
      refine z_iload_n hX dX7_plan_32 rfl 1 rfl ?_
      refine z_callVV (n := 1) hX (c_X7_startsBy M.2.1 V hX.2.2.2.2.2 hs x1 r2.2) gX7_plan_X7_startsBy rfl (by decide +kernel) ⟨by decide, by decide⟩ rfl rfl (z_mod0 hs) rfl rfl rfl rfl (Nat.le_of_ble_eq_true rfl) dX7_plan_33 (fun r3 _ => ?_)
      refine z_aload_n hX dX7_plan_36 rfl 0 rfl ?_
      refine z_aload_n hX dX7_plan_37 rfl 0 rfl ?_
      refine z_callVI (n := 0) hX (c_X7_weeksLeft M.2.1 V hX.2.2.2.2.2 hs r3.2) gX7_plan_X7_weeksLeft rfl (by decide +kernel) ⟨by decide, by decide⟩ rfl rfl (z_mod0 hs) rfl rfl rfl rfl (Nat.le_of_ble_eq_true rfl) dX7_plan_38 (fun r4 _ => ?_)
      refine z_callVI (n := 1) hX (c_X7_brazenIn M.2.1 V hX.2.2.2.2.2 hs r4.1 r4.2) gX7_plan_X7_brazenIn rfl (by decide +kernel) ⟨by decide, by decide⟩ rfl rfl (z_mod0 hs) rfl rfl rfl rfl (Nat.le_of_ble_eq_true rfl) dX7_plan_41 (fun r5 _ => ?_)
      exact z_iret hX dX7_plan_44
    · refine z_bipush (v := -2) hX dX7_plan_28 (by decide) ?_
      exact z_iret hX dX7_plan_30
  · refine z_iconst (v := -1) hX dX7_plan_18 (by decide) ?_
    exact z_iret hX dX7_plan_19

abbrev rm_X7_bitsOf : Room := { frames := 0, cells := 0, slots := 0, locals := 0 }
set_option maxHeartbeats 4000000 in
set_option maxRecDepth 100000 in
theorem w_X7_bitsOf_4 (M : z_M) (V : z_V) (hs : z_isM V) (hX : z_Cx M V cX7_bitsOf 3 (some .int) wsX7_bitsOf RX7) : ∀ (n : Nat) (x0 : Int32) (x1 : Int32) (x2 : Int32) (σ : z_St), z_Go M rm_X7_bitsOf 3 V (z_QI V) σ 4 [(0, .int x0), (1, .int x1), (2, .int x2)] [] (f_X7_bitsOf_4 n x0 x1 x2 σ) := by
  intro n
  induction n with
  | zero => intro x0 x1 x2 σ; exact z_none
  | succ n ih =>
    intro x0 x1 x2 σ
    rw [f_X7_bitsOf_4]
    refine z_iload_n hX dX7_bitsOf_4 rfl 2 rfl ?_
    refine z_bipush (v := 6) hX dX7_bitsOf_5 (by decide) ?_
    refine z_icmp_ge (tgt := 24) hX dX7_bitsOf_7 (by decide) ?_ ?_
    · refine z_iload_n hX dX7_bitsOf_24 rfl 1 rfl ?_
      exact z_iret hX dX7_bitsOf_25
    · refine z_iload_n hX dX7_bitsOf_10 rfl 1 rfl ?_
      refine z_iload_n hX dX7_bitsOf_11 rfl 0 rfl ?_
      refine z_iload_n hX dX7_bitsOf_12 rfl 2 rfl ?_
      refine z_ishr hX dX7_bitsOf_13 ?_
      refine z_iconst (v := 1) hX dX7_bitsOf_14 (by decide) ?_
      refine z_iand hX dX7_bitsOf_15 ?_
      refine z_iadd hX dX7_bitsOf_16 ?_
      refine z_top (fun v1 => ?_)
      refine z_istore_n (lv' := [(1, .int v1), (0, .int x0), (2, .int x2)]) hX dX7_bitsOf_17 rfl (by decide) rfl ?_
      refine z_iinc (v := (x2 + 1)) (lv' := [(2, .int (x2 + 1)), (1, .int v1), (0, .int x0)]) hX dX7_bitsOf_18 2 rfl rfl (by decide) rfl ?_
      refine z_goto (tgt := 4) hX dX7_bitsOf_21 (by decide) ?_
      refine z_sub [2, 1, 0] rfl ?_
      exact ih x0 v1 (x2 + 1) σ
set_option maxHeartbeats 4000000 in
set_option maxRecDepth 100000 in
theorem c_X7_bitsOf (l : Launch) (V : z_V) (hV : z_ok V) (hs : z_isM V) (x0 : Int32) (σ : z_St) : z_CtI l V yX7_bitsOf wsX7_bitsOf rm_X7_bitsOf [.int x0] σ (f_X7_bitsOf x0 σ) := by
  refine z_startI (lv := [(0, .int x0)]) hV (by decide) rfl (Nat.le_of_ble_eq_true rfl) rfl ?_
  intro M hM hX
  have hX : z_Cx M V cX7_bitsOf 3 (some .int) wsX7_bitsOf RX7 := hX
  unfold f_X7_bitsOf
  refine z_iconst (v := 0) hX dX7_bitsOf_0 (by decide) ?_
  refine z_istore_n (lv' := [(1, .int (0 : Int32)), (0, .int x0)]) hX dX7_bitsOf_1 rfl (by decide) rfl ?_
  refine z_iconst (v := 0) hX dX7_bitsOf_2 (by decide) ?_
  refine z_istore_n (lv' := [(2, .int (0 : Int32)), (1, .int (0 : Int32)), (0, .int x0)]) hX dX7_bitsOf_3 rfl (by decide) rfl ?_
  refine z_sub [2, 1, 0] rfl ?_
  exact w_X7_bitsOf_4 M V hs hX 200 x0 (0 : Int32) (0 : Int32) σ
