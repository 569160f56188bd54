/-! ===== the class's own world at its start ===== -/
def y_zr : Nat → Int32 := fun _ => 0
def y_lr : Nat → Int32 := fun k => [0, 0, 0, 0, 0, 0, 0, 1, 20, 0, 0].getD k 0
def y_sr : Nat → Int32 := fun k => [-1, 0, 0].getD k 0
def y_rx : List (Nat → Int32) := [y_zr, y_zr, y_zr, y_zr, y_zr, y_zr, y_zr, y_zr, y_zr, y_zr, y_zr, y_lr, y_zr, y_zr, y_zr, y_zr, y_zr, y_lr, y_zr, y_zr, y_zr, y_zr, y_zr, y_zr, y_zr, y_zr, y_zr, y_zr, y_zr, y_zr, y_zr, y_zr, y_zr, y_zr, y_zr, y_zr, y_zr, y_lr, y_zr, y_zr, y_zr, y_zr, y_zr, y_zr, y_lr, y_zr, y_zr, y_zr, y_zr, y_zr, y_zr, y_zr, y_zr, y_zr, y_zr, y_lr, y_zr, y_zr, y_zr, y_zr, y_zr, y_zr, y_zr, y_zr, y_zr, y_sr, y_zr, y_sr, y_zr, y_sr, y_zr, y_sr, y_zr]
def y_x0 : z_St := fun c => y_rx.getD c y_zr
def y_ad (L : List Nat) (g : Nat → Nat) : Nat → Nat := fun c => L.getD c (g (c - 1000))
theorem y_ad_st (L : List Nat) (g : Nat → Nat) (hL : L.length ≤ 1000) (i : Nat) : y_ad L g (1000 + i) = g i := by
  unfold y_ad
  rw [List.getD_eq_getElem?_getD, List.getElem?_eq_none (by omega), Option.getD_none, Nat.add_sub_cancel_left]
/-- the world, cell by cell -/
def y_mk (cy : Nat → ClassId) (ad : Nat → Nat) (σ : z_St) : Nat → List z_Sh → va_W
  | _, [] => []
  | c, sh :: r => (ad c, z_en cy ad sh (σ c)) :: y_mk cy ad σ (c + 1) r
theorem y_mk_get (cy : Nat → ClassId) (ad : Nat → Nat) (σ : z_St) : ∀ (l : List z_Sh) (c i : Nat), (y_mk cy ad σ c l)[i]? = (l[i]?).map (fun sh => (ad (c + i), z_en cy ad sh (σ (c + i))))
  | [], c, i => by simp [y_mk]
  | sh :: r, c, 0 => by simp [y_mk]
  | sh :: r, c, i + 1 => by
    rw [y_mk, List.getElem?_cons_succ, List.getElem?_cons_succ, y_mk_get cy ad σ r (c + 1) i, show c + 1 + i = c + (i + 1) by omega]
theorem y_mk_W (V : z_V) (σ : z_St) : z_W V σ = y_mk V.2.1 (z_ad V) σ 0 (z_sh V) := by
  apply List.ext_getElem?
  intro i
  rw [y_mk_get, z_W, List.getElem?_mapIdx, Nat.zero_add]
theorem y_flat {α : Type} (f : Nat → Option α) : ∀ (is : List Nat) (l : List α), is.map f = l.map some → is.filterMap f = l
  | [], [], _ => rfl
  | [], b :: l, h => by simp at h
  | i :: is, [], h => by simp at h
  | i :: is, b :: l, h => by
    rw [List.map_cons, List.map_cons] at h
    injection h with h1 h2
    rw [List.filterMap_cons, h1, y_flat f is l h2]
theorem y_sel {N : y_N} {ws ws' : va_W} {cells slots pc : Nat} {lv : List (Nat × Value)} {st : List Value} (is : List Nat) (hn : va_nd is = true) (hs : is.map (fun i => ws[i]?) = ws'.map some) (kk : y_Go N ws' cells slots pc lv st) : y_Go N ws cells slots pc lv st := fun ls H locs hl hP hD hS => kk ls H locs hl (hP.sub is (y_flat _ is ws' hs)) (hD.sub is hn hs) hS
theorem y_q2 (ad : Nat → Nat) : va_up (va_up (fun _ => none) 0 (some (ad 43))) 1 (some (ad 54)) = fun k => (([43, 54] : List Nat)[k]?).map ad := by
  funext k
  match k with
  | 0 => rfl
  | 1 => rfl
  | k + 2 => simp [va_up]
theorem y_q4 (ad : Nat → Nat) : va_up (va_up (va_up (va_up (fun _ => none) 0 (some (ad 65))) 1 (some (ad 67))) 2 (some (ad 69))) 3 (some (ad 71)) = fun k => (([65, 67, 69, 71] : List Nat)[k]?).map ad := by
  funext k
  match k with
  | 0 => rfl
  | 1 => rfl
  | 2 => rfl
  | 3 => rfl
  | k + 4 => simp [va_up]
abbrev rm_X6_init : Room := { frames := 3, cells := 72, slots := 683, locals := 52 }
def fs0X6 : List Value := [.null, .null, .null, .null, .null, .null, .null, .null, .int 0]
theorem fs0X6_ok : ∀ j, j < 9 → defaultValue (tyX6 j) = vp_V fs0X6 j := fun j hj => by
  rcases (show j = 0 ∨ j = 1 ∨ j = 2 ∨ j = 3 ∨ j = 4 ∨ j = 5 ∨ j = 6 ∨ j = 7 ∨ j = 8 by omega) with rfl | rfl | rfl | rfl | rfl | rfl | rfl | rfl | rfl <;> rfl
theorem in_X6_init_X0 : ∀ w ∈ wsX00, w ∈ wsX6_init := fun w h => List.mem_cons_of_mem _ (List.mem_append_left _ (List.mem_append_right _ h))
theorem in_X6_init_X1 : ∀ w ∈ wsX10, w ∈ wsX6_init := fun w h => List.mem_cons_of_mem _ (List.mem_append_left _ (List.mem_append_left _ (List.mem_append_left _ (List.mem_append_right _ h))))
theorem in_X6_init_X2 : ∀ w ∈ wsX20, w ∈ wsX6_init := fun w h => List.mem_cons_of_mem _ (List.mem_append_left _ (List.mem_append_left _ (List.mem_append_right _ h)))
theorem in_X6_init_X3 : ∀ w ∈ wsX30, w ∈ wsX6_init := fun w h => List.mem_cons_of_mem _ (List.mem_append_left _ (List.mem_append_left _ (List.mem_append_left _ (List.mem_append_left _ (List.mem_append_left _ (List.mem_append_left _ (List.mem_append_right _ h)))))))
theorem in_X6_init_X4 : ∀ w ∈ wsX40, w ∈ wsX6_init := fun w h => List.mem_cons_of_mem _ (List.mem_append_right _ h)
theorem in_X6_init_X5 : ∀ w ∈ wsX50, w ∈ wsX6_init := fun w h => List.mem_cons_of_mem _ (List.mem_append_left _ (List.mem_append_left _ (List.mem_append_left _ (List.mem_append_left _ (List.mem_append_right _ h)))))
theorem in_X6_init_X6 : ∀ w ∈ wsX60, w ∈ wsX6_init := fun w h => List.mem_cons_of_mem _ (List.mem_append_left _ (List.mem_append_left _ (List.mem_append_left _ (List.mem_append_left _ (List.mem_append_left _ (List.mem_append_right _ h))))))
theorem lk_X6_init_o1 : Cond.methodLink RX6 1 objectInit ∈ wsX6_init := by decide +kernel
theorem lk_X6_init_o2 : Cond.instanceMethod objectInit ∈ wsX6_init := by decide +kernel
theorem lk_X6_init_o3 : Cond.code objectInit ⟨#[0xb1]⟩ 1 none ∈ wsX6_init := by decide +kernel
theorem lk_X6_init_c7 : Cond.classLink RX6 7 RX3 ∈ wsX6_init := by decide +kernel
theorem lk_X6_init_nX3 : Cond.instantiable RX3 12 ∈ wsX6_init := by decide +kernel
theorem lk_X6_init_iX3 : Cond.initialized RX3 ∈ wsX6_init := by decide +kernel
theorem lk_X6_init_mX3 : Cond.instanceMethod yX3_init ∈ wsX6_init := by decide +kernel
theorem lk_X6_init_f10 : Cond.fieldLink RX6 10 (TX6 0).1 (TX6 0).2.1 (TX6 0).2.2.1 ∈ wsX6_init := by decide +kernel
theorem lk_X6_init_c16 : Cond.classLink RX6 16 RX5 ∈ wsX6_init := by decide +kernel
theorem lk_X6_init_nX5 : Cond.instantiable RX5 8 ∈ wsX6_init := by decide +kernel
theorem lk_X6_init_iX5 : Cond.initialized RX5 ∈ wsX6_init := by decide +kernel
theorem lk_X6_init_mX5 : Cond.instanceMethod yX5_init ∈ wsX6_init := by decide +kernel
theorem lk_X6_init_f19 : Cond.fieldLink RX6 19 (TX6 1).1 (TX6 1).2.1 (TX6 1).2.2.1 ∈ wsX6_init := by decide +kernel
theorem lk_X6_init_c23 : Cond.classLink RX6 23 RX1 ∈ wsX6_init := by decide +kernel
theorem lk_X6_init_nX1 : Cond.instantiable RX1 11 ∈ wsX6_init := by decide +kernel
theorem lk_X6_init_iX1 : Cond.initialized RX1 ∈ wsX6_init := by decide +kernel
theorem lk_X6_init_mX1 : Cond.instanceMethod yX1_init ∈ wsX6_init := by decide +kernel
theorem lk_X6_init_f26 : Cond.fieldLink RX6 26 (TX6 2).1 (TX6 2).2.1 (TX6 2).2.2.1 ∈ wsX6_init := by decide +kernel
theorem lk_X6_init_c30 : Cond.classLink RX6 30 RX2 ∈ wsX6_init := by decide +kernel
theorem lk_X6_init_nX2 : Cond.instantiable RX2 4 ∈ wsX6_init := by decide +kernel
theorem lk_X6_init_iX2 : Cond.initialized RX2 ∈ wsX6_init := by decide +kernel
theorem lk_X6_init_mX2 : Cond.instanceMethod yX2_init ∈ wsX6_init := by decide +kernel
theorem lk_X6_init_f33 : Cond.fieldLink RX6 33 (TX6 3).1 (TX6 3).2.1 (TX6 3).2.2.1 ∈ wsX6_init := by decide +kernel
theorem lk_X6_init_f37 : Cond.fieldLink RX6 37 (TX6 4).1 (TX6 4).2.1 (TX6 4).2.2.1 ∈ wsX6_init := by decide +kernel
theorem lk_X6_init_a0 : Cond.arrayClass .int ∈ wsX6_init := by decide +kernel
theorem lk_X6_init_f40 : Cond.fieldLink RX6 40 (TX6 5).1 (TX6 5).2.1 (TX6 5).2.2.1 ∈ wsX6_init := by decide +kernel
theorem lk_X6_init_c44 : Cond.classLink RX6 44 RX0 ∈ wsX6_init := by decide +kernel
theorem lk_X6_init_f46 : Cond.fieldLink RX6 46 (TX6 6).1 (TX6 6).2.1 (TX6 6).2.2.1 ∈ wsX6_init := by decide +kernel
theorem lk_X6_init_c50 : Cond.classLink RX6 50 RX4 ∈ wsX6_init := by decide +kernel
theorem lk_X6_init_f52 : Cond.fieldLink RX6 52 (TX6 7).1 (TX6 7).2.1 (TX6 7).2.2.1 ∈ wsX6_init := by decide +kernel
theorem lk_X6_init_nX0 : Cond.instantiable RX0 3 ∈ wsX6_init := by decide +kernel
theorem lk_X6_init_iX0 : Cond.initialized RX0 ∈ wsX6_init := by decide +kernel
theorem lk_X6_init_mX0 : Cond.instanceMethod yX0_init ∈ wsX6_init := by decide +kernel
theorem lk_X6_init_nX4 : Cond.instantiable RX4 3 ∈ wsX6_init := by decide +kernel
theorem lk_X6_init_iX4 : Cond.initialized RX4 ∈ wsX6_init := by decide +kernel
theorem lk_X6_init_mX4 : Cond.instanceMethod yX4_init ∈ wsX6_init := by decide +kernel
set_option maxHeartbeats 4000000 in
set_option maxRecDepth 100000 in
theorem yc_X6 (l : Launch) (D : va_G) (cy : Nat → ClassId) (g : Nat → Nat) : y_Ct l D (y_tys cy) y_EX yX6_init wsX6_init rm_X6_init 6 72 683 fs0X6 (fun h u => ∃ ad : Nat → Nat, ad 0 = h ∧ (∀ i, ad (1000 + i) = g i) ∧ u = z_W (D, cy, ad, z_shX, fun _ => True) y_x0) := by
  refine y_start (by decide) rfl (by decide) rfl ?_
  intro p e s m args below meth c h0 hr hlo hE X
  have X : y_Cx _ cX6_init wsX6_init RX6 (y_tys cy) := X
  refine y_aload X dX6_init_0 rfl 0 rfl ?_
  refine y_obj X lk_X6_init_o1 lk_X6_init_o2 lk_X6_init_o3 dX6_init_1 (by decide) (Nat.le_of_ble_eq_true rfl) ?_
  refine y_aload X dX6_init_4 rfl 0 rfl ?_
  refine y_sub (C := RX3) (T := TX3) (N := 12) (host := "BlushBank") X y_EX_ok hE (yc_X3 l D cy) in_X6_init_X3 tyX3 tyX3_ok lk_X6_init_c7 lk_X6_init_nX3 lk_X6_init_iX3 rfl fs0X3_ok ggX6_init_X3_init rfl (hE.1 0 _ rfl) rfl rfl lk_X6_init_mX3 (by decide +kernel) ⟨by decide, by decide⟩ rfl rfl (Nat.le_of_ble_eq_true rfl) (Nat.le_of_ble_eq_true rfl) (Nat.le_of_ble_eq_true rfl) dX6_init_5 dX6_init_8 dX6_init_9 (fun q1 u1 hu1 => ?_)
  obtain ⟨o01, b01, o11, b11, a1, rfl⟩ := hu1
  refine y_putF (ref := RX6) (C := RX6) (T := TX6) (N := 9) (ci := 6) (ws' := (h0, .inr (6, [.ref q1, .null, .null, .null, .null, .null, .null, .null, .int 0])) :: (y_scr cy q1 o01 b01 o11 b11 a1)) X in_X6_init_X6 tyX6 tyX6_ok nmX6 0 rfl rfl 0 (by decide) lk_X6_init_f10 rfl rfl rfl rfl (Nat.le_of_ble_eq_true rfl) dX6_init_12 rfl ?_
  refine y_aload X dX6_init_15 rfl 0 rfl ?_
  refine y_sub (C := RX5) (T := TX5) (N := 8) (host := "BlushBank") X y_EX_ok hE (yc_X5 l D cy) in_X6_init_X5 tyX5 tyX5_ok lk_X6_init_c16 lk_X6_init_nX5 lk_X6_init_iX5 rfl fs0X5_ok ggX6_init_X5_init rfl (hE.1 1 _ rfl) rfl rfl lk_X6_init_mX5 (by decide +kernel) ⟨by decide, by decide⟩ rfl rfl (Nat.le_of_ble_eq_true rfl) (Nat.le_of_ble_eq_true rfl) (Nat.le_of_ble_eq_true rfl) dX6_init_16 dX6_init_19 dX6_init_20 (fun q2 u2 hu2 => ?_)
  obtain ⟨a2, rfl⟩ := hu2
  refine y_putF (ref := RX6) (C := RX6) (T := TX6) (N := 9) (ci := 6) (ws' := (h0, .inr (6, [.ref q1, .ref q2, .null, .null, .null, .null, .null, .null, .int 0])) :: (y_scr cy q1 o01 b01 o11 b11 a1 ++ y_sto cy q2 a2)) X in_X6_init_X6 tyX6 tyX6_ok nmX6 0 rfl rfl 1 (by decide) lk_X6_init_f19 rfl rfl rfl rfl (Nat.le_of_ble_eq_true rfl) dX6_init_23 rfl ?_
  refine y_aload X dX6_init_26 rfl 0 rfl ?_
  refine y_sub (C := RX1) (T := TX1) (N := 11) (host := "BlushBank") X y_EX_ok hE (yc_X1 l D cy) in_X6_init_X1 tyX1 tyX1_ok lk_X6_init_c23 lk_X6_init_nX1 lk_X6_init_iX1 rfl fs0X1_ok ggX6_init_X1_init rfl (hE.1 2 _ rfl) rfl rfl lk_X6_init_mX1 (by decide +kernel) ⟨by decide, by decide⟩ rfl rfl (Nat.le_of_ble_eq_true rfl) (Nat.le_of_ble_eq_true rfl) (Nat.le_of_ble_eq_true rfl) dX6_init_27 dX6_init_30 dX6_init_31 (fun q3 u3 hu3 => ?_)
  obtain ⟨a3, rfl⟩ := hu3
  refine y_putF (ref := RX6) (C := RX6) (T := TX6) (N := 9) (ci := 6) (ws' := (h0, .inr (6, [.ref q1, .ref q2, .ref q3, .null, .null, .null, .null, .null, .int 0])) :: (y_scr cy q1 o01 b01 o11 b11 a1 ++ y_sto cy q2 a2 ++ y_led cy q3 a3)) X in_X6_init_X6 tyX6 tyX6_ok nmX6 0 rfl rfl 2 (by decide) lk_X6_init_f26 rfl rfl rfl rfl (Nat.le_of_ble_eq_true rfl) dX6_init_34 rfl ?_
  refine y_aload X dX6_init_37 rfl 0 rfl ?_
  refine y_sub (C := RX2) (T := TX2) (N := 4) (host := "BlushBank") X y_EX_ok hE (yc_X2 l D cy) in_X6_init_X2 tyX2 tyX2_ok lk_X6_init_c30 lk_X6_init_nX2 lk_X6_init_iX2 rfl fs0X2_ok ggX6_init_X2_init rfl (hE.1 3 _ rfl) rfl rfl lk_X6_init_mX2 (by decide +kernel) ⟨by decide, by decide⟩ rfl rfl (Nat.le_of_ble_eq_true rfl) (Nat.le_of_ble_eq_true rfl) (Nat.le_of_ble_eq_true rfl) dX6_init_38 dX6_init_41 dX6_init_42 (fun q4 u4 hu4 => ?_)
  obtain ⟨a4, rfl⟩ := hu4
  refine y_putF (ref := RX6) (C := RX6) (T := TX6) (N := 9) (ci := 6) (ws' := (h0, .inr (6, [.ref q1, .ref q2, .ref q3, .ref q4, .null, .null, .null, .null, .int 0])) :: (y_scr cy q1 o01 b01 o11 b11 a1 ++ y_sto cy q2 a2 ++ y_led cy q3 a3 ++ y_nts cy q4 a4)) X in_X6_init_X6 tyX6 tyX6_ok nmX6 0 rfl rfl 3 (by decide) lk_X6_init_f33 rfl rfl rfl rfl (Nat.le_of_ble_eq_true rfl) dX6_init_45 rfl ?_
  refine y_aload X dX6_init_48 rfl 0 rfl ?_
  refine y_sub (C := RX1) (T := TX1) (N := 11) (host := "BlushBank") X y_EX_ok hE (yc_X1 l D cy) in_X6_init_X1 tyX1 tyX1_ok lk_X6_init_c23 lk_X6_init_nX1 lk_X6_init_iX1 rfl fs0X1_ok ggX6_init_X1_init rfl (hE.1 2 _ rfl) rfl rfl lk_X6_init_mX1 (by decide +kernel) ⟨by decide, by decide⟩ rfl rfl (Nat.le_of_ble_eq_true rfl) (Nat.le_of_ble_eq_true rfl) (Nat.le_of_ble_eq_true rfl) dX6_init_49 dX6_init_52 dX6_init_53 (fun q5 u5 hu5 => ?_)
  obtain ⟨a5, rfl⟩ := hu5
  refine y_putF (ref := RX6) (C := RX6) (T := TX6) (N := 9) (ci := 6) (ws' := (h0, .inr (6, [.ref q1, .ref q2, .ref q3, .ref q4, .ref q5, .null, .null, .null, .int 0])) :: (y_scr cy q1 o01 b01 o11 b11 a1 ++ y_sto cy q2 a2 ++ y_led cy q3 a3 ++ y_nts cy q4 a4 ++ y_led cy q5 a5)) X in_X6_init_X6 tyX6 tyX6_ok nmX6 0 rfl rfl 4 (by decide) lk_X6_init_f37 rfl rfl rfl rfl (Nat.le_of_ble_eq_true rfl) dX6_init_56 rfl ?_
  refine y_aload X dX6_init_59 rfl 0 rfl ?_
  refine y_iconst (v := 4) X dX6_init_60 (by decide) ?_
  refine y_newa (atype := .int) (N' := 4) (a0 := (4, .inl fun _ => 0)) X 0 rfl rfl lk_X6_init_a0 (fun _ h => by cases h) (fun _ => rfl) (by decide) (by decide) (by decide) (Nat.le_of_ble_eq_true rfl) (Nat.le_of_ble_eq_true rfl) dX6_init_61 (fun q6 => ?_)
  refine y_putF (ref := RX6) (C := RX6) (T := TX6) (N := 9) (ci := 6) (ws' := (h0, .inr (6, [.ref q1, .ref q2, .ref q3, .ref q4, .ref q5, .ref q6, .null, .null, .int 0])) :: (y_scr cy q1 o01 b01 o11 b11 a1 ++ y_sto cy q2 a2 ++ y_led cy q3 a3 ++ y_nts cy q4 a4 ++ y_led cy q5 a5 ++ y_ar cy 0 4 q6)) X in_X6_init_X6 tyX6 tyX6_ok nmX6 0 rfl rfl 5 (by decide) lk_X6_init_f40 rfl rfl rfl rfl (Nat.le_of_ble_eq_true rfl) dX6_init_63 rfl ?_
  refine y_aload X dX6_init_66 rfl 0 rfl ?_
  refine y_iconst (v := 2) X dX6_init_67 (by decide) ?_
  refine y_newq (N' := 2) (C := RX0) X 3 rfl lk_X6_init_c44 hE.2.1 (by decide) (by decide) (by decide) (Nat.le_of_ble_eq_true rfl) (Nat.le_of_ble_eq_true rfl) dX6_init_68 (fun q7 => ?_)
  refine y_putF (ref := RX6) (C := RX6) (T := TX6) (N := 9) (ci := 6) (ws' := (h0, .inr (6, [.ref q1, .ref q2, .ref q3, .ref q4, .ref q5, .ref q6, .ref q7, .null, .int 0])) :: (y_scr cy q1 o01 b01 o11 b11 a1 ++ y_sto cy q2 a2 ++ y_led cy q3 a3 ++ y_nts cy q4 a4 ++ y_led cy q5 a5 ++ y_ar cy 0 4 q6 ++ y_rq (cy 3) 2 (fun _ => none) q7)) X in_X6_init_X6 tyX6 tyX6_ok nmX6 0 rfl rfl 6 (by decide) lk_X6_init_f46 rfl rfl rfl rfl (Nat.le_of_ble_eq_true rfl) dX6_init_71 rfl ?_
  refine y_aload X dX6_init_74 rfl 0 rfl ?_
  refine y_iconst (v := 4) X dX6_init_75 (by decide) ?_
  refine y_newq (N' := 4) (C := RX4) X 4 rfl lk_X6_init_c50 hE.2.2 (by decide) (by decide) (by decide) (Nat.le_of_ble_eq_true rfl) (Nat.le_of_ble_eq_true rfl) dX6_init_76 (fun q8 => ?_)
  refine y_putF (ref := RX6) (C := RX6) (T := TX6) (N := 9) (ci := 6) (ws' := (h0, .inr (6, [.ref q1, .ref q2, .ref q3, .ref q4, .ref q5, .ref q6, .ref q7, .ref q8, .int 0])) :: (y_scr cy q1 o01 b01 o11 b11 a1 ++ y_sto cy q2 a2 ++ y_led cy q3 a3 ++ y_nts cy q4 a4 ++ y_led cy q5 a5 ++ y_ar cy 0 4 q6 ++ y_rq (cy 3) 2 (fun _ => none) q7 ++ y_rq (cy 4) 4 (fun _ => none) q8)) X in_X6_init_X6 tyX6 tyX6_ok nmX6 0 rfl rfl 7 (by decide) lk_X6_init_f52 rfl rfl rfl rfl (Nat.le_of_ble_eq_true rfl) dX6_init_79 rfl ?_
  refine y_iconst (v := 0) X dX6_init_82 (by decide) ?_
  refine y_istore (lv' := [(1, .int 0), (0, .ref h0)]) X dX6_init_83 rfl (by decide) rfl ?_
  refine y_iload X dX6_init_84 rfl 0 rfl ?_
  refine y_iconst (v := 2) X dX6_init_85 (by decide) ?_
  refine y_geF (tgt := 108) X dX6_init_86 (by decide) (by decide) ?_
  refine y_aload X dX6_init_89 rfl 1 rfl ?_
  refine y_get (C := RX6) (T := TX6) (N := 9) (ci := 6) X in_X6_init_X6 0 rfl rfl 6 (by decide) lk_X6_init_f46 rfl dX6_init_90 ?_
  refine y_iload X dX6_init_93 rfl 0 rfl ?_
  refine y_sub (C := RX0) (T := TX0) (N := 3) (host := "BlushBank") X y_EX_ok hE (yc_X0 l D cy) in_X6_init_X0 tyX0 tyX0_ok lk_X6_init_c44 lk_X6_init_nX0 lk_X6_init_iX0 rfl fs0X0_ok ggX6_init_X0_init rfl (hE.1 4 _ rfl) rfl rfl lk_X6_init_mX0 (by decide +kernel) ⟨by decide, by decide⟩ rfl rfl (Nat.le_of_ble_eq_true rfl) (Nat.le_of_ble_eq_true rfl) (Nat.le_of_ble_eq_true rfl) dX6_init_94 dX6_init_97 dX6_init_98 (fun q9 u9 hu9 => ?_)
  obtain ⟨o09, b09, o19, b19, rfl⟩ := hu9
  refine y_astq (ws' := (h0, .inr (6, [.ref q1, .ref q2, .ref q3, .ref q4, .ref q5, .ref q6, .ref q7, .ref q8, .int 0])) :: (y_scr cy q1 o01 b01 o11 b11 a1 ++ y_sto cy q2 a2 ++ y_led cy q3 a3 ++ y_nts cy q4 a4 ++ y_led cy q5 a5 ++ y_ar cy 0 4 q6 ++ y_rq (cy 3) 2 (va_up (fun _ => none) 0 (some q9)) q7 ++ y_rq (cy 4) 4 (fun _ => none) q8 ++ y_img cy q9 o09 b09 o19 b19)) (r := (RX0, TX0, 3)) X 41 3 43 0 rfl rfl rfl rfl (show ¬ ((0 : Int32) < 0 ∨ 2 ≤ (0 : Int32).toNatClampNeg) by decide) dX6_init_101 rfl ?_
  refine y_iinc (v := 1) (lv' := [(1, .int 1), (0, .ref h0)]) X dX6_init_102 0 rfl (by decide) (by decide) rfl ?_
  refine y_goto (tgt := 84) X dX6_init_105 (by decide) ?_
  refine y_iload X dX6_init_84 rfl 0 rfl ?_
  refine y_iconst (v := 2) X dX6_init_85 (by decide) ?_
  refine y_geF (tgt := 108) X dX6_init_86 (by decide) (by decide) ?_
  refine y_aload X dX6_init_89 rfl 1 rfl ?_
  refine y_get (C := RX6) (T := TX6) (N := 9) (ci := 6) X in_X6_init_X6 0 rfl rfl 6 (by decide) lk_X6_init_f46 rfl dX6_init_90 ?_
  refine y_iload X dX6_init_93 rfl 0 rfl ?_
  refine y_sub (C := RX0) (T := TX0) (N := 3) (host := "BlushBank") X y_EX_ok hE (yc_X0 l D cy) in_X6_init_X0 tyX0 tyX0_ok lk_X6_init_c44 lk_X6_init_nX0 lk_X6_init_iX0 rfl fs0X0_ok ggX6_init_X0_init rfl (hE.1 4 _ rfl) rfl rfl lk_X6_init_mX0 (by decide +kernel) ⟨by decide, by decide⟩ rfl rfl (Nat.le_of_ble_eq_true rfl) (Nat.le_of_ble_eq_true rfl) (Nat.le_of_ble_eq_true rfl) dX6_init_94 dX6_init_97 dX6_init_98 (fun q10 u10 hu10 => ?_)
  obtain ⟨o010, b010, o110, b110, rfl⟩ := hu10
  refine y_astq (ws' := (h0, .inr (6, [.ref q1, .ref q2, .ref q3, .ref q4, .ref q5, .ref q6, .ref q7, .ref q8, .int 0])) :: (y_scr cy q1 o01 b01 o11 b11 a1 ++ y_sto cy q2 a2 ++ y_led cy q3 a3 ++ y_nts cy q4 a4 ++ y_led cy q5 a5 ++ y_ar cy 0 4 q6 ++ y_rq (cy 3) 2 (va_up (va_up (fun _ => none) 0 (some q9)) 1 (some q10)) q7 ++ y_rq (cy 4) 4 (fun _ => none) q8 ++ y_img cy q9 o09 b09 o19 b19 ++ y_img cy q10 o010 b010 o110 b110)) (r := (RX0, TX0, 3)) X 41 3 54 0 rfl rfl rfl rfl (show ¬ ((1 : Int32) < 0 ∨ 2 ≤ (1 : Int32).toNatClampNeg) by decide) dX6_init_101 rfl ?_
  refine y_iinc (v := 2) (lv' := [(1, .int 2), (0, .ref h0)]) X dX6_init_102 0 rfl (by decide) (by decide) rfl ?_
  refine y_goto (tgt := 84) X dX6_init_105 (by decide) ?_
  refine y_iload X dX6_init_84 rfl 0 rfl ?_
  refine y_iconst (v := 2) X dX6_init_85 (by decide) ?_
  refine y_geT (tgt := 108) X dX6_init_86 (by decide) (by decide) ?_
  refine y_iconst (v := 0) X dX6_init_108 (by decide) ?_
  refine y_istore (lv' := [(1, .int 0), (0, .ref h0)]) X dX6_init_109 rfl (by decide) rfl ?_
  refine y_iload X dX6_init_110 rfl 0 rfl ?_
  refine y_iconst (v := 4) X dX6_init_111 (by decide) ?_
  refine y_geF (tgt := 134) X dX6_init_112 (by decide) (by decide) ?_
  refine y_aload X dX6_init_115 rfl 1 rfl ?_
  refine y_get (C := RX6) (T := TX6) (N := 9) (ci := 6) X in_X6_init_X6 0 rfl rfl 7 (by decide) lk_X6_init_f52 rfl dX6_init_116 ?_
  refine y_iload X dX6_init_119 rfl 0 rfl ?_
  refine y_sub (C := RX4) (T := TX4) (N := 3) (host := "BlushBank") X y_EX_ok hE (yc_X4 l D cy) in_X6_init_X4 tyX4 tyX4_ok lk_X6_init_c50 lk_X6_init_nX4 lk_X6_init_iX4 rfl fs0X4_ok ggX6_init_X4_init rfl (hE.1 5 _ rfl) rfl rfl lk_X6_init_mX4 (by decide +kernel) ⟨by decide, by decide⟩ rfl rfl (Nat.le_of_ble_eq_true rfl) (Nat.le_of_ble_eq_true rfl) (Nat.le_of_ble_eq_true rfl) dX6_init_120 dX6_init_123 dX6_init_124 (fun q11 u11 hu11 => ?_)
  obtain ⟨a11, rfl⟩ := hu11
  refine y_astq (ws' := (h0, .inr (6, [.ref q1, .ref q2, .ref q3, .ref q4, .ref q5, .ref q6, .ref q7, .ref q8, .int 0])) :: (y_scr cy q1 o01 b01 o11 b11 a1 ++ y_sto cy q2 a2 ++ y_led cy q3 a3 ++ y_nts cy q4 a4 ++ y_led cy q5 a5 ++ y_ar cy 0 4 q6 ++ y_rq (cy 3) 2 (va_up (va_up (fun _ => none) 0 (some q9)) 1 (some q10)) q7 ++ y_rq (cy 4) 4 (va_up (fun _ => none) 0 (some q11)) q8 ++ y_img cy q9 o09 b09 o19 b19 ++ y_img cy q10 o010 b010 o110 b110 ++ y_she cy q11 a11)) (r := (RX4, TX4, 3)) X 42 4 65 4 rfl rfl rfl rfl (show ¬ ((0 : Int32) < 0 ∨ 4 ≤ (0 : Int32).toNatClampNeg) by decide) dX6_init_127 rfl ?_
  refine y_iinc (v := 1) (lv' := [(1, .int 1), (0, .ref h0)]) X dX6_init_128 0 rfl (by decide) (by decide) rfl ?_
  refine y_goto (tgt := 110) X dX6_init_131 (by decide) ?_
  refine y_iload X dX6_init_110 rfl 0 rfl ?_
  refine y_iconst (v := 4) X dX6_init_111 (by decide) ?_
  refine y_geF (tgt := 134) X dX6_init_112 (by decide) (by decide) ?_
  refine y_aload X dX6_init_115 rfl 1 rfl ?_
  refine y_get (C := RX6) (T := TX6) (N := 9) (ci := 6) X in_X6_init_X6 0 rfl rfl 7 (by decide) lk_X6_init_f52 rfl dX6_init_116 ?_
  refine y_iload X dX6_init_119 rfl 0 rfl ?_
  refine y_sub (C := RX4) (T := TX4) (N := 3) (host := "BlushBank") X y_EX_ok hE (yc_X4 l D cy) in_X6_init_X4 tyX4 tyX4_ok lk_X6_init_c50 lk_X6_init_nX4 lk_X6_init_iX4 rfl fs0X4_ok ggX6_init_X4_init rfl (hE.1 5 _ rfl) rfl rfl lk_X6_init_mX4 (by decide +kernel) ⟨by decide, by decide⟩ rfl rfl (Nat.le_of_ble_eq_true rfl) (Nat.le_of_ble_eq_true rfl) (Nat.le_of_ble_eq_true rfl) dX6_init_120 dX6_init_123 dX6_init_124 (fun q12 u12 hu12 => ?_)
  obtain ⟨a12, rfl⟩ := hu12
  refine y_astq (ws' := (h0, .inr (6, [.ref q1, .ref q2, .ref q3, .ref q4, .ref q5, .ref q6, .ref q7, .ref q8, .int 0])) :: (y_scr cy q1 o01 b01 o11 b11 a1 ++ y_sto cy q2 a2 ++ y_led cy q3 a3 ++ y_nts cy q4 a4 ++ y_led cy q5 a5 ++ y_ar cy 0 4 q6 ++ y_rq (cy 3) 2 (va_up (va_up (fun _ => none) 0 (some q9)) 1 (some q10)) q7 ++ y_rq (cy 4) 4 (va_up (va_up (fun _ => none) 0 (some q11)) 1 (some q12)) q8 ++ y_img cy q9 o09 b09 o19 b19 ++ y_img cy q10 o010 b010 o110 b110 ++ y_she cy q11 a11 ++ y_she cy q12 a12)) (r := (RX4, TX4, 3)) X 42 4 67 4 rfl rfl rfl rfl (show ¬ ((1 : Int32) < 0 ∨ 4 ≤ (1 : Int32).toNatClampNeg) by decide) dX6_init_127 rfl ?_
  refine y_iinc (v := 2) (lv' := [(1, .int 2), (0, .ref h0)]) X dX6_init_128 0 rfl (by decide) (by decide) rfl ?_
  refine y_goto (tgt := 110) X dX6_init_131 (by decide) ?_
  refine y_iload X dX6_init_110 rfl 0 rfl ?_
  refine y_iconst (v := 4) X dX6_init_111 (by decide) ?_
  refine y_geF (tgt := 134) X dX6_init_112 (by decide) (by decide) ?_
  refine y_aload X dX6_init_115 rfl 1 rfl ?_
  refine y_get (C := RX6) (T := TX6) (N := 9) (ci := 6) X in_X6_init_X6 0 rfl rfl 7 (by decide) lk_X6_init_f52 rfl dX6_init_116 ?_
  refine y_iload X dX6_init_119 rfl 0 rfl ?_
  refine y_sub (C := RX4) (T := TX4) (N := 3) (host := "BlushBank") X y_EX_ok hE (yc_X4 l D cy) in_X6_init_X4 tyX4 tyX4_ok lk_X6_init_c50 lk_X6_init_nX4 lk_X6_init_iX4 rfl fs0X4_ok ggX6_init_X4_init rfl (hE.1 5 _ rfl) rfl rfl lk_X6_init_mX4 (by decide +kernel) ⟨by decide, by decide⟩ rfl rfl (Nat.le_of_ble_eq_true rfl) (Nat.le_of_ble_eq_true rfl) (Nat.le_of_ble_eq_true rfl) dX6_init_120 dX6_init_123 dX6_init_124 (fun q13 u13 hu13 => ?_)
  obtain ⟨a13, rfl⟩ := hu13
  refine y_astq (ws' := (h0, .inr (6, [.ref q1, .ref q2, .ref q3, .ref q4, .ref q5, .ref q6, .ref q7, .ref q8, .int 0])) :: (y_scr cy q1 o01 b01 o11 b11 a1 ++ y_sto cy q2 a2 ++ y_led cy q3 a3 ++ y_nts cy q4 a4 ++ y_led cy q5 a5 ++ y_ar cy 0 4 q6 ++ y_rq (cy 3) 2 (va_up (va_up (fun _ => none) 0 (some q9)) 1 (some q10)) q7 ++ y_rq (cy 4) 4 (va_up (va_up (va_up (fun _ => none) 0 (some q11)) 1 (some q12)) 2 (some q13)) q8 ++ y_img cy q9 o09 b09 o19 b19 ++ y_img cy q10 o010 b010 o110 b110 ++ y_she cy q11 a11 ++ y_she cy q12 a12 ++ y_she cy q13 a13)) (r := (RX4, TX4, 3)) X 42 4 69 4 rfl rfl rfl rfl (show ¬ ((2 : Int32) < 0 ∨ 4 ≤ (2 : Int32).toNatClampNeg) by decide) dX6_init_127 rfl ?_
  refine y_iinc (v := 3) (lv' := [(1, .int 3), (0, .ref h0)]) X dX6_init_128 0 rfl (by decide) (by decide) rfl ?_
  refine y_goto (tgt := 110) X dX6_init_131 (by decide) ?_
  refine y_iload X dX6_init_110 rfl 0 rfl ?_
  refine y_iconst (v := 4) X dX6_init_111 (by decide) ?_
  refine y_geF (tgt := 134) X dX6_init_112 (by decide) (by decide) ?_
  refine y_aload X dX6_init_115 rfl 1 rfl ?_
  refine y_get (C := RX6) (T := TX6) (N := 9) (ci := 6) X in_X6_init_X6 0 rfl rfl 7 (by decide) lk_X6_init_f52 rfl dX6_init_116 ?_
  refine y_iload X dX6_init_119 rfl 0 rfl ?_
  refine y_sub (C := RX4) (T := TX4) (N := 3) (host := "BlushBank") X y_EX_ok hE (yc_X4 l D cy) in_X6_init_X4 tyX4 tyX4_ok lk_X6_init_c50 lk_X6_init_nX4 lk_X6_init_iX4 rfl fs0X4_ok ggX6_init_X4_init rfl (hE.1 5 _ rfl) rfl rfl lk_X6_init_mX4 (by decide +kernel) ⟨by decide, by decide⟩ rfl rfl (Nat.le_of_ble_eq_true rfl) (Nat.le_of_ble_eq_true rfl) (Nat.le_of_ble_eq_true rfl) dX6_init_120 dX6_init_123 dX6_init_124 (fun q14 u14 hu14 => ?_)
  obtain ⟨a14, rfl⟩ := hu14
  refine y_astq (ws' := (h0, .inr (6, [.ref q1, .ref q2, .ref q3, .ref q4, .ref q5, .ref q6, .ref q7, .ref q8, .int 0])) :: (y_scr cy q1 o01 b01 o11 b11 a1 ++ y_sto cy q2 a2 ++ y_led cy q3 a3 ++ y_nts cy q4 a4 ++ y_led cy q5 a5 ++ y_ar cy 0 4 q6 ++ y_rq (cy 3) 2 (va_up (va_up (fun _ => none) 0 (some q9)) 1 (some q10)) q7 ++ y_rq (cy 4) 4 (va_up (va_up (va_up (va_up (fun _ => none) 0 (some q11)) 1 (some q12)) 2 (some q13)) 3 (some q14)) q8 ++ y_img cy q9 o09 b09 o19 b19 ++ y_img cy q10 o010 b010 o110 b110 ++ y_she cy q11 a11 ++ y_she cy q12 a12 ++ y_she cy q13 a13 ++ y_she cy q14 a14)) (r := (RX4, TX4, 3)) X 42 4 71 4 rfl rfl rfl rfl (show ¬ ((3 : Int32) < 0 ∨ 4 ≤ (3 : Int32).toNatClampNeg) by decide) dX6_init_127 rfl ?_
  refine y_iinc (v := 4) (lv' := [(1, .int 4), (0, .ref h0)]) X dX6_init_128 0 rfl (by decide) (by decide) rfl ?_
  refine y_goto (tgt := 110) X dX6_init_131 (by decide) ?_
  refine y_iload X dX6_init_110 rfl 0 rfl ?_
  refine y_iconst (v := 4) X dX6_init_111 (by decide) ?_
  refine y_geT (tgt := 134) X dX6_init_112 (by decide) (by decide) ?_
  have e2 : va_up (va_up (fun _ => none) 0 (some q9)) 1 (some q10) = fun k => (([43, 54] : List Nat)[k]?).map (y_ad [h0, q6, q7, q8, q2, (a2 0), (a2 1), (a2 2), (a2 3), (a2 4), (a2 5), q3, (a3 0), (a3 1), (a3 2), (a3 3), (a3 4), q5, (a5 0), (a5 1), (a5 2), (a5 3), (a5 4), q4, (a4 0), (a4 1), (a4 2), q1, (a1 0), (a1 1), o01, (b01 0), (b01 1), (b01 2), (b01 3), (b01 4), (b01 5), o11, (b11 0), (b11 1), (b11 2), (b11 3), (b11 4), q9, o09, (b09 0), (b09 1), (b09 2), (b09 3), (b09 4), o19, (b19 0), (b19 1), (b19 2), q10, o010, (b010 0), (b010 1), (b010 2), (b010 3), (b010 4), o110, (b110 0), (b110 1), (b110 2), q11, (a11 0), q12, (a12 0), q13, (a13 0), q14, (a14 0)] g) := y_q2 (y_ad [h0, q6, q7, q8, q2, (a2 0), (a2 1), (a2 2), (a2 3), (a2 4), (a2 5), q3, (a3 0), (a3 1), (a3 2), (a3 3), (a3 4), q5, (a5 0), (a5 1), (a5 2), (a5 3), (a5 4), q4, (a4 0), (a4 1), (a4 2), q1, (a1 0), (a1 1), o01, (b01 0), (b01 1), (b01 2), (b01 3), (b01 4), (b01 5), o11, (b11 0), (b11 1), (b11 2), (b11 3), (b11 4), q9, o09, (b09 0), (b09 1), (b09 2), (b09 3), (b09 4), o19, (b19 0), (b19 1), (b19 2), q10, o010, (b010 0), (b010 1), (b010 2), (b010 3), (b010 4), o110, (b110 0), (b110 1), (b110 2), q11, (a11 0), q12, (a12 0), q13, (a13 0), q14, (a14 0)] g)
  have e4 : va_up (va_up (va_up (va_up (fun _ => none) 0 (some q11)) 1 (some q12)) 2 (some q13)) 3 (some q14) = fun k => (([65, 67, 69, 71] : List Nat)[k]?).map (y_ad [h0, q6, q7, q8, q2, (a2 0), (a2 1), (a2 2), (a2 3), (a2 4), (a2 5), q3, (a3 0), (a3 1), (a3 2), (a3 3), (a3 4), q5, (a5 0), (a5 1), (a5 2), (a5 3), (a5 4), q4, (a4 0), (a4 1), (a4 2), q1, (a1 0), (a1 1), o01, (b01 0), (b01 1), (b01 2), (b01 3), (b01 4), (b01 5), o11, (b11 0), (b11 1), (b11 2), (b11 3), (b11 4), q9, o09, (b09 0), (b09 1), (b09 2), (b09 3), (b09 4), o19, (b19 0), (b19 1), (b19 2), q10, o010, (b010 0), (b010 1), (b010 2), (b010 3), (b010 4), o110, (b110 0), (b110 1), (b110 2), q11, (a11 0), q12, (a12 0), q13, (a13 0), q14, (a14 0)] g) := y_q4 (y_ad [h0, q6, q7, q8, q2, (a2 0), (a2 1), (a2 2), (a2 3), (a2 4), (a2 5), q3, (a3 0), (a3 1), (a3 2), (a3 3), (a3 4), q5, (a5 0), (a5 1), (a5 2), (a5 3), (a5 4), q4, (a4 0), (a4 1), (a4 2), q1, (a1 0), (a1 1), o01, (b01 0), (b01 1), (b01 2), (b01 3), (b01 4), (b01 5), o11, (b11 0), (b11 1), (b11 2), (b11 3), (b11 4), q9, o09, (b09 0), (b09 1), (b09 2), (b09 3), (b09 4), o19, (b19 0), (b19 1), (b19 2), q10, o010, (b010 0), (b010 1), (b010 2), (b010 3), (b010 4), o110, (b110 0), (b110 1), (b110 2), q11, (a11 0), q12, (a12 0), q13, (a13 0), q14, (a14 0)] g)
  refine y_sel (ws' := z_W (D, cy, (y_ad [h0, q6, q7, q8, q2, (a2 0), (a2 1), (a2 2), (a2 3), (a2 4), (a2 5), q3, (a3 0), (a3 1), (a3 2), (a3 3), (a3 4), q5, (a5 0), (a5 1), (a5 2), (a5 3), (a5 4), q4, (a4 0), (a4 1), (a4 2), q1, (a1 0), (a1 1), o01, (b01 0), (b01 1), (b01 2), (b01 3), (b01 4), (b01 5), o11, (b11 0), (b11 1), (b11 2), (b11 3), (b11 4), q9, o09, (b09 0), (b09 1), (b09 2), (b09 3), (b09 4), o19, (b19 0), (b19 1), (b19 2), q10, o010, (b010 0), (b010 1), (b010 2), (b010 3), (b010 4), o110, (b110 0), (b110 1), (b110 2), q11, (a11 0), q12, (a12 0), q13, (a13 0), q14, (a14 0)] g), z_shX, fun _ => True) y_x0) [0, 40, 41, 42, 17, 18, 19, 20, 21, 22, 23, 24, 25, 26, 27, 28, 29, 34, 35, 36, 37, 38, 39, 30, 31, 32, 33, 1, 15, 16, 2, 3, 4, 5, 6, 7, 8, 9, 10, 11, 12, 13, 14, 43, 44, 45, 46, 47, 48, 49, 50, 51, 52, 53, 54, 55, 56, 57, 58, 59, 60, 61, 62, 63, 64, 65, 66, 67, 68, 69, 70, 71, 72] (by decide) ?_ ?_
  · rw [y_mk_W, e2, e4]
    rfl
  · exact y_ret hr hlo X ⟨(y_ad [h0, q6, q7, q8, q2, (a2 0), (a2 1), (a2 2), (a2 3), (a2 4), (a2 5), q3, (a3 0), (a3 1), (a3 2), (a3 3), (a3 4), q5, (a5 0), (a5 1), (a5 2), (a5 3), (a5 4), q4, (a4 0), (a4 1), (a4 2), q1, (a1 0), (a1 1), o01, (b01 0), (b01 1), (b01 2), (b01 3), (b01 4), (b01 5), o11, (b11 0), (b11 1), (b11 2), (b11 3), (b11 4), q9, o09, (b09 0), (b09 1), (b09 2), (b09 3), (b09 4), o19, (b19 0), (b19 1), (b19 2), q10, o010, (b010 0), (b010 1), (b010 2), (b010 3), (b010 4), o110, (b110 0), (b110 1), (b110 2), q11, (a11 0), q12, (a12 0), q13, (a13 0), q14, (a14 0)] g), rfl, fun i => y_ad_st _ g (by decide) i, rfl⟩ dX6_init_134
