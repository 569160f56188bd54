/-! ===== the constructors of the class ===== -/
def y_nth (L : List Nat) (k : Nat) : Nat := L.getD k 0
abbrev y_tys (cy : Nat → ClassId) : List (ClassId × FieldType) := [(cy 0, .int), (cy 1, .byte), (cy 2, .boolean), (cy 3, .object "BlushBank$Image"), (cy 4, .object "BlushBank$Sheet")]
def y_ar (cy : Nat → ClassId) (t n q : Nat) : va_W := [(q, .inl (cy t, n, .inl fun _ => 0))]
def y_arf (cA : ClassId) (n : Nat) (f : Nat → Int32) (q : Nat) : va_W := [(q, .inl (cA, n, .inl f))]
def y_rq (cA : ClassId) (n : Nat) (f : Nat → Option Nat) (q : Nat) : va_W := [(q, .inl (cA, n, .inr (.inr (.inr (.inr f)))))]
def y_nl : List (String × Nat × MethodName × String) := [(RX6, 9, yX3_init, "BlushBank"), (RX6, 18, yX5_init, "BlushBank"), (RX6, 25, yX1_init, "BlushBank"), (RX6, 32, yX2_init, "BlushBank"), (RX6, 56, yX0_init, "BlushBank"), (RX6, 57, yX4_init, "BlushBank"), (RX0, 9, yX1_init, "BlushBank"), (RX0, 18, yX2_init, "BlushBank"), (RX3, 11, yX5_init, "BlushBank"), (RX3, 20, yX1_init, "BlushBank")]
def y_EX (U : State) : Prop := (∀ (i : Nat) (q : String × Nat × MethodName × String), y_nl[i]? = some q → va_Nw (.methodLinkNest q.1 q.2.1 q.2.2.1 q.2.2.2) U) ∧ va_AO RX0 U ∧ va_AO RX4 U
theorem y_EX_ok : y_E y_EX := ⟨fun U g mk a h => ⟨fun i q hq => va_Nw.same rfl rfl (h.1 i q hq), va_AO.moved (Vm.Alike.refl U.vm) h.2.1, va_AO.moved (Vm.Alike.refl U.vm) h.2.2⟩, fun s U h hW => ⟨fun i q hq => va_Nw.warmM hW (h.1 i q hq), va_AO.moved hW.alike h.2.1, va_AO.moved hW.alike h.2.2⟩⟩
theorem y_nw0 {s : State} (h : y_EX s) : va_Nw (.methodLinkNest RX6 9 yX3_init "BlushBank") s := h.1 0 (RX6, 9, yX3_init, "BlushBank") rfl
theorem y_nw1 {s : State} (h : y_EX s) : va_Nw (.methodLinkNest RX6 18 yX5_init "BlushBank") s := h.1 1 (RX6, 18, yX5_init, "BlushBank") rfl
theorem y_nw2 {s : State} (h : y_EX s) : va_Nw (.methodLinkNest RX6 25 yX1_init "BlushBank") s := h.1 2 (RX6, 25, yX1_init, "BlushBank") rfl
theorem y_nw3 {s : State} (h : y_EX s) : va_Nw (.methodLinkNest RX6 32 yX2_init "BlushBank") s := h.1 3 (RX6, 32, yX2_init, "BlushBank") rfl
theorem y_nw4 {s : State} (h : y_EX s) : va_Nw (.methodLinkNest RX6 56 yX0_init "BlushBank") s := h.1 4 (RX6, 56, yX0_init, "BlushBank") rfl
theorem y_nw5 {s : State} (h : y_EX s) : va_Nw (.methodLinkNest RX6 57 yX4_init "BlushBank") s := h.1 5 (RX6, 57, yX4_init, "BlushBank") rfl
theorem y_nw6 {s : State} (h : y_EX s) : va_Nw (.methodLinkNest RX0 9 yX1_init "BlushBank") s := h.1 6 (RX0, 9, yX1_init, "BlushBank") rfl
theorem y_nw7 {s : State} (h : y_EX s) : va_Nw (.methodLinkNest RX0 18 yX2_init "BlushBank") s := h.1 7 (RX0, 18, yX2_init, "BlushBank") rfl
theorem y_nw8 {s : State} (h : y_EX s) : va_Nw (.methodLinkNest RX3 11 yX5_init "BlushBank") s := h.1 8 (RX3, 11, yX5_init, "BlushBank") rfl
theorem y_nw9 {s : State} (h : y_EX s) : va_Nw (.methodLinkNest RX3 20 yX1_init "BlushBank") s := h.1 9 (RX3, 20, yX1_init, "BlushBank") rfl
def y_led (cy : Nat → ClassId) (h : Nat) (a : Nat → Nat) : va_W := (h, .inr (1, [.int 0, .ref (a 0), .ref (a 1), .ref (a 2), .ref (a 3), .ref (a 4), .int 0, .int 1, .int 20, .int 0, .int 0])) :: (y_ar cy 0 4 (a 0) ++ y_ar cy 0 4 (a 1) ++ y_ar cy 0 4 (a 2) ++ y_ar cy 0 4 (a 3) ++ y_ar cy 0 6 (a 4))
abbrev rm_X1_init : Room := { frames := 1, cells := 5, slots := 22, locals := 12 }
def fs0X1 : List Value := [.int 0, .null, .null, .null, .null, .null, .int 0, .int 0, .int 0, .int 0, .int 0]
theorem fs0X1_ok : ∀ j, j < 11 → defaultValue (tyX1 j) = vp_V fs0X1 j := fun j hj => by
  rcases (show j = 0 ∨ j = 1 ∨ j = 2 ∨ j = 3 ∨ j = 4 ∨ j = 5 ∨ j = 6 ∨ j = 7 ∨ j = 8 ∨ j = 9 ∨ j = 10 by omega) with rfl | rfl | rfl | rfl | rfl | rfl | rfl | rfl | rfl | rfl | rfl <;> rfl
theorem in_X1_init_X1 : ∀ w ∈ wsX10, w ∈ wsX1_init := fun w h => List.mem_cons_of_mem _ (List.mem_append_right _ h)
theorem lk_X1_init_o1 : Cond.methodLink RX1 3 objectInit ∈ wsX1_init := by decide +kernel
theorem lk_X1_init_o2 : Cond.instanceMethod objectInit ∈ wsX1_init := by decide +kernel
theorem lk_X1_init_o3 : Cond.code objectInit ⟨#[0xb1]⟩ 1 none ∈ wsX1_init := by decide +kernel
theorem lk_X1_init_a0 : Cond.arrayClass .int ∈ wsX1_init := by decide +kernel
theorem lk_X1_init_f9 : Cond.fieldLink RX1 9 (TX1 1).1 (TX1 1).2.1 (TX1 1).2.2.1 ∈ wsX1_init := by decide +kernel
theorem lk_X1_init_f15 : Cond.fieldLink RX1 15 (TX1 2).1 (TX1 2).2.1 (TX1 2).2.2.1 ∈ wsX1_init := by decide +kernel
theorem lk_X1_init_f18 : Cond.fieldLink RX1 18 (TX1 3).1 (TX1 3).2.1 (TX1 3).2.2.1 ∈ wsX1_init := by decide +kernel
theorem lk_X1_init_f21 : Cond.fieldLink RX1 21 (TX1 4).1 (TX1 4).2.1 (TX1 4).2.2.1 ∈ wsX1_init := by decide +kernel
theorem lk_X1_init_f24 : Cond.fieldLink RX1 24 (TX1 5).1 (TX1 5).2.1 (TX1 5).2.2.1 ∈ wsX1_init := by decide +kernel
theorem lk_X1_init_f27 : Cond.fieldLink RX1 27 (TX1 7).1 (TX1 7).2.1 (TX1 7).2.2.1 ∈ wsX1_init := by decide +kernel
theorem lk_X1_init_f31 : Cond.fieldLink RX1 31 (TX1 8).1 (TX1 8).2.1 (TX1 8).2.2.1 ∈ wsX1_init := by decide +kernel
set_option maxHeartbeats 4000000 in
set_option maxRecDepth 100000 in
theorem yc_X1 (l : Launch) (D : va_G) (cy : Nat → ClassId) : y_Ct l D (y_tys cy) y_EX yX1_init wsX1_init rm_X1_init 1 5 22 fs0X1 (fun h u => ∃ a : Nat → Nat, u = y_led cy h a) := by
  refine y_start (by decide) rfl (by decide) rfl ?_
  intro p e s m args below meth c h0 hr hlo hE X
  have X : y_Cx _ cX1_init wsX1_init RX1 (y_tys cy) := X
  refine y_aload X dX1_init_0 rfl 0 rfl ?_
  refine y_obj X lk_X1_init_o1 lk_X1_init_o2 lk_X1_init_o3 dX1_init_1 (by decide) (Nat.le_of_ble_eq_true rfl) ?_
  refine y_aload X dX1_init_4 rfl 0 rfl ?_
  refine y_iconst (v := 4) X dX1_init_5 (by decide) ?_
  refine y_newa (atype := .int) (N' := 4) (a0 := (4, .inl fun _ => 0)) X 0 rfl rfl lk_X1_init_a0 (fun _ h => by cases h) (fun _ => rfl) (by decide) (by decide) (by decide) (Nat.le_of_ble_eq_true rfl) (Nat.le_of_ble_eq_true rfl) dX1_init_6 (fun q1 => ?_)
  refine y_putF (ref := RX1) (C := RX1) (T := TX1) (N := 11) (ci := 1) (ws' := (h0, .inr (1, [.int 0, .ref q1, .null, .null, .null, .null, .int 0, .int 0, .int 0, .int 0, .int 0])) :: (y_ar cy 0 4 q1)) X in_X1_init_X1 tyX1 tyX1_ok nmX1 0 rfl rfl 1 (by decide) lk_X1_init_f9 rfl rfl rfl rfl (Nat.le_of_ble_eq_true rfl) dX1_init_8 rfl ?_
  refine y_aload X dX1_init_11 rfl 0 rfl ?_
  refine y_iconst (v := 4) X dX1_init_12 (by decide) ?_
  refine y_newa (atype := .int) (N' := 4) (a0 := (4, .inl fun _ => 0)) X 0 rfl rfl lk_X1_init_a0 (fun _ h => by cases h) (fun _ => rfl) (by decide) (by decide) (by decide) (Nat.le_of_ble_eq_true rfl) (Nat.le_of_ble_eq_true rfl) dX1_init_13 (fun q2 => ?_)
  refine y_putF (ref := RX1) (C := RX1) (T := TX1) (N := 11) (ci := 1) (ws' := (h0, .inr (1, [.int 0, .ref q1, .ref q2, .null, .null, .null, .int 0, .int 0, .int 0, .int 0, .int 0])) :: (y_ar cy 0 4 q1 ++ y_ar cy 0 4 q2)) X in_X1_init_X1 tyX1 tyX1_ok nmX1 0 rfl rfl 2 (by decide) lk_X1_init_f15 rfl rfl rfl rfl (Nat.le_of_ble_eq_true rfl) dX1_init_15 rfl ?_
  refine y_aload X dX1_init_18 rfl 0 rfl ?_
  refine y_iconst (v := 4) X dX1_init_19 (by decide) ?_
  refine y_newa (atype := .int) (N' := 4) (a0 := (4, .inl fun _ => 0)) X 0 rfl rfl lk_X1_init_a0 (fun _ h => by cases h) (fun _ => rfl) (by decide) (by decide) (by decide) (Nat.le_of_ble_eq_true rfl) (Nat.le_of_ble_eq_true rfl) dX1_init_20 (fun q3 => ?_)
  refine y_putF (ref := RX1) (C := RX1) (T := TX1) (N := 11) (ci := 1) (ws' := (h0, .inr (1, [.int 0, .ref q1, .ref q2, .ref q3, .null, .null, .int 0, .int 0, .int 0, .int 0, .int 0])) :: (y_ar cy 0 4 q1 ++ y_ar cy 0 4 q2 ++ y_ar cy 0 4 q3)) X in_X1_init_X1 tyX1 tyX1_ok nmX1 0 rfl rfl 3 (by decide) lk_X1_init_f18 rfl rfl rfl rfl (Nat.le_of_ble_eq_true rfl) dX1_init_22 rfl ?_
  refine y_aload X dX1_init_25 rfl 0 rfl ?_
  refine y_iconst (v := 4) X dX1_init_26 (by decide) ?_
  refine y_newa (atype := .int) (N' := 4) (a0 := (4, .inl fun _ => 0)) X 0 rfl rfl lk_X1_init_a0 (fun _ h => by cases h) (fun _ => rfl) (by decide) (by decide) (by decide) (Nat.le_of_ble_eq_true rfl) (Nat.le_of_ble_eq_true rfl) dX1_init_27 (fun q4 => ?_)
  refine y_putF (ref := RX1) (C := RX1) (T := TX1) (N := 11) (ci := 1) (ws' := (h0, .inr (1, [.int 0, .ref q1, .ref q2, .ref q3, .ref q4, .null, .int 0, .int 0, .int 0, .int 0, .int 0])) :: (y_ar cy 0 4 q1 ++ y_ar cy 0 4 q2 ++ y_ar cy 0 4 q3 ++ y_ar cy 0 4 q4)) X in_X1_init_X1 tyX1 tyX1_ok nmX1 0 rfl rfl 4 (by decide) lk_X1_init_f21 rfl rfl rfl rfl (Nat.le_of_ble_eq_true rfl) dX1_init_29 rfl ?_
  refine y_aload X dX1_init_32 rfl 0 rfl ?_
  refine y_bipush (v := 6) X dX1_init_33 (by decide) ?_
  refine y_newa (atype := .int) (N' := 6) (a0 := (6, .inl fun _ => 0)) X 0 rfl rfl lk_X1_init_a0 (fun _ h => by cases h) (fun _ => rfl) (by decide) (by decide) (by decide) (Nat.le_of_ble_eq_true rfl) (Nat.le_of_ble_eq_true rfl) dX1_init_35 (fun q5 => ?_)
  refine y_putF (ref := RX1) (C := RX1) (T := TX1) (N := 11) (ci := 1) (ws' := (h0, .inr (1, [.int 0, .ref q1, .ref q2, .ref q3, .ref q4, .ref q5, .int 0, .int 0, .int 0, .int 0, .int 0])) :: (y_ar cy 0 4 q1 ++ y_ar cy 0 4 q2 ++ y_ar cy 0 4 q3 ++ y_ar cy 0 4 q4 ++ y_ar cy 0 6 q5)) X in_X1_init_X1 tyX1 tyX1_ok nmX1 0 rfl rfl 5 (by decide) lk_X1_init_f24 rfl rfl rfl rfl (Nat.le_of_ble_eq_true rfl) dX1_init_37 rfl ?_
  refine y_aload X dX1_init_40 rfl 0 rfl ?_
  refine y_iconst (v := 1) X dX1_init_41 (by decide) ?_
  refine y_put (ref := RX1) (C := RX1) (T := TX1) (N := 11) (ci := 1) (ws' := (h0, .inr (1, [.int 0, .ref q1, .ref q2, .ref q3, .ref q4, .ref q5, .int 0, .int 1, .int 0, .int 0, .int 0])) :: (y_ar cy 0 4 q1 ++ y_ar cy 0 4 q2 ++ y_ar cy 0 4 q3 ++ y_ar cy 0 4 q4 ++ y_ar cy 0 6 q5)) X in_X1_init_X1 tyX1 tyX1_ok nmX1 0 rfl rfl 7 (by decide) lk_X1_init_f27 rfl rfl rfl (Nat.le_of_ble_eq_true rfl) dX1_init_42 rfl ?_
  refine y_aload X dX1_init_45 rfl 0 rfl ?_
  refine y_bipush (v := 20) X dX1_init_46 (by decide) ?_
  refine y_put (ref := RX1) (C := RX1) (T := TX1) (N := 11) (ci := 1) (ws' := (h0, .inr (1, [.int 0, .ref q1, .ref q2, .ref q3, .ref q4, .ref q5, .int 0, .int 1, .int 20, .int 0, .int 0])) :: (y_ar cy 0 4 q1 ++ y_ar cy 0 4 q2 ++ y_ar cy 0 4 q3 ++ y_ar cy 0 4 q4 ++ y_ar cy 0 6 q5)) X in_X1_init_X1 tyX1 tyX1_ok nmX1 0 rfl rfl 8 (by decide) lk_X1_init_f31 rfl rfl rfl (Nat.le_of_ble_eq_true rfl) dX1_init_48 rfl ?_
  exact y_ret hr hlo X ⟨y_nth [q1, q2, q3, q4, q5], rfl⟩ dX1_init_51
def y_nts (cy : Nat → ClassId) (h : Nat) (a : Nat → Nat) : va_W := (h, .inr (2, [.int 0, .ref (a 0), .ref (a 1), .ref (a 2)])) :: (y_ar cy 0 6 (a 0) ++ y_ar cy 0 6 (a 1) ++ y_ar cy 0 6 (a 2))
abbrev rm_X2_init : Room := { frames := 1, cells := 3, slots := 18, locals := 12 }
def fs0X2 : List Value := [.int 0, .null, .null, .null]
theorem fs0X2_ok : ∀ j, j < 4 → defaultValue (tyX2 j) = vp_V fs0X2 j := fun j hj => by
  rcases (show j = 0 ∨ j = 1 ∨ j = 2 ∨ j = 3 by omega) with rfl | rfl | rfl | rfl <;> rfl
theorem in_X2_init_X2 : ∀ w ∈ wsX20, w ∈ wsX2_init := fun w h => List.mem_cons_of_mem _ (List.mem_append_right _ h)
theorem lk_X2_init_o1 : Cond.methodLink RX2 3 objectInit ∈ wsX2_init := by decide +kernel
theorem lk_X2_init_o2 : Cond.instanceMethod objectInit ∈ wsX2_init := by decide +kernel
theorem lk_X2_init_o3 : Cond.code objectInit ⟨#[0xb1]⟩ 1 none ∈ wsX2_init := by decide +kernel
theorem lk_X2_init_a0 : Cond.arrayClass .int ∈ wsX2_init := by decide +kernel
theorem lk_X2_init_f9 : Cond.fieldLink RX2 9 (TX2 1).1 (TX2 1).2.1 (TX2 1).2.2.1 ∈ wsX2_init := by decide +kernel
theorem lk_X2_init_f15 : Cond.fieldLink RX2 15 (TX2 2).1 (TX2 2).2.1 (TX2 2).2.2.1 ∈ wsX2_init := by decide +kernel
theorem lk_X2_init_f18 : Cond.fieldLink RX2 18 (TX2 3).1 (TX2 3).2.1 (TX2 3).2.2.1 ∈ wsX2_init := by decide +kernel
set_option maxHeartbeats 4000000 in
set_option maxRecDepth 100000 in
theorem yc_X2 (l : Launch) (D : va_G) (cy : Nat → ClassId) : y_Ct l D (y_tys cy) y_EX yX2_init wsX2_init rm_X2_init 2 3 18 fs0X2 (fun h u => ∃ a : Nat → Nat, u = y_nts cy h a) := by
  refine y_start (by decide) rfl (by decide) rfl ?_
  intro p e s m args below meth c h0 hr hlo hE X
  have X : y_Cx _ cX2_init wsX2_init RX2 (y_tys cy) := X
  refine y_aload X dX2_init_0 rfl 0 rfl ?_
  refine y_obj X lk_X2_init_o1 lk_X2_init_o2 lk_X2_init_o3 dX2_init_1 (by decide) (Nat.le_of_ble_eq_true rfl) ?_
  refine y_aload X dX2_init_4 rfl 0 rfl ?_
  refine y_bipush (v := 6) X dX2_init_5 (by decide) ?_
  refine y_newa (atype := .int) (N' := 6) (a0 := (6, .inl fun _ => 0)) X 0 rfl rfl lk_X2_init_a0 (fun _ h => by cases h) (fun _ => rfl) (by decide) (by decide) (by decide) (Nat.le_of_ble_eq_true rfl) (Nat.le_of_ble_eq_true rfl) dX2_init_7 (fun q1 => ?_)
  refine y_putF (ref := RX2) (C := RX2) (T := TX2) (N := 4) (ci := 2) (ws' := (h0, .inr (2, [.int 0, .ref q1, .null, .null])) :: (y_ar cy 0 6 q1)) X in_X2_init_X2 tyX2 tyX2_ok nmX2 0 rfl rfl 1 (by decide) lk_X2_init_f9 rfl rfl rfl rfl (Nat.le_of_ble_eq_true rfl) dX2_init_9 rfl ?_
  refine y_aload X dX2_init_12 rfl 0 rfl ?_
  refine y_bipush (v := 6) X dX2_init_13 (by decide) ?_
  refine y_newa (atype := .int) (N' := 6) (a0 := (6, .inl fun _ => 0)) X 0 rfl rfl lk_X2_init_a0 (fun _ h => by cases h) (fun _ => rfl) (by decide) (by decide) (by decide) (Nat.le_of_ble_eq_true rfl) (Nat.le_of_ble_eq_true rfl) dX2_init_15 (fun q2 => ?_)
  refine y_putF (ref := RX2) (C := RX2) (T := TX2) (N := 4) (ci := 2) (ws' := (h0, .inr (2, [.int 0, .ref q1, .ref q2, .null])) :: (y_ar cy 0 6 q1 ++ y_ar cy 0 6 q2)) X in_X2_init_X2 tyX2 tyX2_ok nmX2 0 rfl rfl 2 (by decide) lk_X2_init_f15 rfl rfl rfl rfl (Nat.le_of_ble_eq_true rfl) dX2_init_17 rfl ?_
  refine y_aload X dX2_init_20 rfl 0 rfl ?_
  refine y_bipush (v := 6) X dX2_init_21 (by decide) ?_
  refine y_newa (atype := .int) (N' := 6) (a0 := (6, .inl fun _ => 0)) X 0 rfl rfl lk_X2_init_a0 (fun _ h => by cases h) (fun _ => rfl) (by decide) (by decide) (by decide) (Nat.le_of_ble_eq_true rfl) (Nat.le_of_ble_eq_true rfl) dX2_init_23 (fun q3 => ?_)
  refine y_putF (ref := RX2) (C := RX2) (T := TX2) (N := 4) (ci := 2) (ws' := (h0, .inr (2, [.int 0, .ref q1, .ref q2, .ref q3])) :: (y_ar cy 0 6 q1 ++ y_ar cy 0 6 q2 ++ y_ar cy 0 6 q3)) X in_X2_init_X2 tyX2 tyX2_ok nmX2 0 rfl rfl 3 (by decide) lk_X2_init_f18 rfl rfl rfl rfl (Nat.le_of_ble_eq_true rfl) dX2_init_25 rfl ?_
  exact y_ret hr hlo X ⟨y_nth [q1, q2, q3], rfl⟩ dX2_init_28
def y_sto (cy : Nat → ClassId) (h : Nat) (a : Nat → Nat) : va_W := (h, .inr (5, [.int 0, .ref (a 0), .ref (a 1), .ref (a 2), .int 0, .ref (a 3), .ref (a 4), .ref (a 5)])) :: (y_ar cy 0 6 (a 0) ++ y_ar cy 0 6 (a 1) ++ y_ar cy 0 6 (a 2) ++ y_ar cy 0 6 (a 3) ++ y_ar cy 0 6 (a 4) ++ y_ar cy 0 6 (a 5))
abbrev rm_X5_init : Room := { frames := 1, cells := 6, slots := 36, locals := 12 }
def fs0X5 : List Value := [.int 0, .null, .null, .null, .int 0, .null, .null, .null]
theorem fs0X5_ok : ∀ j, j < 8 → defaultValue (tyX5 j) = vp_V fs0X5 j := fun j hj => by
  rcases (show j = 0 ∨ j = 1 ∨ j = 2 ∨ j = 3 ∨ j = 4 ∨ j = 5 ∨ j = 6 ∨ j = 7 by omega) with rfl | rfl | rfl | rfl | rfl | rfl | rfl | rfl <;> rfl
theorem in_X5_init_X5 : ∀ w ∈ wsX50, w ∈ wsX5_init := fun w h => List.mem_cons_of_mem _ (List.mem_append_right _ h)
theorem lk_X5_init_o1 : Cond.methodLink RX5 3 objectInit ∈ wsX5_init := by decide +kernel
theorem lk_X5_init_o2 : Cond.instanceMethod objectInit ∈ wsX5_init := by decide +kernel
theorem lk_X5_init_o3 : Cond.code objectInit ⟨#[0xb1]⟩ 1 none ∈ wsX5_init := by decide +kernel
theorem lk_X5_init_a0 : Cond.arrayClass .int ∈ wsX5_init := by decide +kernel
theorem lk_X5_init_f9 : Cond.fieldLink RX5 9 (TX5 1).1 (TX5 1).2.1 (TX5 1).2.2.1 ∈ wsX5_init := by decide +kernel
theorem lk_X5_init_f15 : Cond.fieldLink RX5 15 (TX5 2).1 (TX5 2).2.1 (TX5 2).2.2.1 ∈ wsX5_init := by decide +kernel
theorem lk_X5_init_f18 : Cond.fieldLink RX5 18 (TX5 3).1 (TX5 3).2.1 (TX5 3).2.2.1 ∈ wsX5_init := by decide +kernel
theorem lk_X5_init_f21 : Cond.fieldLink RX5 21 (TX5 5).1 (TX5 5).2.1 (TX5 5).2.2.1 ∈ wsX5_init := by decide +kernel
theorem lk_X5_init_f24 : Cond.fieldLink RX5 24 (TX5 6).1 (TX5 6).2.1 (TX5 6).2.2.1 ∈ wsX5_init := by decide +kernel
theorem lk_X5_init_f27 : Cond.fieldLink RX5 27 (TX5 7).1 (TX5 7).2.1 (TX5 7).2.2.1 ∈ wsX5_init := by decide +kernel
set_option maxHeartbeats 4000000 in
set_option maxRecDepth 100000 in
theorem yc_X5 (l : Launch) (D : va_G) (cy : Nat → ClassId) : y_Ct l D (y_tys cy) y_EX yX5_init wsX5_init rm_X5_init 5 6 36 fs0X5 (fun h u => ∃ a : Nat → Nat, u = y_sto cy h a) := by
  refine y_start (by decide) rfl (by decide) rfl ?_
  intro p e s m args below meth c h0 hr hlo hE X
  have X : y_Cx _ cX5_init wsX5_init RX5 (y_tys cy) := X
  refine y_aload X dX5_init_0 rfl 0 rfl ?_
  refine y_obj X lk_X5_init_o1 lk_X5_init_o2 lk_X5_init_o3 dX5_init_1 (by decide) (Nat.le_of_ble_eq_true rfl) ?_
  refine y_aload X dX5_init_4 rfl 0 rfl ?_
  refine y_bipush (v := 6) X dX5_init_5 (by decide) ?_
  refine y_newa (atype := .int) (N' := 6) (a0 := (6, .inl fun _ => 0)) X 0 rfl rfl lk_X5_init_a0 (fun _ h => by cases h) (fun _ => rfl) (by decide) (by decide) (by decide) (Nat.le_of_ble_eq_true rfl) (Nat.le_of_ble_eq_true rfl) dX5_init_7 (fun q1 => ?_)
  refine y_putF (ref := RX5) (C := RX5) (T := TX5) (N := 8) (ci := 5) (ws' := (h0, .inr (5, [.int 0, .ref q1, .null, .null, .int 0, .null, .null, .null])) :: (y_ar cy 0 6 q1)) X in_X5_init_X5 tyX5 tyX5_ok nmX5 0 rfl rfl 1 (by decide) lk_X5_init_f9 rfl rfl rfl rfl (Nat.le_of_ble_eq_true rfl) dX5_init_9 rfl ?_
  refine y_aload X dX5_init_12 rfl 0 rfl ?_
  refine y_bipush (v := 6) X dX5_init_13 (by decide) ?_
  refine y_newa (atype := .int) (N' := 6) (a0 := (6, .inl fun _ => 0)) X 0 rfl rfl lk_X5_init_a0 (fun _ h => by cases h) (fun _ => rfl) (by decide) (by decide) (by decide) (Nat.le_of_ble_eq_true rfl) (Nat.le_of_ble_eq_true rfl) dX5_init_15 (fun q2 => ?_)
  refine y_putF (ref := RX5) (C := RX5) (T := TX5) (N := 8) (ci := 5) (ws' := (h0, .inr (5, [.int 0, .ref q1, .ref q2, .null, .int 0, .null, .null, .null])) :: (y_ar cy 0 6 q1 ++ y_ar cy 0 6 q2)) X in_X5_init_X5 tyX5 tyX5_ok nmX5 0 rfl rfl 2 (by decide) lk_X5_init_f15 rfl rfl rfl rfl (Nat.le_of_ble_eq_true rfl) dX5_init_17 rfl ?_
  refine y_aload X dX5_init_20 rfl 0 rfl ?_
  refine y_bipush (v := 6) X dX5_init_21 (by decide) ?_
  refine y_newa (atype := .int) (N' := 6) (a0 := (6, .inl fun _ => 0)) X 0 rfl rfl lk_X5_init_a0 (fun _ h => by cases h) (fun _ => rfl) (by decide) (by decide) (by decide) (Nat.le_of_ble_eq_true rfl) (Nat.le_of_ble_eq_true rfl) dX5_init_23 (fun q3 => ?_)
  refine y_putF (ref := RX5) (C := RX5) (T := TX5) (N := 8) (ci := 5) (ws' := (h0, .inr (5, [.int 0, .ref q1, .ref q2, .ref q3, .int 0, .null, .null, .null])) :: (y_ar cy 0 6 q1 ++ y_ar cy 0 6 q2 ++ y_ar cy 0 6 q3)) X in_X5_init_X5 tyX5 tyX5_ok nmX5 0 rfl rfl 3 (by decide) lk_X5_init_f18 rfl rfl rfl rfl (Nat.le_of_ble_eq_true rfl) dX5_init_25 rfl ?_
  refine y_aload X dX5_init_28 rfl 0 rfl ?_
  refine y_bipush (v := 6) X dX5_init_29 (by decide) ?_
  refine y_newa (atype := .int) (N' := 6) (a0 := (6, .inl fun _ => 0)) X 0 rfl rfl lk_X5_init_a0 (fun _ h => by cases h) (fun _ => rfl) (by decide) (by decide) (by decide) (Nat.le_of_ble_eq_true rfl) (Nat.le_of_ble_eq_true rfl) dX5_init_31 (fun q4 => ?_)
  refine y_putF (ref := RX5) (C := RX5) (T := TX5) (N := 8) (ci := 5) (ws' := (h0, .inr (5, [.int 0, .ref q1, .ref q2, .ref q3, .int 0, .ref q4, .null, .null])) :: (y_ar cy 0 6 q1 ++ y_ar cy 0 6 q2 ++ y_ar cy 0 6 q3 ++ y_ar cy 0 6 q4)) X in_X5_init_X5 tyX5 tyX5_ok nmX5 0 rfl rfl 5 (by decide) lk_X5_init_f21 rfl rfl rfl rfl (Nat.le_of_ble_eq_true rfl) dX5_init_33 rfl ?_
  refine y_aload X dX5_init_36 rfl 0 rfl ?_
  refine y_bipush (v := 6) X dX5_init_37 (by decide) ?_
  refine y_newa (atype := .int) (N' := 6) (a0 := (6, .inl fun _ => 0)) X 0 rfl rfl lk_X5_init_a0 (fun _ h => by cases h) (fun _ => rfl) (by decide) (by decide) (by decide) (Nat.le_of_ble_eq_true rfl) (Nat.le_of_ble_eq_true rfl) dX5_init_39 (fun q5 => ?_)
  refine y_putF (ref := RX5) (C := RX5) (T := TX5) (N := 8) (ci := 5) (ws' := (h0, .inr (5, [.int 0, .ref q1, .ref q2, .ref q3, .int 0, .ref q4, .ref q5, .null])) :: (y_ar cy 0 6 q1 ++ y_ar cy 0 6 q2 ++ y_ar cy 0 6 q3 ++ y_ar cy 0 6 q4 ++ y_ar cy 0 6 q5)) X in_X5_init_X5 tyX5 tyX5_ok nmX5 0 rfl rfl 6 (by decide) lk_X5_init_f24 rfl rfl rfl rfl (Nat.le_of_ble_eq_true rfl) dX5_init_41 rfl ?_
  refine y_aload X dX5_init_44 rfl 0 rfl ?_
  refine y_bipush (v := 6) X dX5_init_45 (by decide) ?_
  refine y_newa (atype := .int) (N' := 6) (a0 := (6, .inl fun _ => 0)) X 0 rfl rfl lk_X5_init_a0 (fun _ h => by cases h) (fun _ => rfl) (by decide) (by decide) (by decide) (Nat.le_of_ble_eq_true rfl) (Nat.le_of_ble_eq_true rfl) dX5_init_47 (fun q6 => ?_)
  refine y_putF (ref := RX5) (C := RX5) (T := TX5) (N := 8) (ci := 5) (ws' := (h0, .inr (5, [.int 0, .ref q1, .ref q2, .ref q3, .int 0, .ref q4, .ref q5, .ref q6])) :: (y_ar cy 0 6 q1 ++ y_ar cy 0 6 q2 ++ y_ar cy 0 6 q3 ++ y_ar cy 0 6 q4 ++ y_ar cy 0 6 q5 ++ y_ar cy 0 6 q6)) X in_X5_init_X5 tyX5 tyX5_ok nmX5 0 rfl rfl 7 (by decide) lk_X5_init_f27 rfl rfl rfl rfl (Nat.le_of_ble_eq_true rfl) dX5_init_49 rfl ?_
  exact y_ret hr hlo X ⟨y_nth [q1, q2, q3, q4, q5, q6], rfl⟩ dX5_init_52
def y_she (cy : Nat → ClassId) (h : Nat) (a : Nat → Nat) : va_W := (h, .inr (4, [.int (-1), .int 0, .ref (a 0)])) :: (y_ar cy 0 40 (a 0))
abbrev rm_X4_init : Room := { frames := 1, cells := 1, slots := 40, locals := 12 }
def fs0X4 : List Value := [.int 0, .int 0, .null]
theorem fs0X4_ok : ∀ j, j < 3 → defaultValue (tyX4 j) = vp_V fs0X4 j := fun j hj => by
  rcases (show j = 0 ∨ j = 1 ∨ j = 2 by omega) with rfl | rfl | rfl <;> rfl
theorem in_X4_init_X4 : ∀ w ∈ wsX40, w ∈ wsX4_init := fun w h => List.mem_cons_of_mem _ (List.mem_append_right _ h)
theorem lk_X4_init_o1 : Cond.methodLink RX4 3 objectInit ∈ wsX4_init := by decide +kernel
theorem lk_X4_init_o2 : Cond.instanceMethod objectInit ∈ wsX4_init := by decide +kernel
theorem lk_X4_init_o3 : Cond.code objectInit ⟨#[0xb1]⟩ 1 none ∈ wsX4_init := by decide +kernel
theorem lk_X4_init_f11 : Cond.fieldLink RX4 11 (TX4 0).1 (TX4 0).2.1 (TX4 0).2.2.1 ∈ wsX4_init := by decide +kernel
theorem lk_X4_init_a0 : Cond.arrayClass .int ∈ wsX4_init := by decide +kernel
theorem lk_X4_init_f15 : Cond.fieldLink RX4 15 (TX4 2).1 (TX4 2).2.1 (TX4 2).2.2.1 ∈ wsX4_init := by decide +kernel
set_option maxHeartbeats 4000000 in
set_option maxRecDepth 100000 in
theorem yc_X4 (l : Launch) (D : va_G) (cy : Nat → ClassId) : y_Ct l D (y_tys cy) y_EX yX4_init wsX4_init rm_X4_init 4 1 40 fs0X4 (fun h u => ∃ a : Nat → Nat, u = y_she cy h a) := by
  refine y_start (by decide) rfl (by decide) rfl ?_
  intro p e s m args below meth c h0 hr hlo hE X
  have X : y_Cx _ cX4_init wsX4_init RX4 (y_tys cy) := X
  refine y_aload X dX4_init_0 rfl 0 rfl ?_
  refine y_obj X lk_X4_init_o1 lk_X4_init_o2 lk_X4_init_o3 dX4_init_1 (by decide) (Nat.le_of_ble_eq_true rfl) ?_
  refine y_aload X dX4_init_4 rfl 0 rfl ?_
  refine y_iconst (v := -1) X dX4_init_5 (by decide) ?_
  refine y_put (ref := RX4) (C := RX4) (T := TX4) (N := 3) (ci := 4) (ws' := (h0, .inr (4, [.int (-1), .int 0, .null])) :: ([])) X in_X4_init_X4 tyX4 tyX4_ok nmX4 0 rfl rfl 0 (by decide) lk_X4_init_f11 rfl rfl rfl (Nat.le_of_ble_eq_true rfl) dX4_init_6 rfl ?_
  refine y_aload X dX4_init_9 rfl 0 rfl ?_
  refine y_bipush (v := 40) X dX4_init_10 (by decide) ?_
  refine y_newa (atype := .int) (N' := 40) (a0 := (40, .inl fun _ => 0)) X 0 rfl rfl lk_X4_init_a0 (fun _ h => by cases h) (fun _ => rfl) (by decide) (by decide) (by decide) (Nat.le_of_ble_eq_true rfl) (Nat.le_of_ble_eq_true rfl) dX4_init_12 (fun q1 => ?_)
  refine y_putF (ref := RX4) (C := RX4) (T := TX4) (N := 3) (ci := 4) (ws' := (h0, .inr (4, [.int (-1), .int 0, .ref q1])) :: (y_ar cy 0 40 q1)) X in_X4_init_X4 tyX4 tyX4_ok nmX4 0 rfl rfl 2 (by decide) lk_X4_init_f15 rfl rfl rfl rfl (Nat.le_of_ble_eq_true rfl) dX4_init_14 rfl ?_
  exact y_ret hr hlo X ⟨y_nth [q1], rfl⟩ dX4_init_17
def y_img (cy : Nat → ClassId) (h : Nat) (o0 : Nat) (b0 : Nat → Nat) (o1 : Nat) (b1 : Nat → Nat) : va_W := (h, .inr (0, [.int 0, .ref o0, .ref o1])) :: (y_led cy o0 b0 ++ y_nts cy o1 b1)
abbrev rm_X0_init : Room := { frames := 2, cells := 10, slots := 55, locals := 32 }
def fs0X0 : List Value := [.int 0, .null, .null]
theorem fs0X0_ok : ∀ j, j < 3 → defaultValue (tyX0 j) = vp_V fs0X0 j := fun j hj => by
  rcases (show j = 0 ∨ j = 1 ∨ j = 2 by omega) with rfl | rfl | rfl <;> rfl
theorem in_X0_init_X0 : ∀ w ∈ wsX00, w ∈ wsX0_init := fun w h => List.mem_cons_of_mem _ (List.mem_append_left _ (List.mem_append_right _ h))
theorem in_X0_init_X1 : ∀ w ∈ wsX10, w ∈ wsX0_init := fun w h => List.mem_cons_of_mem _ (List.mem_append_left _ (List.mem_append_left _ (List.mem_append_right _ h)))
theorem in_X0_init_X2 : ∀ w ∈ wsX20, w ∈ wsX0_init := fun w h => List.mem_cons_of_mem _ (List.mem_append_right _ h)
theorem lk_X0_init_o1 : Cond.methodLink RX0 1 objectInit ∈ wsX0_init := by decide +kernel
theorem lk_X0_init_o2 : Cond.instanceMethod objectInit ∈ wsX0_init := by decide +kernel
theorem lk_X0_init_o3 : Cond.code objectInit ⟨#[0xb1]⟩ 1 none ∈ wsX0_init := by decide +kernel
theorem lk_X0_init_c7 : Cond.classLink RX0 7 RX1 ∈ wsX0_init := by decide +kernel
theorem lk_X0_init_nX1 : Cond.instantiable RX1 11 ∈ wsX0_init := by decide +kernel
theorem lk_X0_init_iX1 : Cond.initialized RX1 ∈ wsX0_init := by decide +kernel
theorem lk_X0_init_mX1 : Cond.instanceMethod yX1_init ∈ wsX0_init := by decide +kernel
theorem lk_X0_init_f10 : Cond.fieldLink RX0 10 (TX0 1).1 (TX0 1).2.1 (TX0 1).2.2.1 ∈ wsX0_init := by decide +kernel
theorem lk_X0_init_c16 : Cond.classLink RX0 16 RX2 ∈ wsX0_init := by decide +kernel
theorem lk_X0_init_nX2 : Cond.instantiable RX2 4 ∈ wsX0_init := by decide +kernel
theorem lk_X0_init_iX2 : Cond.initialized RX2 ∈ wsX0_init := by decide +kernel
theorem lk_X0_init_mX2 : Cond.instanceMethod yX2_init ∈ wsX0_init := by decide +kernel
theorem lk_X0_init_f19 : Cond.fieldLink RX0 19 (TX0 2).1 (TX0 2).2.1 (TX0 2).2.2.1 ∈ wsX0_init := by decide +kernel
set_option maxHeartbeats 4000000 in
set_option maxRecDepth 100000 in
theorem yc_X0 (l : Launch) (D : va_G) (cy : Nat → ClassId) : y_Ct l D (y_tys cy) y_EX yX0_init wsX0_init rm_X0_init 0 10 55 fs0X0 (fun h u => ∃ (o0 : Nat) (b0 : Nat → Nat) (o1 : Nat) (b1 : Nat → Nat), u = y_img cy h o0 b0 o1 b1) := by
  refine y_start (by decide) rfl (by decide) rfl ?_
  intro p e s m args below meth c h0 hr hlo hE X
  have X : y_Cx _ cX0_init wsX0_init RX0 (y_tys cy) := X
  refine y_aload X dX0_init_0 rfl 0 rfl ?_
  refine y_obj X lk_X0_init_o1 lk_X0_init_o2 lk_X0_init_o3 dX0_init_1 (by decide) (Nat.le_of_ble_eq_true rfl) ?_
  refine y_aload X dX0_init_4 rfl 0 rfl ?_
  refine y_sub (C := RX1) (T := TX1) (N := 11) (host := "BlushBank") X y_EX_ok hE (yc_X1 l D cy) in_X0_init_X1 tyX1 tyX1_ok lk_X0_init_c7 lk_X0_init_nX1 lk_X0_init_iX1 rfl fs0X1_ok ggX0_init_X1_init rfl (y_nw6 hE) rfl rfl lk_X0_init_mX1 (by decide +kernel) ⟨by decide, by decide⟩ rfl rfl (Nat.le_of_ble_eq_true rfl) (Nat.le_of_ble_eq_true rfl) (Nat.le_of_ble_eq_true rfl) dX0_init_5 dX0_init_8 dX0_init_9 (fun q1 u1 hu1 => ?_)
  obtain ⟨a1, rfl⟩ := hu1
  refine y_putF (ref := RX0) (C := RX0) (T := TX0) (N := 3) (ci := 0) (ws' := (h0, .inr (0, [.int 0, .ref q1, .null])) :: (y_led cy q1 a1)) X in_X0_init_X0 tyX0 tyX0_ok nmX0 0 rfl rfl 1 (by decide) lk_X0_init_f10 rfl rfl rfl rfl (Nat.le_of_ble_eq_true rfl) dX0_init_12 rfl ?_
  refine y_aload X dX0_init_15 rfl 0 rfl ?_
  refine y_sub (C := RX2) (T := TX2) (N := 4) (host := "BlushBank") X y_EX_ok hE (yc_X2 l D cy) in_X0_init_X2 tyX2 tyX2_ok lk_X0_init_c16 lk_X0_init_nX2 lk_X0_init_iX2 rfl fs0X2_ok ggX0_init_X2_init rfl (y_nw7 hE) rfl rfl lk_X0_init_mX2 (by decide +kernel) ⟨by decide, by decide⟩ rfl rfl (Nat.le_of_ble_eq_true rfl) (Nat.le_of_ble_eq_true rfl) (Nat.le_of_ble_eq_true rfl) dX0_init_16 dX0_init_19 dX0_init_20 (fun q2 u2 hu2 => ?_)
  obtain ⟨a2, rfl⟩ := hu2
  refine y_putF (ref := RX0) (C := RX0) (T := TX0) (N := 3) (ci := 0) (ws' := (h0, .inr (0, [.int 0, .ref q1, .ref q2])) :: (y_led cy q1 a1 ++ y_nts cy q2 a2)) X in_X0_init_X0 tyX0 tyX0_ok nmX0 0 rfl rfl 2 (by decide) lk_X0_init_f19 rfl rfl rfl rfl (Nat.le_of_ble_eq_true rfl) dX0_init_23 rfl ?_
  exact y_ret hr hlo X ⟨q1, a1, q2, a2, rfl⟩ dX0_init_26
def y_scr (cy : Nat → ClassId) (h : Nat) (o0 : Nat) (b0 : Nat → Nat) (o1 : Nat) (b1 : Nat → Nat) (a : Nat → Nat) : va_W := (h, .inr (3, [.ref o0, .ref o1, .int 0, .int 0, .ref (a 0), .ref (a 1), .int 0, .int 0, .int 0, .int 0, .int 0, .int 0])) :: (y_sto cy o0 b0 ++ y_led cy o1 b1 ++ y_ar cy 1 160 (a 0) ++ y_ar cy 0 4 (a 1))
abbrev rm_X3_init : Room := { frames := 2, cells := 15, slots := 241, locals := 32 }
def fs0X3 : List Value := [.null, .null, .int 0, .int 0, .null, .null, .int 0, .int 0, .int 0, .int 0, .int 0, .int 0]
theorem fs0X3_ok : ∀ j, j < 12 → defaultValue (tyX3 j) = vp_V fs0X3 j := fun j hj => by
  rcases (show j = 0 ∨ j = 1 ∨ j = 2 ∨ j = 3 ∨ j = 4 ∨ j = 5 ∨ j = 6 ∨ j = 7 ∨ j = 8 ∨ j = 9 ∨ j = 10 ∨ j = 11 by omega) with rfl | rfl | rfl | rfl | rfl | rfl | rfl | rfl | rfl | rfl | rfl | rfl <;> rfl
theorem in_X3_init_X1 : ∀ w ∈ wsX10, w ∈ wsX3_init := fun w h => List.mem_cons_of_mem _ (List.mem_append_right _ h)
theorem in_X3_init_X3 : ∀ w ∈ wsX30, w ∈ wsX3_init := fun w h => List.mem_cons_of_mem _ (List.mem_append_left _ (List.mem_append_right _ h))
theorem in_X3_init_X5 : ∀ w ∈ wsX50, w ∈ wsX3_init := fun w h => List.mem_cons_of_mem _ (List.mem_append_left _ (List.mem_append_left _ (List.mem_append_right _ h)))
theorem lk_X3_init_o1 : Cond.methodLink RX3 3 objectInit ∈ wsX3_init := by decide +kernel
theorem lk_X3_init_o2 : Cond.instanceMethod objectInit ∈ wsX3_init := by decide +kernel
theorem lk_X3_init_o3 : Cond.code objectInit ⟨#[0xb1]⟩ 1 none ∈ wsX3_init := by decide +kernel
theorem lk_X3_init_c9 : Cond.classLink RX3 9 RX5 ∈ wsX3_init := by decide +kernel
theorem lk_X3_init_nX5 : Cond.instantiable RX5 8 ∈ wsX3_init := by decide +kernel
theorem lk_X3_init_iX5 : Cond.initialized RX5 ∈ wsX3_init := by decide +kernel
theorem lk_X3_init_mX5 : Cond.instanceMethod yX5_init ∈ wsX3_init := by decide +kernel
theorem lk_X3_init_f12 : Cond.fieldLink RX3 12 (TX3 0).1 (TX3 0).2.1 (TX3 0).2.2.1 ∈ wsX3_init := by decide +kernel
theorem lk_X3_init_c18 : Cond.classLink RX3 18 RX1 ∈ wsX3_init := by decide +kernel
theorem lk_X3_init_nX1 : Cond.instantiable RX1 11 ∈ wsX3_init := by decide +kernel
theorem lk_X3_init_iX1 : Cond.initialized RX1 ∈ wsX3_init := by decide +kernel
theorem lk_X3_init_mX1 : Cond.instanceMethod yX1_init ∈ wsX3_init := by decide +kernel
theorem lk_X3_init_f21 : Cond.fieldLink RX3 21 (TX3 1).1 (TX3 1).2.1 (TX3 1).2.2.1 ∈ wsX3_init := by decide +kernel
theorem lk_X3_init_a1 : Cond.arrayClass .byte ∈ wsX3_init := by decide +kernel
theorem lk_X3_init_f25 : Cond.fieldLink RX3 25 (TX3 4).1 (TX3 4).2.1 (TX3 4).2.2.1 ∈ wsX3_init := by decide +kernel
theorem lk_X3_init_a0 : Cond.arrayClass .int ∈ wsX3_init := by decide +kernel
theorem lk_X3_init_f29 : Cond.fieldLink RX3 29 (TX3 5).1 (TX3 5).2.1 (TX3 5).2.2.1 ∈ wsX3_init := by decide +kernel
set_option maxHeartbeats 4000000 in
set_option maxRecDepth 100000 in
theorem yc_X3 (l : Launch) (D : va_G) (cy : Nat → ClassId) : y_Ct l D (y_tys cy) y_EX yX3_init wsX3_init rm_X3_init 3 15 241 fs0X3 (fun h u => ∃ (o0 : Nat) (b0 : Nat → Nat) (o1 : Nat) (b1 : Nat → Nat) (a : Nat → Nat), u = y_scr cy h o0 b0 o1 b1 a) := by
  refine y_start (by decide) rfl (by decide) rfl ?_
  intro p e s m args below meth c h0 hr hlo hE X
  have X : y_Cx _ cX3_init wsX3_init RX3 (y_tys cy) := X
  refine y_aload X dX3_init_0 rfl 0 rfl ?_
  refine y_obj X lk_X3_init_o1 lk_X3_init_o2 lk_X3_init_o3 dX3_init_1 (by decide) (Nat.le_of_ble_eq_true rfl) ?_
  refine y_aload X dX3_init_4 rfl 0 rfl ?_
  refine y_sub (C := RX5) (T := TX5) (N := 8) (host := "BlushBank") X y_EX_ok hE (yc_X5 l D cy) in_X3_init_X5 tyX5 tyX5_ok lk_X3_init_c9 lk_X3_init_nX5 lk_X3_init_iX5 rfl fs0X5_ok ggX3_init_X5_init rfl (y_nw8 hE) rfl rfl lk_X3_init_mX5 (by decide +kernel) ⟨by decide, by decide⟩ rfl rfl (Nat.le_of_ble_eq_true rfl) (Nat.le_of_ble_eq_true rfl) (Nat.le_of_ble_eq_true rfl) dX3_init_5 dX3_init_8 dX3_init_9 (fun q1 u1 hu1 => ?_)
  obtain ⟨a1, rfl⟩ := hu1
  refine y_putF (ref := RX3) (C := RX3) (T := TX3) (N := 12) (ci := 3) (ws' := (h0, .inr (3, [.ref q1, .null, .int 0, .int 0, .null, .null, .int 0, .int 0, .int 0, .int 0, .int 0, .int 0])) :: (y_sto cy q1 a1)) X in_X3_init_X3 tyX3 tyX3_ok nmX3 0 rfl rfl 0 (by decide) lk_X3_init_f12 rfl rfl rfl rfl (Nat.le_of_ble_eq_true rfl) dX3_init_12 rfl ?_
  refine y_aload X dX3_init_15 rfl 0 rfl ?_
  refine y_sub (C := RX1) (T := TX1) (N := 11) (host := "BlushBank") X y_EX_ok hE (yc_X1 l D cy) in_X3_init_X1 tyX1 tyX1_ok lk_X3_init_c18 lk_X3_init_nX1 lk_X3_init_iX1 rfl fs0X1_ok ggX3_init_X1_init rfl (y_nw9 hE) rfl rfl lk_X3_init_mX1 (by decide +kernel) ⟨by decide, by decide⟩ rfl rfl (Nat.le_of_ble_eq_true rfl) (Nat.le_of_ble_eq_true rfl) (Nat.le_of_ble_eq_true rfl) dX3_init_16 dX3_init_19 dX3_init_20 (fun q2 u2 hu2 => ?_)
  obtain ⟨a2, rfl⟩ := hu2
  refine y_putF (ref := RX3) (C := RX3) (T := TX3) (N := 12) (ci := 3) (ws' := (h0, .inr (3, [.ref q1, .ref q2, .int 0, .int 0, .null, .null, .int 0, .int 0, .int 0, .int 0, .int 0, .int 0])) :: (y_sto cy q1 a1 ++ y_led cy q2 a2)) X in_X3_init_X3 tyX3 tyX3_ok nmX3 0 rfl rfl 1 (by decide) lk_X3_init_f21 rfl rfl rfl rfl (Nat.le_of_ble_eq_true rfl) dX3_init_23 rfl ?_
  refine y_aload X dX3_init_26 rfl 0 rfl ?_
  refine y_sipush (v := 160) X dX3_init_27 (by decide) ?_
  refine y_newa (atype := .byte) (N' := 160) (a0 := (160, .inl fun _ => 0)) X 1 rfl rfl lk_X3_init_a1 (fun _ h => by cases h) (fun _ => rfl) (by decide) (by decide) (by decide) (Nat.le_of_ble_eq_true rfl) (Nat.le_of_ble_eq_true rfl) dX3_init_30 (fun q3 => ?_)
  refine y_putF (ref := RX3) (C := RX3) (T := TX3) (N := 12) (ci := 3) (ws' := (h0, .inr (3, [.ref q1, .ref q2, .int 0, .int 0, .ref q3, .null, .int 0, .int 0, .int 0, .int 0, .int 0, .int 0])) :: (y_sto cy q1 a1 ++ y_led cy q2 a2 ++ y_ar cy 1 160 q3)) X in_X3_init_X3 tyX3 tyX3_ok nmX3 0 rfl rfl 4 (by decide) lk_X3_init_f25 rfl rfl rfl rfl (Nat.le_of_ble_eq_true rfl) dX3_init_32 rfl ?_
  refine y_aload X dX3_init_35 rfl 0 rfl ?_
  refine y_iconst (v := 4) X dX3_init_36 (by decide) ?_
  refine y_newa (atype := .int) (N' := 4) (a0 := (4, .inl fun _ => 0)) X 0 rfl rfl lk_X3_init_a0 (fun _ h => by cases h) (fun _ => rfl) (by decide) (by decide) (by decide) (Nat.le_of_ble_eq_true rfl) (Nat.le_of_ble_eq_true rfl) dX3_init_37 (fun q4 => ?_)
  refine y_putF (ref := RX3) (C := RX3) (T := TX3) (N := 12) (ci := 3) (ws' := (h0, .inr (3, [.ref q1, .ref q2, .int 0, .int 0, .ref q3, .ref q4, .int 0, .int 0, .int 0, .int 0, .int 0, .int 0])) :: (y_sto cy q1 a1 ++ y_led cy q2 a2 ++ y_ar cy 1 160 q3 ++ y_ar cy 0 4 q4)) X in_X3_init_X3 tyX3 tyX3_ok nmX3 0 rfl rfl 5 (by decide) lk_X3_init_f29 rfl rfl rfl rfl (Nat.le_of_ble_eq_true rfl) dX3_init_39 rfl ?_
  exact y_ret hr hlo X ⟨q1, a1, q2, a2, y_nth [q3, q4], rfl⟩ dX3_init_42
