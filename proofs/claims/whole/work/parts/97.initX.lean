/-! ===== the class's own world at its start ===== -/
def y_zr : Nat → Int32 := fun _ => 0
def y_lr : Nat → Int32 := fun k => [0, 0, 0, 0, 0, 0, 0, 1, 20, 0, 0].getD k 0
def y_sr : Nat → Int32 := fun k => [-1, 0, 0].getD k 0
def y_rx : List (Nat → Int32) := [y_zr, y_zr, y_zr, y_zr, y_zr, y_zr, y_zr, y_zr, y_zr, y_zr, y_zr, y_lr, y_zr, y_zr, y_zr, y_zr, y_zr, y_lr, y_zr, y_zr, y_zr, y_zr, y_zr, y_zr, y_zr, y_zr, y_zr, y_zr, y_zr, y_zr, y_zr, y_zr, y_zr, y_zr, y_zr, y_zr, y_zr, y_lr, y_zr, y_zr, y_zr, y_zr, y_zr, y_zr, y_lr, y_zr, y_zr, y_zr, y_zr, y_zr, y_zr, y_zr, y_zr, y_zr, y_zr, y_lr, y_zr, y_zr, y_zr, y_zr, y_zr, y_zr, y_zr, y_zr, y_zr, y_sr, y_zr, y_sr, y_zr, y_sr, y_zr, y_sr, y_zr]
def y_x0 : z_St := fun c => y_rx.getD c y_zr
def y_ad (L : List Nat) (g : Nat → Nat) : Nat → Nat := fun c => L.getD c (g (c - 1000))
theorem y_ad_st (L : List Nat) (g : Nat → Nat) (hL : L.length ≤ 1000) (i : Nat) : y_ad L g (1000 + i) = g i := by
  unfold y_ad
  rw [List.getD_eq_getElem?_getD, List.getElem?_eq_none (by omega), Option.getD_none, Nat.add_sub_cancel_left]
/-- the world, cell by cell -/
def y_mk (cy : Nat → ClassId) (ad : Nat → Nat) (σ : z_St) : Nat → List z_Sh → va_W
  | _, [] => []
  | c, sh :: r => (ad c, z_en cy ad sh (σ c)) :: y_mk cy ad σ (c + 1) r
theorem y_mk_get (cy : Nat → ClassId) (ad : Nat → Nat) (σ : z_St) : ∀ (l : List z_Sh) (c i : Nat), (y_mk cy ad σ c l)[i]? = (l[i]?).map (fun sh => (ad (c + i), z_en cy ad sh (σ (c + i))))
  | [], c, i => by simp [y_mk]
  | sh :: r, c, 0 => by simp [y_mk]
  | sh :: r, c, i + 1 => by
    rw [y_mk, List.getElem?_cons_succ, List.getElem?_cons_succ, y_mk_get cy ad σ r (c + 1) i, show c + 1 + i = c + (i + 1) by omega]
theorem y_mk_W (V : z_V) (σ : z_St) : z_W V σ = y_mk V.2.1 (z_ad V) σ 0 (z_sh V) := by
  apply List.ext_getElem?
  intro i
  rw [y_mk_get, z_W, List.getElem?_mapIdx, Nat.zero_add]
theorem y_flat {α : Type} (f : Nat → Option α) : ∀ (is : List Nat) (l : List α), is.map f = l.map some → is.filterMap f = l
  | [], [], _ => rfl
  | [], b :: l, h => by simp at h
  | i :: is, [], h => by simp at h
  | i :: is, b :: l, h => by
    rw [List.map_cons, List.map_cons] at h
    injection h with h1 h2
    rw [List.filterMap_cons, h1, y_flat f is l h2]
theorem y_sel {N : y_N} {ws ws' : va_W} {cells slots pc : Nat} {lv : List (Nat × Value)} {st : List Value} (is : List Nat) (hn : va_nd is = true) (hs : is.map (fun i => ws[i]?) = ws'.map some) (kk : y_Go N ws' cells slots pc lv st) : y_Go N ws cells slots pc lv st := fun ls H locs hl hP hD hS => kk ls H locs hl (hP.sub is (y_flat _ is ws' hs)) (hD.sub is hn hs) hS
theorem y_c {α : Type} {f : Nat → Option α} {i : Nat} {is : List Nat} {b : α} {l : List α} (h : f i = some b) (t : is.map f = l.map some) : (i :: is).map f = (b :: l).map some := by rw [List.map_cons, List.map_cons, h, t]
theorem y_n {α : Type} {f : Nat → Option α} : ([] : List Nat).map f = ([] : List α).map some := rfl
theorem y_set_l {α : Type} {A A' B : List α} {k : Nat} {e : α} (hk : k < A.length) (h : A.set k e = A') : (A ++ B).set k e = A' ++ B := by rw [List.set_append_left _ _ hk, h]
theorem y_set_r {α : Type} {A : List α} {v e : α} {k : Nat} (hk : k = A.length) : (A ++ [v]).set k e = A ++ [e] := by
  subst hk
  rw [List.set_append_right _ _ (Nat.le_refl _), Nat.sub_self]; rfl
theorem y_hw {α : Type} {h : α} {S S' u : List α} {k : Nat} {e : α} (hk : k < S.length) (hs : S.set k e = S') : ((h :: S) ++ u).set (k + 1) e = h :: (S' ++ u) := by rw [List.cons_append, List.set_cons_succ, List.set_append_left _ _ hk, hs]
theorem y_hv {α : Type} {h e : α} {S r : List α} {k : Nat} (hk : k = S.length + 1) : ((h :: S) ++ (e :: r))[k]? = some e := by
  subst hk
  rw [List.getElem?_append_right (by rw [List.length_cons]; exact Nat.le_refl _), List.length_cons, Nat.sub_self]; rfl
theorem y_led_len (cy : Nat → ClassId) (h : Nat) (a : Nat → Nat) : (y_led cy h a).length = 6 := rfl
theorem y_nts_len (cy : Nat → ClassId) (h : Nat) (a : Nat → Nat) : (y_nts cy h a).length = 4 := rfl
theorem y_sto_len (cy : Nat → ClassId) (h : Nat) (a : Nat → Nat) : (y_sto cy h a).length = 7 := rfl
theorem y_she_len (cy : Nat → ClassId) (h : Nat) (a : Nat → Nat) : (y_she cy h a).length = 2 := rfl
theorem y_img_len (cy : Nat → ClassId) (h o : Nat) (b : Nat → Nat) (o' : Nat) (b' : Nat → Nat) : (y_img cy h o b o' b').length = 11 := rfl
theorem y_scr_len (cy : Nat → ClassId) (h o : Nat) (b : Nat → Nat) (o' : Nat) (b' a : Nat → Nat) : (y_scr cy h o b o' b' a).length = 16 := rfl
theorem y_ar_len (cy : Nat → ClassId) (t n q : Nat) : (y_ar cy t n q).length = 1 := rfl
theorem y_rq_len (cA : ClassId) (n : Nat) (f : Nat → Option Nat) (q : Nat) : (y_rq cA n f q).length = 1 := rfl
theorem y_q2 (ad : Nat → Nat) : va_up (va_up (fun _ => none) 0 (some (ad 43))) 1 (some (ad 54)) = fun k => (([43, 54] : List Nat)[k]?).map ad := by
  funext k
  match k with
  | 0 => rfl
  | 1 => rfl
  | k + 2 => simp [va_up]
theorem y_q4 (ad : Nat → Nat) : va_up (va_up (va_up (va_up (fun _ => none) 0 (some (ad 65))) 1 (some (ad 67))) 2 (some (ad 69))) 3 (some (ad 71)) = fun k => (([65, 67, 69, 71] : List Nat)[k]?).map ad := by
  funext k
  match k with
  | 0 => rfl
  | 1 => rfl
  | 2 => rfl
  | 3 => rfl
  | k + 4 => simp [va_up]
abbrev rm_X6_init : Room := { frames := 3, cells := 72, slots := 683, locals := 52 }
def fs0X6 : List Value := [.null, .null, .null, .null, .null, .null, .null, .null, .int 0]
theorem fs0X6_ok : ∀ j, j < 9 → defaultValue (tyX6 j) = vp_V fs0X6 j := fun j hj => by
  rcases (show j = 0 ∨ j = 1 ∨ j = 2 ∨ j = 3 ∨ j = 4 ∨ j = 5 ∨ j = 6 ∨ j = 7 ∨ j = 8 by omega) with rfl | rfl | rfl | rfl | rfl | rfl | rfl | rfl | rfl <;> rfl
theorem in_X6_init_X0 : ∀ w ∈ wsX00, w ∈ wsX6_init := fun w h => List.mem_cons_of_mem _ (List.mem_append_left _ (List.mem_append_right _ h))
theorem in_X6_init_X1 : ∀ w ∈ wsX10, w ∈ wsX6_init := fun w h => List.mem_cons_of_mem _ (List.mem_append_left _ (List.mem_append_left _ (List.mem_append_left _ (List.mem_append_right _ h))))
theorem in_X6_init_X2 : ∀ w ∈ wsX20, w ∈ wsX6_init := fun w h => List.mem_cons_of_mem _ (List.mem_append_left _ (List.mem_append_left _ (List.mem_append_right _ h)))
theorem in_X6_init_X3 : ∀ w ∈ wsX30, w ∈ wsX6_init := fun w h => List.mem_cons_of_mem _ (List.mem_append_left _ (List.mem_append_left _ (List.mem_append_left _ (List.mem_append_left _ (List.mem_append_left _ (List.mem_append_left _ (List.mem_append_right _ h)))))))
theorem in_X6_init_X4 : ∀ w ∈ wsX40, w ∈ wsX6_init := fun w h => List.mem_cons_of_mem _ (List.mem_append_right _ h)
theorem in_X6_init_X5 : ∀ w ∈ wsX50, w ∈ wsX6_init := fun w h => List.mem_cons_of_mem _ (List.mem_append_left _ (List.mem_append_left _ (List.mem_append_left _ (List.mem_append_left _ (List.mem_append_right _ h)))))
theorem in_X6_init_X6 : ∀ w ∈ wsX60, w ∈ wsX6_init := fun w h => List.mem_cons_of_mem _ (List.mem_append_left _ (List.mem_append_left _ (List.mem_append_left _ (List.mem_append_left _ (List.mem_append_left _ (List.mem_append_right _ h))))))
theorem lk_X6_init_o1 : Cond.methodLink RX6 1 objectInit ∈ wsX6_init := by decide +kernel
theorem lk_X6_init_o2 : Cond.instanceMethod objectInit ∈ wsX6_init := by decide +kernel
theorem lk_X6_init_o3 : Cond.code objectInit ⟨#[0xb1]⟩ 1 none ∈ wsX6_init := by decide +kernel
theorem lk_X6_init_c7 : Cond.classLink RX6 7 RX3 ∈ wsX6_init := by decide +kernel
theorem lk_X6_init_nX3 : Cond.instantiable RX3 12 ∈ wsX6_init := by decide +kernel
theorem lk_X6_init_iX3 : Cond.initialized RX3 ∈ wsX6_init := by decide +kernel
theorem lk_X6_init_mX3 : Cond.instanceMethod yX3_init ∈ wsX6_init := by decide +kernel
theorem lk_X6_init_f10 : Cond.fieldLink RX6 10 (TX6 0).1 (TX6 0).2.1 (TX6 0).2.2.1 ∈ wsX6_init := by decide +kernel
theorem lk_X6_init_c16 : Cond.classLink RX6 16 RX5 ∈ wsX6_init := by decide +kernel
theorem lk_X6_init_nX5 : Cond.instantiable RX5 8 ∈ wsX6_init := by decide +kernel
theorem lk_X6_init_iX5 : Cond.initialized RX5 ∈ wsX6_init := by decide +kernel
theorem lk_X6_init_mX5 : Cond.instanceMethod yX5_init ∈ wsX6_init := by decide +kernel
theorem lk_X6_init_f19 : Cond.fieldLink RX6 19 (TX6 1).1 (TX6 1).2.1 (TX6 1).2.2.1 ∈ wsX6_init := by decide +kernel
theorem lk_X6_init_c23 : Cond.classLink RX6 23 RX1 ∈ wsX6_init := by decide +kernel
theorem lk_X6_init_nX1 : Cond.instantiable RX1 11 ∈ wsX6_init := by decide +kernel
theorem lk_X6_init_iX1 : Cond.initialized RX1 ∈ wsX6_init := by decide +kernel
theorem lk_X6_init_mX1 : Cond.instanceMethod yX1_init ∈ wsX6_init := by decide +kernel
theorem lk_X6_init_f26 : Cond.fieldLink RX6 26 (TX6 2).1 (TX6 2).2.1 (TX6 2).2.2.1 ∈ wsX6_init := by decide +kernel
theorem lk_X6_init_c30 : Cond.classLink RX6 30 RX2 ∈ wsX6_init := by decide +kernel
theorem lk_X6_init_nX2 : Cond.instantiable RX2 4 ∈ wsX6_init := by decide +kernel
theorem lk_X6_init_iX2 : Cond.initialized RX2 ∈ wsX6_init := by decide +kernel
theorem lk_X6_init_mX2 : Cond.instanceMethod yX2_init ∈ wsX6_init := by decide +kernel
theorem lk_X6_init_f33 : Cond.fieldLink RX6 33 (TX6 3).1 (TX6 3).2.1 (TX6 3).2.2.1 ∈ wsX6_init := by decide +kernel
theorem lk_X6_init_f37 : Cond.fieldLink RX6 37 (TX6 4).1 (TX6 4).2.1 (TX6 4).2.2.1 ∈ wsX6_init := by decide +kernel
theorem lk_X6_init_a0 : Cond.arrayClass .int ∈ wsX6_init := by decide +kernel
theorem lk_X6_init_f40 : Cond.fieldLink RX6 40 (TX6 5).1 (TX6 5).2.1 (TX6 5).2.2.1 ∈ wsX6_init := by decide +kernel
theorem lk_X6_init_c44 : Cond.classLink RX6 44 RX0 ∈ wsX6_init := by decide +kernel
theorem lk_X6_init_f46 : Cond.fieldLink RX6 46 (TX6 6).1 (TX6 6).2.1 (TX6 6).2.2.1 ∈ wsX6_init := by decide +kernel
theorem lk_X6_init_c50 : Cond.classLink RX6 50 RX4 ∈ wsX6_init := by decide +kernel
theorem lk_X6_init_f52 : Cond.fieldLink RX6 52 (TX6 7).1 (TX6 7).2.1 (TX6 7).2.2.1 ∈ wsX6_init := by decide +kernel
theorem lk_X6_init_nX0 : Cond.instantiable RX0 3 ∈ wsX6_init := by decide +kernel
theorem lk_X6_init_iX0 : Cond.initialized RX0 ∈ wsX6_init := by decide +kernel
theorem lk_X6_init_mX0 : Cond.instanceMethod yX0_init ∈ wsX6_init := by decide +kernel
theorem lk_X6_init_nX4 : Cond.instantiable RX4 3 ∈ wsX6_init := by decide +kernel
theorem lk_X6_init_iX4 : Cond.initialized RX4 ∈ wsX6_init := by decide +kernel
theorem lk_X6_init_mX4 : Cond.instanceMethod yX4_init ∈ wsX6_init := by decide +kernel
