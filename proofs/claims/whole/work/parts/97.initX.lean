/-! ===== the class's own world at its start ===== -/
def y_zr : Nat → Int32 := fun _ => 0
def y_lr : Nat → Int32 := fun k => [0, 0, 0, 0, 0, 0, 0, 1, 20, 0, 0].getD k 0
def y_sr : Nat → Int32 := fun k => [-1, 0, 0].getD k 0
def y_rx : List (Nat → Int32) := [y_zr, y_zr, y_zr, y_zr, y_zr, y_zr, y_zr, y_zr, y_zr, y_zr, y_zr, y_lr, y_zr, y_zr, y_zr, y_zr, y_zr, y_lr, y_zr, y_zr, y_zr, y_zr, y_zr, y_zr, y_zr, y_zr, y_zr, y_zr, y_zr, y_zr, y_zr, y_zr, y_zr, y_zr, y_zr, y_zr, y_zr, y_lr, y_zr, y_zr, y_zr, y_zr, y_zr, y_zr, y_lr, y_zr, y_zr, y_zr, y_zr, y_zr, y_zr, y_zr, y_zr, y_zr, y_zr, y_lr, y_zr, y_zr, y_zr, y_zr, y_zr, y_zr, y_zr, y_zr, y_zr, y_sr, y_zr, y_sr, y_zr, y_sr, y_zr, y_sr, y_zr]
def y_x0 : z_St := fun c => y_rx.getD c y_zr
def y_ad (L : List Nat) (g : Nat → Nat) : Nat → Nat := fun c => L.getD c (g (c - 1000))
theorem y_ad_st (L : List Nat) (g : Nat → Nat) (hL : L.length ≤ 1000) (i : Nat) : y_ad L g (1000 + i) = g i := by
  unfold y_ad
  rw [List.getD_eq_getElem?_getD, List.getElem?_eq_none (by omega), Option.getD_none, Nat.add_sub_cancel_left]
/-- the world, cell by cell -/
def y_mk (cy : Nat → ClassId) (ad : Nat → Nat) (σ : z_St) : Nat → List z_Sh → va_W
  | _, [] => []
  | c, sh :: r => (ad c, z_en cy ad sh (σ c)) :: y_mk cy ad σ (c + 1) r
theorem y_mk_get (cy : Nat → ClassId) (ad : Nat → Nat) (σ : z_St) : ∀ (l : List z_Sh) (c i : Nat), (y_mk cy ad σ c l)[i]? = (l[i]?).map (fun sh => (ad (c + i), z_en cy ad sh (σ (c + i))))
  | [], c, i => by simp [y_mk]
  | sh :: r, c, 0 => by simp [y_mk]
  | sh :: r, c, i + 1 => by
    rw [y_mk, List.getElem?_cons_succ, List.getElem?_cons_succ, y_mk_get cy ad σ r (c + 1) i, show c + 1 + i = c + (i + 1) by omega]
theorem y_mk_W (V : z_V) (σ : z_St) : z_W V σ = y_mk V.2.1 (z_ad V) σ 0 (z_sh V) := by
  apply List.ext_getElem?
  intro i
  rw [y_mk_get, z_W, List.getElem?_mapIdx, Nat.zero_add]
theorem y_flat {α : Type} (f : Nat → Option α) : ∀ (is : List Nat) (l : List α), is.map f = l.map some → is.filterMap f = l
  | [], [], _ => rfl
  | [], b :: l, h => by simp at h
  | i :: is, [], h => by simp at h
  | i :: is, b :: l, h => by
    rw [List.map_cons, List.map_cons] at h
    injection h with h1 h2
    rw [List.filterMap_cons, h1, y_flat f is l h2]
theorem y_sel {N : y_N} {ws ws' : va_W} {cells slots pc : Nat} {lv : List (Nat × Value)} {st : List Value} (is : List Nat) (hn : va_nd is = true) (hs : is.map (fun i => ws[i]?) = ws'.map some) (kk : y_Go N ws' cells slots pc lv st) : y_Go N ws cells slots pc lv st := fun ls H locs hl hP hD hS => kk ls H locs hl (hP.sub is (y_flat _ is ws' hs)) (hD.sub is hn hs) hS
theorem y_c {α : Type} {f : Nat → Option α} {i : Nat} {is : List Nat} {b : α} {l : List α} (h : f i = some b) (t : is.map f = l.map some) : (i :: is).map f = (b :: l).map some := by rw [List.map_cons, List.map_cons, h, t]
theorem y_n {α : Type} {f : Nat → Option α} : ([] : List Nat).map f = ([] : List α).map some := rfl
theorem y_set_l {α : Type} {A A' B : List α} {k : Nat} {e : α} (hk : k < A.length) (h : A.set k e = A') : (A ++ B).set k e = A' ++ B := by rw [List.set_append_left _ _ hk, h]
theorem y_set_r {α : Type} {A : List α} {v e : α} {k : Nat} (hk : k = A.length) : (A ++ [v]).set k e = A ++ [e] := by
  subst hk
  rw [List.set_append_right _ _ (Nat.le_refl _), Nat.sub_self]; rfl
theorem y_hw {α : Type} {h : α} {S S' u : List α} {k : Nat} {e : α} (hk : k < S.length) (hs : S.set k e = S') : ((h :: S) ++ u).set (k + 1) e = h :: (S' ++ u) := by rw [List.cons_append, List.set_cons_succ, List.set_append_left _ _ hk, hs]
theorem y_hv {α : Type} {h e : α} {S r : List α} {k : Nat} (hk : k = S.length + 1) : ((h :: S) ++ (e :: r))[k]? = some e := by
  subst hk
  rw [List.getElem?_append_right (by rw [List.length_cons]; exact Nat.le_refl _), List.length_cons, Nat.sub_self]; rfl
theorem y_led_len (cy : Nat → ClassId) (h : Nat) (a : Nat → Nat) : (y_led cy h a).length = 6 := rfl
theorem y_nts_len (cy : Nat → ClassId) (h : Nat) (a : Nat → Nat) : (y_nts cy h a).length = 4 := rfl
theorem y_sto_len (cy : Nat → ClassId) (h : Nat) (a : Nat → Nat) : (y_sto cy h a).length = 7 := rfl
theorem y_she_len (cy : Nat → ClassId) (h : Nat) (a : Nat → Nat) : (y_she cy h a).length = 2 := rfl
theorem y_img_len (cy : Nat → ClassId) (h o : Nat) (b : Nat → Nat) (o' : Nat) (b' : Nat → Nat) : (y_img cy h o b o' b').length = 11 := rfl
theorem y_scr_len (cy : Nat → ClassId) (h o : Nat) (b : Nat → Nat) (o' : Nat) (b' a : Nat → Nat) : (y_scr cy h o b o' b' a).length = 16 := rfl
theorem y_ar_len (cy : Nat → ClassId) (t n q : Nat) : (y_ar cy t n q).length = 1 := rfl
theorem y_rq_len (cA : ClassId) (n : Nat) (f : Nat → Option Nat) (q : Nat) : (y_rq cA n f q).length = 1 := rfl
theorem y_q2 (ad : Nat → Nat) : va_up (va_up (fun _ => none) 0 (some (ad 43))) 1 (some (ad 54)) = fun k => (([43, 54] : List Nat)[k]?).map ad := by
  funext k
  match k with
  | 0 => rfl
  | 1 => rfl
  | k + 2 => simp [va_up]
theorem y_q4 (ad : Nat → Nat) : va_up (va_up (va_up (va_up (fun _ => none) 0 (some (ad 65))) 1 (some (ad 67))) 2 (some (ad 69))) 3 (some (ad 71)) = fun k => (([65, 67, 69, 71] : List Nat)[k]?).map ad := by
  funext k
  match k with
  | 0 => rfl
  | 1 => rfl
  | 2 => rfl
  | 3 => rfl
  | k + 4 => simp [va_up]
def y_ww (h : Nat × va_E) (P : va_W) (x y : Nat × va_E) (T : va_W) : va_W := h :: (P ++ (x :: y :: T))
theorem y_ww_eq (h : Nat × va_E) (P : va_W) (x y : Nat × va_E) : h :: (P ++ [x] ++ [y]) = y_ww h P x y [] := by simp [y_ww]
theorem y_ww_7 (h : Nat × va_E) (P : va_W) (x y : Nat × va_E) (T u : va_W) : (y_ww h P x y T ++ u)[P.length + 1]? = some x := by
  unfold y_ww
  rw [List.cons_append, List.getElem?_cons_succ, List.append_assoc, List.getElem?_append_right (Nat.le_refl _), Nat.sub_self]; rfl
theorem y_ww_8 (h : Nat × va_E) (P : va_W) (x y : Nat × va_E) (T u : va_W) : (y_ww h P x y T ++ u)[P.length + 1 + 1]? = some y := by
  unfold y_ww
  rw [List.cons_append, List.getElem?_cons_succ, List.append_assoc, List.getElem?_append_right (Nat.le_add_right _ 1), Nat.add_sub_cancel_left]; rfl
theorem y_ww_u (h : Nat × va_E) (P : va_W) (x y : Nat × va_E) (T : va_W) (e : Nat × va_E) (r : va_W) : (y_ww h P x y T ++ (e :: r))[(y_ww h P x y T).length]? = some e := by
  rw [List.getElem?_append_right (Nat.le_refl _), Nat.sub_self]; rfl
theorem y_ww_s7 (h : Nat × va_E) (P : va_W) (x y x' : Nat × va_E) (T u : va_W) : (y_ww h P x y T ++ u).set (P.length + 1) x' = y_ww h P x' y (T ++ u) := by
  unfold y_ww
  rw [List.cons_append, List.set_cons_succ, List.append_assoc, List.set_append_right _ _ (Nat.le_refl _), Nat.sub_self]; rfl
theorem y_ww_s8 (h : Nat × va_E) (P : va_W) (x y y' : Nat × va_E) (T u : va_W) : (y_ww h P x y T ++ u).set (P.length + 1 + 1) y' = y_ww h P x y' (T ++ u) := by
  unfold y_ww
  rw [List.cons_append, List.set_cons_succ, List.append_assoc, List.set_append_right _ _ (Nat.le_add_right _ 1), Nat.add_sub_cancel_left]; rfl
theorem y_eqw {N : y_N} {ws ws' : va_W} {cells slots pc : Nat} {lv : List (Nat × Value)} {st : List Value} (h : ws = ws') (kk : y_Go N ws' cells slots pc lv st) : y_Go N ws cells slots pc lv st := by rw [h]; exact kk
section YW
variable {p : Program} {l : Launch} {e : Env} {R : Room} {s : State} {m : MethodId} {args : Array Value} {below : List Frame} {meth : Method} {c : Code} {Q : State → Prop} {D : va_G} {A : Nat → Prop} {nL : Nat} {cc : ByteArray} {Ts : List Cond} {own : String} {tys : List (ClassId × FieldType)} {cells slots pc : Nat} {lv : List (Nat × Value)} {rest : List Value}
theorem y_ast7 (X : y_Cx (p, l, e, R, s, m, args, below, meth, c, Q, D, A, nL) cc Ts own tys) (t0 ci : Nat) {h y : Nat × va_E} {P T u r0 : va_W} {a : Nat} {cA : ClassId} {r : vw_C} {n v k : Nat} {vs : List Value} {f : Nat → Option Nat} (ht : tys[t0]? = some (cA, .object r.1)) (hu : u = (v, .inr (ci, vs)) :: r0) (hc : vwCl[ci]? = some r) {i : Int32} (hin : vp_in i n) (hk : i.toNatClampNeg = k) (hd : decode cc pc = .ok (.aastore, 1)) (kk : y_Go (p, l, e, R, s, m, args, below, meth, c, Q, D, A, nL) (y_ww h P (a, .inl (cA, n, .inr (.inr (.inr (.inr (va_up f k (some v))))))) y (T ++ u)) cells slots (pc + 1) lv rest) : y_Go (p, l, e, R, s, m, args, below, meth, c, Q, D, A, nL) (y_ww h P (a, .inl (cA, n, .inr (.inr (.inr (.inr f))))) y T ++ u) cells slots pc lv (.ref v :: .int i :: .ref a :: rest) := by
  subst hk
  refine y_astq (n := n) (cA := cA) (f := f) X (P.length + 1) t0 (y_ww h P (a, .inl (cA, n, .inr (.inr (.inr (.inr f))))) y T).length ci (y_ww_7 _ _ _ _ _ _) ht (vs := vs) ?_ hc hin hd (y_ww_s7 _ _ _ _ _ _ _) kk
  rw [hu]
  exact y_ww_u _ _ _ _ _ _ _
theorem y_ast8 (X : y_Cx (p, l, e, R, s, m, args, below, meth, c, Q, D, A, nL) cc Ts own tys) (t0 ci : Nat) {h y : Nat × va_E} {P T u r0 : va_W} {a : Nat} {cA : ClassId} {r : vw_C} {n v k : Nat} {vs : List Value} {f : Nat → Option Nat} (ht : tys[t0]? = some (cA, .object r.1)) (hu : u = (v, .inr (ci, vs)) :: r0) (hc : vwCl[ci]? = some r) {i : Int32} (hin : vp_in i n) (hk : i.toNatClampNeg = k) (hd : decode cc pc = .ok (.aastore, 1)) (kk : y_Go (p, l, e, R, s, m, args, below, meth, c, Q, D, A, nL) (y_ww h P y (a, .inl (cA, n, .inr (.inr (.inr (.inr (va_up f k (some v))))))) (T ++ u)) cells slots (pc + 1) lv rest) : y_Go (p, l, e, R, s, m, args, below, meth, c, Q, D, A, nL) (y_ww h P y (a, .inl (cA, n, .inr (.inr (.inr (.inr f))))) T ++ u) cells slots pc lv (.ref v :: .int i :: .ref a :: rest) := by
  subst hk
  refine y_astq (n := n) (cA := cA) (f := f) X (P.length + 1 + 1) t0 (y_ww h P y (a, .inl (cA, n, .inr (.inr (.inr (.inr f))))) T).length ci (y_ww_8 _ _ _ _ _ _) ht (vs := vs) ?_ hc hin hd (y_ww_s8 _ _ _ _ _ _ _) kk
  rw [hu]
  exact y_ww_u _ _ _ _ _ _ _
end YW
abbrev rm_X6_init : Room := { frames := 3, cells := 72, slots := 683, locals := 52 }
def fs0X6 : List Value := [.null, .null, .null, .null, .null, .null, .null, .null, .int 0]
theorem fs0X6_ok : ∀ j, j < 9 → defaultValue (tyX6 j) = vp_V fs0X6 j := fun j hj => by
  rcases (show j = 0 ∨ j = 1 ∨ j = 2 ∨ j = 3 ∨ j = 4 ∨ j = 5 ∨ j = 6 ∨ j = 7 ∨ j = 8 by omega) with rfl | rfl | rfl | rfl | rfl | rfl | rfl | rfl | rfl <;> rfl
theorem in_X6_init_X0 : ∀ w ∈ wsX00, w ∈ wsX6_init := fun w h => List.mem_cons_of_mem _ (List.mem_append_left _ (List.mem_append_right _ h))
theorem in_X6_init_X1 : ∀ w ∈ wsX10, w ∈ wsX6_init := fun w h => List.mem_cons_of_mem _ (List.mem_append_left _ (List.mem_append_left _ (List.mem_append_left _ (List.mem_append_right _ h))))
theorem in_X6_init_X2 : ∀ w ∈ wsX20, w ∈ wsX6_init := fun w h => List.mem_cons_of_mem _ (List.mem_append_left _ (List.mem_append_left _ (List.mem_append_right _ h)))
theorem in_X6_init_X3 : ∀ w ∈ wsX30, w ∈ wsX6_init := fun w h => List.mem_cons_of_mem _ (List.mem_append_left _ (List.mem_append_left _ (List.mem_append_left _ (List.mem_append_left _ (List.mem_append_left _ (List.mem_append_left _ (List.mem_append_right _ h)))))))
theorem in_X6_init_X4 : ∀ w ∈ wsX40, w ∈ wsX6_init := fun w h => List.mem_cons_of_mem _ (List.mem_append_right _ h)
theorem in_X6_init_X5 : ∀ w ∈ wsX50, w ∈ wsX6_init := fun w h => List.mem_cons_of_mem _ (List.mem_append_left _ (List.mem_append_left _ (List.mem_append_left _ (List.mem_append_left _ (List.mem_append_right _ h)))))
theorem in_X6_init_X6 : ∀ w ∈ wsX60, w ∈ wsX6_init := fun w h => List.mem_cons_of_mem _ (List.mem_append_left _ (List.mem_append_left _ (List.mem_append_left _ (List.mem_append_left _ (List.mem_append_left _ (List.mem_append_right _ h))))))
theorem lk_X6_init_o1 : Cond.methodLink RX6 1 objectInit ∈ wsX6_init := by decide +kernel
theorem lk_X6_init_o2 : Cond.instanceMethod objectInit ∈ wsX6_init := by decide +kernel
theorem lk_X6_init_o3 : Cond.code objectInit ⟨#[0xb1]⟩ 1 none ∈ wsX6_init := by decide +kernel
theorem lk_X6_init_c7 : Cond.classLink RX6 7 RX3 ∈ wsX6_init := by decide +kernel
theorem lk_X6_init_nX3 : Cond.instantiable RX3 12 ∈ wsX6_init := by decide +kernel
theorem lk_X6_init_iX3 : Cond.initialized RX3 ∈ wsX6_init := by decide +kernel
theorem lk_X6_init_mX3 : Cond.instanceMethod yX3_init ∈ wsX6_init := by decide +kernel
theorem lk_X6_init_f10 : Cond.fieldLink RX6 10 (TX6 0).1 (TX6 0).2.1 (TX6 0).2.2.1 ∈ wsX6_init := by decide +kernel
theorem lk_X6_init_c16 : Cond.classLink RX6 16 RX5 ∈ wsX6_init := by decide +kernel
theorem lk_X6_init_nX5 : Cond.instantiable RX5 8 ∈ wsX6_init := by decide +kernel
theorem lk_X6_init_iX5 : Cond.initialized RX5 ∈ wsX6_init := by decide +kernel
theorem lk_X6_init_mX5 : Cond.instanceMethod yX5_init ∈ wsX6_init := by decide +kernel
theorem lk_X6_init_f19 : Cond.fieldLink RX6 19 (TX6 1).1 (TX6 1).2.1 (TX6 1).2.2.1 ∈ wsX6_init := by decide +kernel
theorem lk_X6_init_c23 : Cond.classLink RX6 23 RX1 ∈ wsX6_init := by decide +kernel
theorem lk_X6_init_nX1 : Cond.instantiable RX1 11 ∈ wsX6_init := by decide +kernel
theorem lk_X6_init_iX1 : Cond.initialized RX1 ∈ wsX6_init := by decide +kernel
theorem lk_X6_init_mX1 : Cond.instanceMethod yX1_init ∈ wsX6_init := by decide +kernel
theorem lk_X6_init_f26 : Cond.fieldLink RX6 26 (TX6 2).1 (TX6 2).2.1 (TX6 2).2.2.1 ∈ wsX6_init := by decide +kernel
theorem lk_X6_init_c30 : Cond.classLink RX6 30 RX2 ∈ wsX6_init := by decide +kernel
theorem lk_X6_init_nX2 : Cond.instantiable RX2 4 ∈ wsX6_init := by decide +kernel
theorem lk_X6_init_iX2 : Cond.initialized RX2 ∈ wsX6_init := by decide +kernel
theorem lk_X6_init_mX2 : Cond.instanceMethod yX2_init ∈ wsX6_init := by decide +kernel
theorem lk_X6_init_f33 : Cond.fieldLink RX6 33 (TX6 3).1 (TX6 3).2.1 (TX6 3).2.2.1 ∈ wsX6_init := by decide +kernel
theorem lk_X6_init_f37 : Cond.fieldLink RX6 37 (TX6 4).1 (TX6 4).2.1 (TX6 4).2.2.1 ∈ wsX6_init := by decide +kernel
theorem lk_X6_init_a0 : Cond.arrayClass .int ∈ wsX6_init := by decide +kernel
theorem lk_X6_init_f40 : Cond.fieldLink RX6 40 (TX6 5).1 (TX6 5).2.1 (TX6 5).2.2.1 ∈ wsX6_init := by decide +kernel
theorem lk_X6_init_c44 : Cond.classLink RX6 44 RX0 ∈ wsX6_init := by decide +kernel
theorem lk_X6_init_f46 : Cond.fieldLink RX6 46 (TX6 6).1 (TX6 6).2.1 (TX6 6).2.2.1 ∈ wsX6_init := by decide +kernel
theorem lk_X6_init_c50 : Cond.classLink RX6 50 RX4 ∈ wsX6_init := by decide +kernel
theorem lk_X6_init_f52 : Cond.fieldLink RX6 52 (TX6 7).1 (TX6 7).2.1 (TX6 7).2.2.1 ∈ wsX6_init := by decide +kernel
theorem lk_X6_init_nX0 : Cond.instantiable RX0 3 ∈ wsX6_init := by decide +kernel
theorem lk_X6_init_iX0 : Cond.initialized RX0 ∈ wsX6_init := by decide +kernel
theorem lk_X6_init_mX0 : Cond.instanceMethod yX0_init ∈ wsX6_init := by decide +kernel
theorem lk_X6_init_nX4 : Cond.instantiable RX4 3 ∈ wsX6_init := by decide +kernel
theorem lk_X6_init_iX4 : Cond.initialized RX4 ∈ wsX6_init := by decide +kernel
theorem lk_X6_init_mX4 : Cond.instanceMethod yX4_init ∈ wsX6_init := by decide +kernel
theorem y_led_eq (cy : Nat → ClassId) (h : Nat) (a : Nat → Nat) : y_led cy h a = [(h, .inr (1, [.int 0, .ref (a 0), .ref (a 1), .ref (a 2), .ref (a 3), .ref (a 4), .int 0, .int 1, .int 20, .int 0, .int 0])), ((a 0), .inl (cy 0, 4, .inl fun _ => 0)), ((a 1), .inl (cy 0, 4, .inl fun _ => 0)), ((a 2), .inl (cy 0, 4, .inl fun _ => 0)), ((a 3), .inl (cy 0, 4, .inl fun _ => 0)), ((a 4), .inl (cy 0, 6, .inl fun _ => 0))] := rfl
theorem y_nts_eq (cy : Nat → ClassId) (h : Nat) (a : Nat → Nat) : y_nts cy h a = [(h, .inr (2, [.int 0, .ref (a 0), .ref (a 1), .ref (a 2)])), ((a 0), .inl (cy 0, 6, .inl fun _ => 0)), ((a 1), .inl (cy 0, 6, .inl fun _ => 0)), ((a 2), .inl (cy 0, 6, .inl fun _ => 0))] := rfl
theorem y_sto_eq (cy : Nat → ClassId) (h : Nat) (a : Nat → Nat) : y_sto cy h a = [(h, .inr (5, [.int 0, .ref (a 0), .ref (a 1), .ref (a 2), .int 0, .ref (a 3), .ref (a 4), .ref (a 5)])), ((a 0), .inl (cy 0, 6, .inl fun _ => 0)), ((a 1), .inl (cy 0, 6, .inl fun _ => 0)), ((a 2), .inl (cy 0, 6, .inl fun _ => 0)), ((a 3), .inl (cy 0, 6, .inl fun _ => 0)), ((a 4), .inl (cy 0, 6, .inl fun _ => 0)), ((a 5), .inl (cy 0, 6, .inl fun _ => 0))] := rfl
theorem y_she_eq (cy : Nat → ClassId) (h : Nat) (a : Nat → Nat) : y_she cy h a = [(h, .inr (4, [.int (-1), .int 0, .ref (a 0)])), ((a 0), .inl (cy 0, 40, .inl fun _ => 0))] := rfl
theorem y_img_eq (cy : Nat → ClassId) (h o0 : Nat) (b0 : Nat → Nat) (o1 : Nat) (b1 : Nat → Nat) : y_img cy h o0 b0 o1 b1 = [(h, .inr (0, [.int 0, .ref o0, .ref o1])), (o0, .inr (1, [.int 0, .ref (b0 0), .ref (b0 1), .ref (b0 2), .ref (b0 3), .ref (b0 4), .int 0, .int 1, .int 20, .int 0, .int 0])), ((b0 0), .inl (cy 0, 4, .inl fun _ => 0)), ((b0 1), .inl (cy 0, 4, .inl fun _ => 0)), ((b0 2), .inl (cy 0, 4, .inl fun _ => 0)), ((b0 3), .inl (cy 0, 4, .inl fun _ => 0)), ((b0 4), .inl (cy 0, 6, .inl fun _ => 0)), (o1, .inr (2, [.int 0, .ref (b1 0), .ref (b1 1), .ref (b1 2)])), ((b1 0), .inl (cy 0, 6, .inl fun _ => 0)), ((b1 1), .inl (cy 0, 6, .inl fun _ => 0)), ((b1 2), .inl (cy 0, 6, .inl fun _ => 0))] := rfl
theorem y_scr_eq (cy : Nat → ClassId) (h o0 : Nat) (b0 : Nat → Nat) (o1 : Nat) (b1 a : Nat → Nat) : y_scr cy h o0 b0 o1 b1 a = [(h, .inr (3, [.ref o0, .ref o1, .int 0, .int 0, .ref (a 0), .ref (a 1), .int 0, .int 0, .int 0, .int 0, .int 0, .int 0])), (o0, .inr (5, [.int 0, .ref (b0 0), .ref (b0 1), .ref (b0 2), .int 0, .ref (b0 3), .ref (b0 4), .ref (b0 5)])), ((b0 0), .inl (cy 0, 6, .inl fun _ => 0)), ((b0 1), .inl (cy 0, 6, .inl fun _ => 0)), ((b0 2), .inl (cy 0, 6, .inl fun _ => 0)), ((b0 3), .inl (cy 0, 6, .inl fun _ => 0)), ((b0 4), .inl (cy 0, 6, .inl fun _ => 0)), ((b0 5), .inl (cy 0, 6, .inl fun _ => 0)), (o1, .inr (1, [.int 0, .ref (b1 0), .ref (b1 1), .ref (b1 2), .ref (b1 3), .ref (b1 4), .int 0, .int 1, .int 20, .int 0, .int 0])), ((b1 0), .inl (cy 0, 4, .inl fun _ => 0)), ((b1 1), .inl (cy 0, 4, .inl fun _ => 0)), ((b1 2), .inl (cy 0, 4, .inl fun _ => 0)), ((b1 3), .inl (cy 0, 4, .inl fun _ => 0)), ((b1 4), .inl (cy 0, 6, .inl fun _ => 0)), ((a 0), .inl (cy 1, 160, .inl fun _ => 0)), ((a 1), .inl (cy 0, 4, .inl fun _ => 0))] := rfl
def y_fl0 (cy : Nat → ClassId) (ad : Nat → Nat) : va_W := [((ad 0), .inr (6, [.ref (ad 27), .ref (ad 4), .ref (ad 11), .ref (ad 23), .ref (ad 17), .ref (ad 1), .ref (ad 2), .ref (ad 3), .int 0])), ((ad 27), .inr (3, [.ref (ad 30), .ref (ad 37), .int 0, .int 0, .ref (ad 28), .ref (ad 29), .int 0, .int 0, .int 0, .int 0, .int 0, .int 0])), ((ad 30), .inr (5, [.int 0, .ref (ad 31), .ref (ad 32), .ref (ad 33), .int 0, .ref (ad 34), .ref (ad 35), .ref (ad 36)])), ((ad 31), .inl (cy 0, 6, .inl fun _ => 0)), ((ad 32), .inl (cy 0, 6, .inl fun _ => 0)), ((ad 33), .inl (cy 0, 6, .inl fun _ => 0)), ((ad 34), .inl (cy 0, 6, .inl fun _ => 0)), ((ad 35), .inl (cy 0, 6, .inl fun _ => 0)), ((ad 36), .inl (cy 0, 6, .inl fun _ => 0)), ((ad 37), .inr (1, [.int 0, .ref (ad 38), .ref (ad 39), .ref (ad 40), .ref (ad 41), .ref (ad 42), .int 0, .int 1, .int 20, .int 0, .int 0])), ((ad 38), .inl (cy 0, 4, .inl fun _ => 0)), ((ad 39), .inl (cy 0, 4, .inl fun _ => 0)), ((ad 40), .inl (cy 0, 4, .inl fun _ => 0)), ((ad 41), .inl (cy 0, 4, .inl fun _ => 0)), ((ad 42), .inl (cy 0, 6, .inl fun _ => 0)), ((ad 28), .inl (cy 1, 160, .inl fun _ => 0)), ((ad 29), .inl (cy 0, 4, .inl fun _ => 0)), ((ad 4), .inr (5, [.int 0, .ref (ad 5), .ref (ad 6), .ref (ad 7), .int 0, .ref (ad 8), .ref (ad 9), .ref (ad 10)])), ((ad 5), .inl (cy 0, 6, .inl fun _ => 0)), ((ad 6), .inl (cy 0, 6, .inl fun _ => 0)), ((ad 7), .inl (cy 0, 6, .inl fun _ => 0)), ((ad 8), .inl (cy 0, 6, .inl fun _ => 0)), ((ad 9), .inl (cy 0, 6, .inl fun _ => 0)), ((ad 10), .inl (cy 0, 6, .inl fun _ => 0)), ((ad 11), .inr (1, [.int 0, .ref (ad 12), .ref (ad 13), .ref (ad 14), .ref (ad 15), .ref (ad 16), .int 0, .int 1, .int 20, .int 0, .int 0])), ((ad 12), .inl (cy 0, 4, .inl fun _ => 0)), ((ad 13), .inl (cy 0, 4, .inl fun _ => 0)), ((ad 14), .inl (cy 0, 4, .inl fun _ => 0)), ((ad 15), .inl (cy 0, 4, .inl fun _ => 0)), ((ad 16), .inl (cy 0, 6, .inl fun _ => 0)), ((ad 23), .inr (2, [.int 0, .ref (ad 24), .ref (ad 25), .ref (ad 26)])), ((ad 24), .inl (cy 0, 6, .inl fun _ => 0)), ((ad 25), .inl (cy 0, 6, .inl fun _ => 0)), ((ad 26), .inl (cy 0, 6, .inl fun _ => 0)), ((ad 17), .inr (1, [.int 0, .ref (ad 18), .ref (ad 19), .ref (ad 20), .ref (ad 21), .ref (ad 22), .int 0, .int 1, .int 20, .int 0, .int 0])), ((ad 18), .inl (cy 0, 4, .inl fun _ => 0)), ((ad 19), .inl (cy 0, 4, .inl fun _ => 0)), ((ad 20), .inl (cy 0, 4, .inl fun _ => 0)), ((ad 21), .inl (cy 0, 4, .inl fun _ => 0)), ((ad 22), .inl (cy 0, 6, .inl fun _ => 0)), ((ad 1), .inl (cy 0, 4, .inl fun _ => 0)), ((ad 2), .inl (cy 3, 2, .inr (.inr (.inr (.inr (fun k => (([43, 54] : List Nat)[k]?).map ad)))))), ((ad 3), .inl (cy 4, 4, .inr (.inr (.inr (.inr (fun k => (([65, 67, 69, 71] : List Nat)[k]?).map ad)))))), ((ad 43), .inr (0, [.int 0, .ref (ad 44), .ref (ad 50)])), ((ad 44), .inr (1, [.int 0, .ref (ad 45), .ref (ad 46), .ref (ad 47), .ref (ad 48), .ref (ad 49), .int 0, .int 1, .int 20, .int 0, .int 0])), ((ad 45), .inl (cy 0, 4, .inl fun _ => 0)), ((ad 46), .inl (cy 0, 4, .inl fun _ => 0)), ((ad 47), .inl (cy 0, 4, .inl fun _ => 0)), ((ad 48), .inl (cy 0, 4, .inl fun _ => 0)), ((ad 49), .inl (cy 0, 6, .inl fun _ => 0)), ((ad 50), .inr (2, [.int 0, .ref (ad 51), .ref (ad 52), .ref (ad 53)])), ((ad 51), .inl (cy 0, 6, .inl fun _ => 0)), ((ad 52), .inl (cy 0, 6, .inl fun _ => 0)), ((ad 53), .inl (cy 0, 6, .inl fun _ => 0)), ((ad 54), .inr (0, [.int 0, .ref (ad 55), .ref (ad 61)])), ((ad 55), .inr (1, [.int 0, .ref (ad 56), .ref (ad 57), .ref (ad 58), .ref (ad 59), .ref (ad 60), .int 0, .int 1, .int 20, .int 0, .int 0])), ((ad 56), .inl (cy 0, 4, .inl fun _ => 0)), ((ad 57), .inl (cy 0, 4, .inl fun _ => 0)), ((ad 58), .inl (cy 0, 4, .inl fun _ => 0)), ((ad 59), .inl (cy 0, 4, .inl fun _ => 0)), ((ad 60), .inl (cy 0, 6, .inl fun _ => 0)), ((ad 61), .inr (2, [.int 0, .ref (ad 62), .ref (ad 63), .ref (ad 64)])), ((ad 62), .inl (cy 0, 6, .inl fun _ => 0)), ((ad 63), .inl (cy 0, 6, .inl fun _ => 0)), ((ad 64), .inl (cy 0, 6, .inl fun _ => 0)), ((ad 65), .inr (4, [.int (-1), .int 0, .ref (ad 66)])), ((ad 66), .inl (cy 0, 40, .inl fun _ => 0)), ((ad 67), .inr (4, [.int (-1), .int 0, .ref (ad 68)])), ((ad 68), .inl (cy 0, 40, .inl fun _ => 0)), ((ad 69), .inr (4, [.int (-1), .int 0, .ref (ad 70)])), ((ad 70), .inl (cy 0, 40, .inl fun _ => 0)), ((ad 71), .inr (4, [.int (-1), .int 0, .ref (ad 72)])), ((ad 72), .inl (cy 0, 40, .inl fun _ => 0))]
set_option maxHeartbeats 4000000 in
set_option maxRecDepth 100000 in
theorem y_fl0_map (D : va_G) (cy : Nat → ClassId) (ad : Nat → Nat) (F : State → Prop) : ([0, 40, 41, 42, 17, 18, 19, 20, 21, 22, 23, 24, 25, 26, 27, 28, 29, 34, 35, 36, 37, 38, 39, 30, 31, 32, 33, 1, 15, 16, 2, 3, 4, 5, 6, 7, 8, 9, 10, 11, 12, 13, 14, 43, 44, 45, 46, 47, 48, 49, 50, 51, 52, 53, 54, 55, 56, 57, 58, 59, 60, 61, 62, 63, 64, 65, 66, 67, 68, 69, 70, 71, 72] : List Nat).map (fun i => (y_fl0 cy ad)[i]?) = (z_W (D, cy, ad, z_shX, F) y_x0).map some := by
  rw [y_mk_W]
  exact y_c rfl (y_c rfl (y_c rfl (y_c rfl (y_c rfl (y_c rfl (y_c rfl (y_c rfl (y_c rfl (y_c rfl (y_c rfl (y_c rfl (y_c rfl (y_c rfl (y_c rfl (y_c rfl (y_c rfl (y_c rfl (y_c rfl (y_c rfl (y_c rfl (y_c rfl (y_c rfl (y_c rfl (y_c rfl (y_c rfl (y_c rfl (y_c rfl (y_c rfl (y_c rfl (y_c rfl (y_c rfl (y_c rfl (y_c rfl (y_c rfl (y_c rfl (y_c rfl (y_c rfl (y_c rfl (y_c rfl (y_c rfl (y_c rfl (y_c rfl (y_c rfl (y_c rfl (y_c rfl (y_c rfl (y_c rfl (y_c rfl (y_c rfl (y_c rfl (y_c rfl (y_c rfl (y_c rfl (y_c rfl (y_c rfl (y_c rfl (y_c rfl (y_c rfl (y_c rfl (y_c rfl (y_c rfl (y_c rfl (y_c rfl (y_c rfl (y_c rfl (y_c rfl (y_c rfl (y_c rfl (y_c rfl (y_c rfl (y_c rfl (y_c rfl (y_n)))))))))))))))))))))))))))))))))))))))))))))))))))))))))))))))))))))))))
set_option maxHeartbeats 4000000 in
set_option maxRecDepth 100000 in
theorem y_fl0_eq (cy : Nat → ClassId) (h0 : Nat) (g : Nat → Nat) (q1 : Nat) (o01 : Nat) (b01 : Nat → Nat) (o11 : Nat) (b11 : Nat → Nat) (a1 : Nat → Nat) (q2 : Nat) (a2 : Nat → Nat) (q3 : Nat) (a3 : Nat → Nat) (q4 : Nat) (a4 : Nat → Nat) (q5 : Nat) (a5 : Nat → Nat) (q6 : Nat) (q7 : Nat) (q8 : Nat) (q9 : Nat) (o09 : Nat) (b09 : Nat → Nat) (o19 : Nat) (b19 : Nat → Nat) (q10 : Nat) (o010 : Nat) (b010 : Nat → Nat) (o110 : Nat) (b110 : Nat → Nat) (q11 : Nat) (a11 : Nat → Nat) (q12 : Nat) (a12 : Nat → Nat) (q13 : Nat) (a13 : Nat → Nat) (q14 : Nat) (a14 : Nat → Nat) : y_ww (h0, .inr (6, [.ref q1, .ref q2, .ref q3, .ref q4, .ref q5, .ref q6, .ref q7, .ref q8, .int 0])) (y_scr cy q1 o01 b01 o11 b11 a1 ++ y_sto cy q2 a2 ++ y_led cy q3 a3 ++ y_nts cy q4 a4 ++ y_led cy q5 a5 ++ y_ar cy 0 4 q6) (q7, .inl (cy 3, 2, .inr (.inr (.inr (.inr (va_up (va_up (fun _ => none) 0 (some q9)) 1 (some q10))))))) (q8, .inl (cy 4, 4, .inr (.inr (.inr (.inr (va_up (va_up (va_up (va_up (fun _ => none) 0 (some q11)) 1 (some q12)) 2 (some q13)) 3 (some q14))))))) (([] : va_W) ++ y_img cy q9 o09 b09 o19 b19 ++ y_img cy q10 o010 b010 o110 b110 ++ y_she cy q11 a11 ++ y_she cy q12 a12 ++ y_she cy q13 a13 ++ y_she cy q14 a14) = y_fl0 cy (y_ad [h0, q6, q7, q8, q2, (a2 0), (a2 1), (a2 2), (a2 3), (a2 4), (a2 5), q3, (a3 0), (a3 1), (a3 2), (a3 3), (a3 4), q5, (a5 0), (a5 1), (a5 2), (a5 3), (a5 4), q4, (a4 0), (a4 1), (a4 2), q1, (a1 0), (a1 1), o01, (b01 0), (b01 1), (b01 2), (b01 3), (b01 4), (b01 5), o11, (b11 0), (b11 1), (b11 2), (b11 3), (b11 4), q9, o09, (b09 0), (b09 1), (b09 2), (b09 3), (b09 4), o19, (b19 0), (b19 1), (b19 2), q10, o010, (b010 0), (b010 1), (b010 2), (b010 3), (b010 4), o110, (b110 0), (b110 1), (b110 2), q11, (a11 0), q12, (a12 0), q13, (a13 0), q14, (a14 0)] g) := by
  have e2 : va_up (va_up (fun _ => none) 0 (some q9)) 1 (some q10) = fun k => (([43, 54] : List Nat)[k]?).map (y_ad [h0, q6, q7, q8, q2, (a2 0), (a2 1), (a2 2), (a2 3), (a2 4), (a2 5), q3, (a3 0), (a3 1), (a3 2), (a3 3), (a3 4), q5, (a5 0), (a5 1), (a5 2), (a5 3), (a5 4), q4, (a4 0), (a4 1), (a4 2), q1, (a1 0), (a1 1), o01, (b01 0), (b01 1), (b01 2), (b01 3), (b01 4), (b01 5), o11, (b11 0), (b11 1), (b11 2), (b11 3), (b11 4), q9, o09, (b09 0), (b09 1), (b09 2), (b09 3), (b09 4), o19, (b19 0), (b19 1), (b19 2), q10, o010, (b010 0), (b010 1), (b010 2), (b010 3), (b010 4), o110, (b110 0), (b110 1), (b110 2), q11, (a11 0), q12, (a12 0), q13, (a13 0), q14, (a14 0)] g) := y_q2 (y_ad [h0, q6, q7, q8, q2, (a2 0), (a2 1), (a2 2), (a2 3), (a2 4), (a2 5), q3, (a3 0), (a3 1), (a3 2), (a3 3), (a3 4), q5, (a5 0), (a5 1), (a5 2), (a5 3), (a5 4), q4, (a4 0), (a4 1), (a4 2), q1, (a1 0), (a1 1), o01, (b01 0), (b01 1), (b01 2), (b01 3), (b01 4), (b01 5), o11, (b11 0), (b11 1), (b11 2), (b11 3), (b11 4), q9, o09, (b09 0), (b09 1), (b09 2), (b09 3), (b09 4), o19, (b19 0), (b19 1), (b19 2), q10, o010, (b010 0), (b010 1), (b010 2), (b010 3), (b010 4), o110, (b110 0), (b110 1), (b110 2), q11, (a11 0), q12, (a12 0), q13, (a13 0), q14, (a14 0)] g)
  have e4 : va_up (va_up (va_up (va_up (fun _ => none) 0 (some q11)) 1 (some q12)) 2 (some q13)) 3 (some q14) = fun k => (([65, 67, 69, 71] : List Nat)[k]?).map (y_ad [h0, q6, q7, q8, q2, (a2 0), (a2 1), (a2 2), (a2 3), (a2 4), (a2 5), q3, (a3 0), (a3 1), (a3 2), (a3 3), (a3 4), q5, (a5 0), (a5 1), (a5 2), (a5 3), (a5 4), q4, (a4 0), (a4 1), (a4 2), q1, (a1 0), (a1 1), o01, (b01 0), (b01 1), (b01 2), (b01 3), (b01 4), (b01 5), o11, (b11 0), (b11 1), (b11 2), (b11 3), (b11 4), q9, o09, (b09 0), (b09 1), (b09 2), (b09 3), (b09 4), o19, (b19 0), (b19 1), (b19 2), q10, o010, (b010 0), (b010 1), (b010 2), (b010 3), (b010 4), o110, (b110 0), (b110 1), (b110 2), q11, (a11 0), q12, (a12 0), q13, (a13 0), q14, (a14 0)] g) := y_q4 (y_ad [h0, q6, q7, q8, q2, (a2 0), (a2 1), (a2 2), (a2 3), (a2 4), (a2 5), q3, (a3 0), (a3 1), (a3 2), (a3 3), (a3 4), q5, (a5 0), (a5 1), (a5 2), (a5 3), (a5 4), q4, (a4 0), (a4 1), (a4 2), q1, (a1 0), (a1 1), o01, (b01 0), (b01 1), (b01 2), (b01 3), (b01 4), (b01 5), o11, (b11 0), (b11 1), (b11 2), (b11 3), (b11 4), q9, o09, (b09 0), (b09 1), (b09 2), (b09 3), (b09 4), o19, (b19 0), (b19 1), (b19 2), q10, o010, (b010 0), (b010 1), (b010 2), (b010 3), (b010 4), o110, (b110 0), (b110 1), (b110 2), q11, (a11 0), q12, (a12 0), q13, (a13 0), q14, (a14 0)] g)
  rw [e2, e4]
  simp only [y_ww, y_led_eq, y_nts_eq, y_sto_eq, y_she_eq, y_img_eq, y_scr_eq, y_ar, y_rq, List.cons_append, List.nil_append]
  rfl
