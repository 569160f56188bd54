def y_w1 (h : Nat × va_E) (P : va_W) (x : Nat × va_E) (T : va_W) : va_W := h :: (P ++ (x :: T))
theorem y_w1_eq (h : Nat × va_E) (P : va_W) (x : Nat × va_E) (A B C : va_W) : h :: (P ++ [x] ++ A ++ B ++ C) = y_w1 h P x (A ++ B ++ C) := by simp [y_w1]
theorem y_w1_at (h : Nat × va_E) (P : va_W) (x : Nat × va_E) (T : va_W) : (y_w1 h P x T)[P.length + 1]? = some x := by
  unfold y_w1
  rw [List.getElem?_cons_succ, List.getElem?_append_right (Nat.le_refl _), Nat.sub_self]; rfl
theorem y_w1_set (h : Nat × va_E) (P : va_W) (x y : Nat × va_E) (T : va_W) : (y_w1 h P x T).set (P.length + 1) y = y_w1 h P y T := by
  unfold y_w1
  rw [List.set_cons_succ, List.set_append_right _ _ (Nat.le_refl _), Nat.sub_self]; rfl
section YV
variable {p : Program} {l : Launch} {e : Env} {R : Room} {s : State} {m : MethodId} {args : Array Value} {below : List Frame} {meth : Method} {c : Code} {Q : State → Prop} {D : va_G} {A : Nat → Prop} {nL : Nat} {cc : ByteArray} {Ts : List Cond} {own : String} {tys : List (ClassId × FieldType)} {cells slots pc : Nat} {lv : List (Nat × Value)} {rest : List Value}
theorem y_ias1 (X : y_Cx (p, l, e, R, s, m, args, below, meth, c, Q, D, A, nL) cc Ts own tys) (t0 : Nat) {h : Nat × va_E} {P T : va_W} {a : Nat} {cA : ClassId} {n k : Nat} {f : Nat → Int32} (ht : tys[t0]? = some (cA, .int)) {i x : Int32} (hin : vp_in i n) (hk : i.toNatClampNeg = k) (hd : decode cc pc = .ok (.iastore, 1)) (kk : y_Go (p, l, e, R, s, m, args, below, meth, c, Q, D, A, nL) (y_w1 h P (a, .inl (cA, n, .inl (upd f k x))) T) cells slots (pc + 1) lv rest) : y_Go (p, l, e, R, s, m, args, below, meth, c, Q, D, A, nL) (y_w1 h P (a, .inl (cA, n, .inl f)) T) cells slots pc lv (.int x :: .int i :: .ref a :: rest) := by
  subst hk
  exact y_iast X (P.length + 1) t0 (y_w1_at _ _ _ _) ht hin hd (y_w1_set _ _ _ _ _) kk
end YV
/-! ===== the reference at its start ===== -/
def y_la : Nat → Int32 := upd (upd (upd (upd (fun _ => 0) 0 (-4)) 1 (-4)) 2 (-4)) 3 (-4)
def y_rm : List (Nat → Int32) := [y_zr, y_zr, y_zr, y_zr, y_zr, y_zr, y_zr, y_zr, y_zr, y_zr, y_zr, y_zr, y_zr, y_zr, y_zr, y_zr, y_zr, y_zr, y_zr, y_la, y_zr, y_zr, y_zr]
def y_m1 : z_St := fun c => y_rm.getD c y_zr
theorem y_callZ {p : Program} {l : Launch} {e : Env} {R : Room} {s : State} {m : MethodId} {args : Array Value} {below : List Frame} {meth : Method} {c : Code} {Q : State → Prop} {D : va_G} {A : Nat → Prop} {nL : Nat} {cc : ByteArray} {Ts : List Cond} {own : String} {tys : List (ClassId × FieldType)} {cells slots pc : Nat} {lv : List (Nat × Value)} {rest stk : List Value} (X : y_Cx (p, l, e, R, s, m, args, below, meth, c, Q, D, A, nL) cc Ts own tys) {cy : Nat → ClassId} {ad : Nat → Nat} {sh : List z_Sh} {σ : z_St} (hK : va_K D vwCl (z_tys (D, cy, ad, sh, fun _ => True)) s) {y : MethodName} {bytes : ByteArray} {maxL index b ci : Nat} {ws ws' : List Cond} {rm : Room} {C : String} {fk : List (Option Nat)} {q : vw_C} {T : Option (Int32 × z_St)} {r : Int32 × z_St} (hc : z_ok (D, cy, ad, sh, fun _ => True) → z_CtV l (D, cy, ad, sh, fun _ => True) y ws rm [.ref (ad b)] σ T) (hT : T = some r) (hG : GoodIn Ts (wsV own index C y ws)) (hw : ws = Cond.code y bytes maxL none :: ws') (hd : y.cls = C ∧ y.cls ≠ "java/lang/invoke/MethodHandle" ∧ y.cls ≠ "java/lang/invoke/VarHandle" ∧ (parseMethodDescriptor y.desc).map (fun d => d.parameters.length) = some 0) (hR : rm.frames + 1 ≤ R.frames ∧ 8 + (maxL + 11) + rm.locals ≤ R.locals) (hrc : rm.cells = 0) (hrs : rm.slots = 0) (hcells : cells ≤ R.cells) (hslots : slots ≤ R.slots) (hsh : sh[b]? = some (.inl (ci, fk))) (hcl : vwCl[ci]? = some q) (hq : q.1 = C) (hstk : stk = .ref (ad b) :: rest) (hrest : (rest.map fun v => v.category).sum ≤ 8) (hdg : decode cc pc = .ok (.invokevirtual index, 3)) (kk : y_Go (p, l, e, R, s, m, args, below, meth, c, Q, D, A, nL) (z_W (D, cy, ad, sh, fun _ => True) r.2) cells slots (pc + 3) lv rest) : y_Go (p, l, e, R, s, m, args, below, meth, c, Q, D, A, nL) (z_W (D, cy, ad, sh, fun _ => True) σ) cells slots pc lv stk := fun ls H locs hl hP hD hS => by
  have look : ∀ i, i < sh.length → ∃ en, (z_W (D, cy, ad, sh, fun _ => True) σ)[i]? = some (ad i, en) := fun i hi => by
    have h1 : (z_sh (D, cy, ad, sh, fun _ => True))[i]? = some sh[i] := List.getElem?_eq_getElem hi
    exact ⟨_, z_at (V := (D, cy, ad, sh, fun _ => True)) σ h1⟩
  have hV : z_ok (D, cy, ad, sh, fun _ => True) := by
    refine ⟨fun i j hi hj hij => ?_, fun _ _ _ _ _ => trivial, fun _ _ _ _ _ _ _ _ => trivial⟩
    obtain ⟨ei, h1⟩ := look i hi
    obtain ⟨ej, h2⟩ := look j hj
    exact hD.1 i j _ _ h1 h2 hij
  have hA : ∀ x, z_A (D, cy, ad, sh, fun _ => True) x → A x := by
    rintro x ⟨i, hi, rfl⟩
    obtain ⟨ei, h1⟩ := look i hi
    exact hD.2 i _ h1
  subst hq
  have hcw := cwV (R := R) 0 X.1.2.2.2.2 hG hw hrc hrs hd hR
  refine va_callv (va_runV (As := []) (rest := rest) X.1 (hc hV r hT) hcw ⟨z_blind hV _ σ, va_recv hK hP hcl (z_at (V := (D, cy, ad, sh, fun _ => True)) σ hsh), fun U hU hW => ⟨rfl, by rw [hU]; exact hP, va_K.moved hW.alike hK, trivial⟩⟩ rfl rfl hl.1 hstk (lv_room hrest) hdg ⟨hcells, hslots⟩) hS (fun x _ h => hA x h) hA (fun u t H1 locs1 ht hvm hw hB hz1 hk1 hS1 => by
    subst hw
    rw [ht] at hB
    exact kk ls H1 locs1 hl hB ((z_dis hV r.2).weaken (fun k x _ h => hA x.1 h)) hS1)
theorem y_rel0 : ∃ r1 r2, f_X7_firstDraft y_m1 = some r1 ∧ f_X7_keepDraft r1.2 = some r2 ∧ z_Rel y_x0 r2.2 := by
  obtain ⟨τ1, m1, m2, m3, m4, m5⟩ := m_fd 45 0 200 y_m1 (by omega) (by omega) (fun j hj => absurd hj (by omega))
  have dM1 : d_M 0 0 0 (fun _ _ => 0) d_a0 0 0 (-4) τ1 := ⟨m4.1, m4.2.1, m4.2.2.1, m4.2.2.2.1, by rw [m4.2.2.2.2]; rfl, m3, fun i hi => absurd hi (by omega), fun i hi => absurd hi (by omega)⟩
  obtain ⟨τ2, k1, k2, k3, k4, k5, k6, k7⟩ := m_keep (by omega) (by omega) dM1
  refine ⟨(0, τ1), (0, τ2), m1, k1, 0, 0, 0, fun _ _ => 0, d_a0, fun _ => 0, 0, fun _ => 0, 0, 0, fun _ => -4, fun _ => 0, fun _ _ => 0, ?_, ?_, ?_⟩
  · refine ⟨⟨by omega, by omega, by omega, fun i hi => absurd hi (by omega), fun i hi => absurd hi (by omega)⟩, ⟨⟨fun p hp => absurd hp (by omega), fun p hp => absurd hp (by omega), by decide, by decide, by decide, by decide⟩, by decide, by decide, by decide, fun j hj => absurd hj (by decide +revert)⟩, fun i _ => ⟨Nat.zero_le 1, fun h => absurd (show (0 : Nat) = 1 from h) (by decide)⟩, by omega, fun j hj => absurd hj (by omega), fun j _ => ⟨Or.inl rfl, Nat.zero_le 40⟩⟩
  · refine ⟨⟨rfl, rfl, fun i hi => absurd hi (by omega), fun i hi => absurd hi (by omega)⟩, ⟨rfl, fun i hi => absurd hi (by omega), fun i hi => absurd hi (by omega), rfl, rfl, rfl, rfl⟩, ⟨rfl, fun j hj => absurd hj (Nat.not_lt_zero j)⟩, fun i hi => ?_, ⟨rfl, fun j hj => absurd hj (by omega), rfl⟩, ⟨fun p _ => ⟨rfl, rfl⟩, rfl, rfl⟩, rfl, fun j hj => ?_⟩
    · rcases (show i = 0 ∨ i = 1 by omega) with rfl | rfl
      · exact ⟨rfl, fun h => absurd (show (0 : Nat) = 1 from h) (by decide)⟩
      · exact ⟨rfl, fun h => absurd (show (0 : Nat) = 1 from h) (by decide)⟩
    · rw [if_pos rfl]
      rcases (show j = 0 ∨ j = 1 ∨ j = 2 ∨ j = 3 by omega) with rfl | rfl | rfl | rfl
      · exact ⟨rfl, rfl, fun c _ => rfl⟩
      · exact ⟨rfl, rfl, fun c _ => rfl⟩
      · exact ⟨rfl, rfl, fun c _ => rfl⟩
      · exact ⟨rfl, rfl, fun c _ => rfl⟩
  · have z0 : ∀ j, (j < 13 ∨ (16 ≤ j ∧ j < 22) ∨ 24 ≤ j) → 6 ≤ j → τ2 0 j = 0 := fun j h1 h2 => by
      rw [k7 j h2, m5 j h1]; rfl
    refine ⟨k2, fun j hj => ?_, fun i hi => ?_, ⟨z0 25 (by omega) (by omega), fun j hj => absurd hj (by omega), z0 30 (by omega) (by omega)⟩, z0 37 (by omega) (by omega), fun j hj => ?_⟩
    · by_cases h : j < 45
      · exact k3 j h
      · show τ2 1 j = nI (d_a0 j)
        rw [k4 j (by omega), m2 1 (by omega) (by omega)]
        unfold d_a0
        rw [if_neg (by omega), if_neg (by omega)]
        rfl
    · rcases (show i = 0 ∨ i = 1 by omega) with rfl | rfl
      · exact k5.1
      · exact k5.2
    · show τ2 19 j = -4 ∧ τ2 20 j = nI 0 ∧ ∀ c, c < 40 → τ2 21 (40 * j + c) = 0
      rw [k6 19 (by omega), k6 20 (by omega), k6 21 (by omega), m2 19 (by omega) (by omega), m2 20 (by omega) (by omega), m2 21 (by omega) (by omega)]
      refine ⟨?_, rfl, fun c _ => rfl⟩
      rcases (show j = 0 ∨ j = 1 ∨ j = 2 ∨ j = 3 by omega) with rfl | rfl | rfl | rfl <;> rfl
abbrev rm_X7_init : Room := { frames := 1, cells := 22, slots := 676, locals := 21 }
def fs0X7 : List Value := [.null, .null, .null, .int 0, .int 0, .int 0, .null, .null, .null, .null, .null, .null, .null, .int 0, .int 0, .int 0, .null, .null, .null, .null, .null, .null, .int 0, .int 0, .null, .int 0, .int 0, .int 0, .int 0, .int 0, .int 0, .int 0, .int 0, .null, .null, .null, .null, .int 0, .null]
theorem fs0X7_ok : ∀ j, j < 39 → defaultValue (tyX7 j) = vp_V fs0X7 j := fun j hj => by
  rcases (show j = 0 ∨ j = 1 ∨ j = 2 ∨ j = 3 ∨ j = 4 ∨ j = 5 ∨ j = 6 ∨ j = 7 ∨ j = 8 ∨ j = 9 ∨ j = 10 ∨ j = 11 ∨ j = 12 ∨ j = 13 ∨ j = 14 ∨ j = 15 ∨ j = 16 ∨ j = 17 ∨ j = 18 ∨ j = 19 ∨ j = 20 ∨ j = 21 ∨ j = 22 ∨ j = 23 ∨ j = 24 ∨ j = 25 ∨ j = 26 ∨ j = 27 ∨ j = 28 ∨ j = 29 ∨ j = 30 ∨ j = 31 ∨ j = 32 ∨ j = 33 ∨ j = 34 ∨ j = 35 ∨ j = 36 ∨ j = 37 ∨ j = 38 by omega) with rfl | rfl | rfl | rfl | rfl | rfl | rfl | rfl | rfl | rfl | rfl | rfl | rfl | rfl | rfl | rfl | rfl | rfl | rfl | rfl | rfl | rfl | rfl | rfl | rfl | rfl | rfl | rfl | rfl | rfl | rfl | rfl | rfl | rfl | rfl | rfl | rfl | rfl | rfl <;> rfl
theorem in_X7_init_X7 : ∀ w ∈ wsX70, w ∈ wsX7_init := fun w h => List.mem_cons_of_mem _ (List.mem_append_right _ h)
theorem lk_X7_init_o1 : Cond.methodLink RX7 1 objectInit ∈ wsX7_init := by decide +kernel
theorem lk_X7_init_o2 : Cond.instanceMethod objectInit ∈ wsX7_init := by decide +kernel
theorem lk_X7_init_o3 : Cond.code objectInit ⟨#[0xb1]⟩ 1 none ∈ wsX7_init := by decide +kernel
theorem lk_X7_init_a0 : Cond.arrayClass .int ∈ wsX7_init := by decide +kernel
theorem lk_X7_init_f7 : Cond.fieldLink RX7 7 (TX7 0).1 (TX7 0).2.1 (TX7 0).2.2.1 ∈ wsX7_init := by decide +kernel
theorem lk_X7_init_f13 : Cond.fieldLink RX7 13 (TX7 1).1 (TX7 1).2.1 (TX7 1).2.2.1 ∈ wsX7_init := by decide +kernel
theorem lk_X7_init_a2 : Cond.arrayClass .boolean ∈ wsX7_init := by decide +kernel
theorem lk_X7_init_f16 : Cond.fieldLink RX7 16 (TX7 2).1 (TX7 2).2.1 (TX7 2).2.2.1 ∈ wsX7_init := by decide +kernel
theorem lk_X7_init_f20 : Cond.fieldLink RX7 20 (TX7 6).1 (TX7 6).2.1 (TX7 6).2.2.1 ∈ wsX7_init := by decide +kernel
theorem lk_X7_init_f23 : Cond.fieldLink RX7 23 (TX7 7).1 (TX7 7).2.1 (TX7 7).2.2.1 ∈ wsX7_init := by decide +kernel
theorem lk_X7_init_f26 : Cond.fieldLink RX7 26 (TX7 8).1 (TX7 8).2.1 (TX7 8).2.2.1 ∈ wsX7_init := by decide +kernel
theorem lk_X7_init_f29 : Cond.fieldLink RX7 29 (TX7 9).1 (TX7 9).2.1 (TX7 9).2.2.1 ∈ wsX7_init := by decide +kernel
theorem lk_X7_init_f32 : Cond.fieldLink RX7 32 (TX7 10).1 (TX7 10).2.1 (TX7 10).2.2.1 ∈ wsX7_init := by decide +kernel
theorem lk_X7_init_f35 : Cond.fieldLink RX7 35 (TX7 11).1 (TX7 11).2.1 (TX7 11).2.2.1 ∈ wsX7_init := by decide +kernel
theorem lk_X7_init_f38 : Cond.fieldLink RX7 38 (TX7 12).1 (TX7 12).2.1 (TX7 12).2.2.1 ∈ wsX7_init := by decide +kernel
theorem lk_X7_init_f41 : Cond.fieldLink RX7 41 (TX7 16).1 (TX7 16).2.1 (TX7 16).2.2.1 ∈ wsX7_init := by decide +kernel
theorem lk_X7_init_f44 : Cond.fieldLink RX7 44 (TX7 17).1 (TX7 17).2.1 (TX7 17).2.2.1 ∈ wsX7_init := by decide +kernel
theorem lk_X7_init_f47 : Cond.fieldLink RX7 47 (TX7 18).1 (TX7 18).2.1 (TX7 18).2.2.1 ∈ wsX7_init := by decide +kernel
theorem lk_X7_init_f50 : Cond.fieldLink RX7 50 (TX7 19).1 (TX7 19).2.1 (TX7 19).2.2.1 ∈ wsX7_init := by decide +kernel
theorem lk_X7_init_f53 : Cond.fieldLink RX7 53 (TX7 20).1 (TX7 20).2.1 (TX7 20).2.2.1 ∈ wsX7_init := by decide +kernel
theorem lk_X7_init_f56 : Cond.fieldLink RX7 56 (TX7 21).1 (TX7 21).2.1 (TX7 21).2.2.1 ∈ wsX7_init := by decide +kernel
theorem lk_X7_init_f59 : Cond.fieldLink RX7 59 (TX7 24).1 (TX7 24).2.1 (TX7 24).2.2.1 ∈ wsX7_init := by decide +kernel
theorem lk_X7_init_f62 : Cond.fieldLink RX7 62 (TX7 33).1 (TX7 33).2.1 (TX7 33).2.2.1 ∈ wsX7_init := by decide +kernel
theorem lk_X7_init_f65 : Cond.fieldLink RX7 65 (TX7 34).1 (TX7 34).2.1 (TX7 34).2.2.1 ∈ wsX7_init := by decide +kernel
theorem lk_X7_init_f68 : Cond.fieldLink RX7 68 (TX7 35).1 (TX7 35).2.1 (TX7 35).2.2.1 ∈ wsX7_init := by decide +kernel
theorem lk_X7_init_f71 : Cond.fieldLink RX7 71 (TX7 36).1 (TX7 36).2.1 (TX7 36).2.2.1 ∈ wsX7_init := by decide +kernel
theorem lk_X7_init_f74 : Cond.fieldLink RX7 74 (TX7 38).1 (TX7 38).2.1 (TX7 38).2.2.1 ∈ wsX7_init := by decide +kernel
def y_fl1 (cy : Nat → ClassId) (ad : Nat → Nat) : va_W := [((ad 0), .inr (7, [.ref (ad 1), .ref (ad 2), .ref (ad 3), .int 0, .int 0, .int 0, .ref (ad 4), .ref (ad 5), .ref (ad 6), .ref (ad 7), .ref (ad 8), .ref (ad 9), .ref (ad 10), .int 0, .int 0, .int 0, .ref (ad 11), .ref (ad 12), .ref (ad 13), .ref (ad 14), .ref (ad 15), .ref (ad 16), .int 0, .int 0, .ref (ad 17), .int 0, .int 0, .int 0, .int 0, .int 0, .int 0, .int 0, .int 0, .ref (ad 18), .ref (ad 19), .ref (ad 20), .ref (ad 21), .int 0, .ref (ad 22)])), ((ad 1), .inl (cy 0, 135, .inl fun _ => 0)), ((ad 2), .inl (cy 0, 45, .inl fun _ => 0)), ((ad 3), .inl (cy 2, 2, .inl fun _ => 0)), ((ad 4), .inl (cy 0, 6, .inl fun _ => 0)), ((ad 5), .inl (cy 0, 6, .inl fun _ => 0)), ((ad 6), .inl (cy 0, 6, .inl fun _ => 0)), ((ad 7), .inl (cy 0, 6, .inl fun _ => 0)), ((ad 8), .inl (cy 0, 6, .inl fun _ => 0)), ((ad 9), .inl (cy 0, 6, .inl fun _ => 0)), ((ad 10), .inl (cy 0, 45, .inl fun _ => 0)), ((ad 11), .inl (cy 0, 6, .inl fun _ => 0)), ((ad 12), .inl (cy 0, 6, .inl fun _ => 0)), ((ad 13), .inl (cy 0, 6, .inl fun _ => 0)), ((ad 14), .inl (cy 0, 6, .inl fun _ => 0)), ((ad 15), .inl (cy 0, 6, .inl fun _ => 0)), ((ad 16), .inl (cy 0, 6, .inl fun _ => 0)), ((ad 17), .inl (cy 0, 160, .inl fun _ => 0)), ((ad 18), .inl (cy 0, 4, .inl fun _ => 0)), ((ad 19), .inl (cy 0, 4, .inl (upd (upd (upd (upd (fun _ => 0) 0 (-4)) 1 (-4)) 2 (-4)) 3 (-4)))), ((ad 20), .inl (cy 0, 4, .inl fun _ => 0)), ((ad 21), .inl (cy 0, 160, .inl fun _ => 0)), ((ad 22), .inl (cy 0, 45, .inl fun _ => 0))]
set_option maxHeartbeats 4000000 in
set_option maxRecDepth 100000 in
theorem y_fl1_eq (D : va_G) (cy : Nat → ClassId) (ad : Nat → Nat) (F : State → Prop) : y_fl1 cy ad = z_W (D, cy, ad, z_shM, F) y_m1 := by
  rw [y_mk_W]
  rfl
set_option maxHeartbeats 4000000 in
set_option maxRecDepth 100000 in
theorem y_fl1_w (cy : Nat → ClassId) (h0 q1 q2 q3 q4 q5 q6 q7 q8 q9 q10 q11 q12 q13 q14 q15 q16 q17 q18 q19 q20 q21 q22 : Nat) : y_w1 (h0, .inr (7, [.ref q1, .ref q2, .ref q3, .int 0, .int 0, .int 0, .ref q4, .ref q5, .ref q6, .ref q7, .ref q8, .ref q9, .ref q10, .int 0, .int 0, .int 0, .ref q11, .ref q12, .ref q13, .ref q14, .ref q15, .ref q16, .int 0, .int 0, .ref q17, .int 0, .int 0, .int 0, .int 0, .int 0, .int 0, .int 0, .int 0, .ref q18, .ref q19, .ref q20, .ref q21, .int 0, .ref q22])) (y_ar cy 0 135 q1 ++ y_ar cy 0 45 q2 ++ y_ar cy 2 2 q3 ++ y_ar cy 0 6 q4 ++ y_ar cy 0 6 q5 ++ y_ar cy 0 6 q6 ++ y_ar cy 0 6 q7 ++ y_ar cy 0 6 q8 ++ y_ar cy 0 6 q9 ++ y_ar cy 0 45 q10 ++ y_ar cy 0 6 q11 ++ y_ar cy 0 6 q12 ++ y_ar cy 0 6 q13 ++ y_ar cy 0 6 q14 ++ y_ar cy 0 6 q15 ++ y_ar cy 0 6 q16 ++ y_ar cy 0 160 q17 ++ y_ar cy 0 4 q18) (q19, .inl (cy 0, 4, .inl (upd (upd (upd (upd (fun _ => 0) 0 (-4)) 1 (-4)) 2 (-4)) 3 (-4)))) (y_ar cy 0 4 q20 ++ y_ar cy 0 160 q21 ++ y_ar cy 0 45 q22) = y_fl1 cy (y_ad [h0, q1, q2, q3, q4, q5, q6, q7, q8, q9, q10, q11, q12, q13, q14, q15, q16, q17, q18, q19, q20, q21, q22] (fun _ => 0)) := by
  simp only [y_w1, y_ar, List.cons_append, List.nil_append]
  rfl
set_option maxHeartbeats 4000000 in
set_option maxRecDepth 100000 in
theorem yc_X7 (l : Launch) (D : va_G) (cy : Nat → ClassId) : y_Ct l D (y_tys cy) y_EX yX7_init wsX7_init rm_X7_init 7 22 676 fs0X7 (fun h u => ∃ (ad : Nat → Nat) (σ : z_St), ad 0 = h ∧ u = z_W (D, cy, ad, z_shM, fun _ => True) σ ∧ z_Rel y_x0 σ) := by
  refine y_start (by decide) rfl (by decide) rfl ?_
  intro p e s m args below meth c h0 hr hlo hE X
  have X : y_Cx _ cX7_init wsX7_init RX7 (y_tys cy) := X
  refine y_aload X dX7_init_0 rfl 0 rfl ?_
  refine y_obj X lk_X7_init_o1 lk_X7_init_o2 lk_X7_init_o3 dX7_init_1 (by decide) (Nat.le_of_ble_eq_true rfl) ?_
  refine y_aload X dX7_init_4 rfl 0 rfl ?_
  refine y_sipush (v := 135) X dX7_init_5 (by decide) ?_
  refine y_newa (atype := .int) (N' := 135) (a0 := (135, .inl fun _ => 0)) X 0 rfl rfl lk_X7_init_a0 (fun _ h => by cases h) (fun _ => rfl) (by decide) (by decide) (by decide) (Nat.le_of_ble_eq_true rfl) (Nat.le_of_ble_eq_true rfl) dX7_init_8 (fun q1 => ?_)
  refine y_putF (ref := RX7) (C := RX7) (T := TX7) (N := 39) (ci := 7) (ws' := (h0, .inr (7, [.ref q1, .null, .null, .int 0, .int 0, .int 0, .null, .null, .null, .null, .null, .null, .null, .int 0, .int 0, .int 0, .null, .null, .null, .null, .null, .null, .int 0, .int 0, .null, .int 0, .int 0, .int 0, .int 0, .int 0, .int 0, .int 0, .int 0, .null, .null, .null, .null, .int 0, .null])) :: (y_ar cy 0 135 q1)) X in_X7_init_X7 tyX7 tyX7_ok nmX7 0 rfl rfl 0 (by decide) lk_X7_init_f7 rfl rfl rfl rfl (Nat.le_of_ble_eq_true rfl) dX7_init_10 rfl ?_
  refine y_aload X dX7_init_13 rfl 0 rfl ?_
  refine y_bipush (v := 45) X dX7_init_14 (by decide) ?_
  refine y_newa (atype := .int) (N' := 45) (a0 := (45, .inl fun _ => 0)) X 0 rfl rfl lk_X7_init_a0 (fun _ h => by cases h) (fun _ => rfl) (by decide) (by decide) (by decide) (Nat.le_of_ble_eq_true rfl) (Nat.le_of_ble_eq_true rfl) dX7_init_16 (fun q2 => ?_)
  refine y_putF (ref := RX7) (C := RX7) (T := TX7) (N := 39) (ci := 7) (ws' := (h0, .inr (7, [.ref q1, .ref q2, .null, .int 0, .int 0, .int 0, .null, .null, .null, .null, .null, .null, .null, .int 0, .int 0, .int 0, .null, .null, .null, .null, .null, .null, .int 0, .int 0, .null, .int 0, .int 0, .int 0, .int 0, .int 0, .int 0, .int 0, .int 0, .null, .null, .null, .null, .int 0, .null])) :: (y_ar cy 0 135 q1 ++ y_ar cy 0 45 q2)) X in_X7_init_X7 tyX7 tyX7_ok nmX7 0 rfl rfl 1 (by decide) lk_X7_init_f13 rfl rfl rfl rfl (Nat.le_of_ble_eq_true rfl) dX7_init_18 rfl ?_
  refine y_aload X dX7_init_21 rfl 0 rfl ?_
  refine y_iconst (v := 2) X dX7_init_22 (by decide) ?_
  refine y_newa (atype := .boolean) (N' := 2) (a0 := (2, .inl fun _ => 0)) X 2 rfl rfl lk_X7_init_a2 (fun _ h => by cases h) (fun _ => rfl) (by decide) (by decide) (by decide) (Nat.le_of_ble_eq_true rfl) (Nat.le_of_ble_eq_true rfl) dX7_init_23 (fun q3 => ?_)
  refine y_putF (ref := RX7) (C := RX7) (T := TX7) (N := 39) (ci := 7) (ws' := (h0, .inr (7, [.ref q1, .ref q2, .ref q3, .int 0, .int 0, .int 0, .null, .null, .null, .null, .null, .null, .null, .int 0, .int 0, .int 0, .null, .null, .null, .null, .null, .null, .int 0, .int 0, .null, .int 0, .int 0, .int 0, .int 0, .int 0, .int 0, .int 0, .int 0, .null, .null, .null, .null, .int 0, .null])) :: (y_ar cy 0 135 q1 ++ y_ar cy 0 45 q2 ++ y_ar cy 2 2 q3)) X in_X7_init_X7 tyX7 tyX7_ok nmX7 0 rfl rfl 2 (by decide) lk_X7_init_f16 rfl rfl rfl rfl (Nat.le_of_ble_eq_true rfl) dX7_init_25 rfl ?_
  refine y_aload X dX7_init_28 rfl 0 rfl ?_
  refine y_bipush (v := 6) X dX7_init_29 (by decide) ?_
  refine y_newa (atype := .int) (N' := 6) (a0 := (6, .inl fun _ => 0)) X 0 rfl rfl lk_X7_init_a0 (fun _ h => by cases h) (fun _ => rfl) (by decide) (by decide) (by decide) (Nat.le_of_ble_eq_true rfl) (Nat.le_of_ble_eq_true rfl) dX7_init_31 (fun q4 => ?_)
  refine y_putF (ref := RX7) (C := RX7) (T := TX7) (N := 39) (ci := 7) (ws' := (h0, .inr (7, [.ref q1, .ref q2, .ref q3, .int 0, .int 0, .int 0, .ref q4, .null, .null, .null, .null, .null, .null, .int 0, .int 0, .int 0, .null, .null, .null, .null, .null, .null, .int 0, .int 0, .null, .int 0, .int 0, .int 0, .int 0, .int 0, .int 0, .int 0, .int 0, .null, .null, .null, .null, .int 0, .null])) :: (y_ar cy 0 135 q1 ++ y_ar cy 0 45 q2 ++ y_ar cy 2 2 q3 ++ y_ar cy 0 6 q4)) X in_X7_init_X7 tyX7 tyX7_ok nmX7 0 rfl rfl 6 (by decide) lk_X7_init_f20 rfl rfl rfl rfl (Nat.le_of_ble_eq_true rfl) dX7_init_33 rfl ?_
  refine y_aload X dX7_init_36 rfl 0 rfl ?_
  refine y_bipush (v := 6) X dX7_init_37 (by decide) ?_
  refine y_newa (atype := .int) (N' := 6) (a0 := (6, .inl fun _ => 0)) X 0 rfl rfl lk_X7_init_a0 (fun _ h => by cases h) (fun _ => rfl) (by decide) (by decide) (by decide) (Nat.le_of_ble_eq_true rfl) (Nat.le_of_ble_eq_true rfl) dX7_init_39 (fun q5 => ?_)
  refine y_putF (ref := RX7) (C := RX7) (T := TX7) (N := 39) (ci := 7) (ws' := (h0, .inr (7, [.ref q1, .ref q2, .ref q3, .int 0, .int 0, .int 0, .ref q4, .ref q5, .null, .null, .null, .null, .null, .int 0, .int 0, .int 0, .null, .null, .null, .null, .null, .null, .int 0, .int 0, .null, .int 0, .int 0, .int 0, .int 0, .int 0, .int 0, .int 0, .int 0, .null, .null, .null, .null, .int 0, .null])) :: (y_ar cy 0 135 q1 ++ y_ar cy 0 45 q2 ++ y_ar cy 2 2 q3 ++ y_ar cy 0 6 q4 ++ y_ar cy 0 6 q5)) X in_X7_init_X7 tyX7 tyX7_ok nmX7 0 rfl rfl 7 (by decide) lk_X7_init_f23 rfl rfl rfl rfl (Nat.le_of_ble_eq_true rfl) dX7_init_41 rfl ?_
  refine y_aload X dX7_init_44 rfl 0 rfl ?_
  refine y_bipush (v := 6) X dX7_init_45 (by decide) ?_
  refine y_newa (atype := .int) (N' := 6) (a0 := (6, .inl fun _ => 0)) X 0 rfl rfl lk_X7_init_a0 (fun _ h => by cases h) (fun _ => rfl) (by decide) (by decide) (by decide) (Nat.le_of_ble_eq_true rfl) (Nat.le_of_ble_eq_true rfl) dX7_init_47 (fun q6 => ?_)
  refine y_putF (ref := RX7) (C := RX7) (T := TX7) (N := 39) (ci := 7) (ws' := (h0, .inr (7, [.ref q1, .ref q2, .ref q3, .int 0, .int 0, .int 0, .ref q4, .ref q5, .ref q6, .null, .null, .null, .null, .int 0, .int 0, .int 0, .null, .null, .null, .null, .null, .null, .int 0, .int 0, .null, .int 0, .int 0, .int 0, .int 0, .int 0, .int 0, .int 0, .int 0, .null, .null, .null, .null, .int 0, .null])) :: (y_ar cy 0 135 q1 ++ y_ar cy 0 45 q2 ++ y_ar cy 2 2 q3 ++ y_ar cy 0 6 q4 ++ y_ar cy 0 6 q5 ++ y_ar cy 0 6 q6)) X in_X7_init_X7 tyX7 tyX7_ok nmX7 0 rfl rfl 8 (by decide) lk_X7_init_f26 rfl rfl rfl rfl (Nat.le_of_ble_eq_true rfl) dX7_init_49 rfl ?_
  refine y_aload X dX7_init_52 rfl 0 rfl ?_
  refine y_bipush (v := 6) X dX7_init_53 (by decide) ?_
  refine y_newa (atype := .int) (N' := 6) (a0 := (6, .inl fun _ => 0)) X 0 rfl rfl lk_X7_init_a0 (fun _ h => by cases h) (fun _ => rfl) (by decide) (by decide) (by decide) (Nat.le_of_ble_eq_true rfl) (Nat.le_of_ble_eq_true rfl) dX7_init_55 (fun q7 => ?_)
  refine y_putF (ref := RX7) (C := RX7) (T := TX7) (N := 39) (ci := 7) (ws' := (h0, .inr (7, [.ref q1, .ref q2, .ref q3, .int 0, .int 0, .int 0, .ref q4, .ref q5, .ref q6, .ref q7, .null, .null, .null, .int 0, .int 0, .int 0, .null, .null, .null, .null, .null, .null, .int 0, .int 0, .null, .int 0, .int 0, .int 0, .int 0, .int 0, .int 0, .int 0, .int 0, .null, .null, .null, .null, .int 0, .null])) :: (y_ar cy 0 135 q1 ++ y_ar cy 0 45 q2 ++ y_ar cy 2 2 q3 ++ y_ar cy 0 6 q4 ++ y_ar cy 0 6 q5 ++ y_ar cy 0 6 q6 ++ y_ar cy 0 6 q7)) X in_X7_init_X7 tyX7 tyX7_ok nmX7 0 rfl rfl 9 (by decide) lk_X7_init_f29 rfl rfl rfl rfl (Nat.le_of_ble_eq_true rfl) dX7_init_57 rfl ?_
  refine y_aload X dX7_init_60 rfl 0 rfl ?_
  refine y_bipush (v := 6) X dX7_init_61 (by decide) ?_
  refine y_newa (atype := .int) (N' := 6) (a0 := (6, .inl fun _ => 0)) X 0 rfl rfl lk_X7_init_a0 (fun _ h => by cases h) (fun _ => rfl) (by decide) (by decide) (by decide) (Nat.le_of_ble_eq_true rfl) (Nat.le_of_ble_eq_true rfl) dX7_init_63 (fun q8 => ?_)
  refine y_putF (ref := RX7) (C := RX7) (T := TX7) (N := 39) (ci := 7) (ws' := (h0, .inr (7, [.ref q1, .ref q2, .ref q3, .int 0, .int 0, .int 0, .ref q4, .ref q5, .ref q6, .ref q7, .ref q8, .null, .null, .int 0, .int 0, .int 0, .null, .null, .null, .null, .null, .null, .int 0, .int 0, .null, .int 0, .int 0, .int 0, .int 0, .int 0, .int 0, .int 0, .int 0, .null, .null, .null, .null, .int 0, .null])) :: (y_ar cy 0 135 q1 ++ y_ar cy 0 45 q2 ++ y_ar cy 2 2 q3 ++ y_ar cy 0 6 q4 ++ y_ar cy 0 6 q5 ++ y_ar cy 0 6 q6 ++ y_ar cy 0 6 q7 ++ y_ar cy 0 6 q8)) X in_X7_init_X7 tyX7 tyX7_ok nmX7 0 rfl rfl 10 (by decide) lk_X7_init_f32 rfl rfl rfl rfl (Nat.le_of_ble_eq_true rfl) dX7_init_65 rfl ?_
  refine y_aload X dX7_init_68 rfl 0 rfl ?_
  refine y_bipush (v := 6) X dX7_init_69 (by decide) ?_
  refine y_newa (atype := .int) (N' := 6) (a0 := (6, .inl fun _ => 0)) X 0 rfl rfl lk_X7_init_a0 (fun _ h => by cases h) (fun _ => rfl) (by decide) (by decide) (by decide) (Nat.le_of_ble_eq_true rfl) (Nat.le_of_ble_eq_true rfl) dX7_init_71 (fun q9 => ?_)
  refine y_putF (ref := RX7) (C := RX7) (T := TX7) (N := 39) (ci := 7) (ws' := (h0, .inr (7, [.ref q1, .ref q2, .ref q3, .int 0, .int 0, .int 0, .ref q4, .ref q5, .ref q6, .ref q7, .ref q8, .ref q9, .null, .int 0, .int 0, .int 0, .null, .null, .null, .null, .null, .null, .int 0, .int 0, .null, .int 0, .int 0, .int 0, .int 0, .int 0, .int 0, .int 0, .int 0, .null, .null, .null, .null, .int 0, .null])) :: (y_ar cy 0 135 q1 ++ y_ar cy 0 45 q2 ++ y_ar cy 2 2 q3 ++ y_ar cy 0 6 q4 ++ y_ar cy 0 6 q5 ++ y_ar cy 0 6 q6 ++ y_ar cy 0 6 q7 ++ y_ar cy 0 6 q8 ++ y_ar cy 0 6 q9)) X in_X7_init_X7 tyX7 tyX7_ok nmX7 0 rfl rfl 11 (by decide) lk_X7_init_f35 rfl rfl rfl rfl (Nat.le_of_ble_eq_true rfl) dX7_init_73 rfl ?_
  refine y_aload X dX7_init_76 rfl 0 rfl ?_
  refine y_bipush (v := 45) X dX7_init_77 (by decide) ?_
  refine y_newa (atype := .int) (N' := 45) (a0 := (45, .inl fun _ => 0)) X 0 rfl rfl lk_X7_init_a0 (fun _ h => by cases h) (fun _ => rfl) (by decide) (by decide) (by decide) (Nat.le_of_ble_eq_true rfl) (Nat.le_of_ble_eq_true rfl) dX7_init_79 (fun q10 => ?_)
  refine y_putF (ref := RX7) (C := RX7) (T := TX7) (N := 39) (ci := 7) (ws' := (h0, .inr (7, [.ref q1, .ref q2, .ref q3, .int 0, .int 0, .int 0, .ref q4, .ref q5, .ref q6, .ref q7, .ref q8, .ref q9, .ref q10, .int 0, .int 0, .int 0, .null, .null, .null, .null, .null, .null, .int 0, .int 0, .null, .int 0, .int 0, .int 0, .int 0, .int 0, .int 0, .int 0, .int 0, .null, .null, .null, .null, .int 0, .null])) :: (y_ar cy 0 135 q1 ++ y_ar cy 0 45 q2 ++ y_ar cy 2 2 q3 ++ y_ar cy 0 6 q4 ++ y_ar cy 0 6 q5 ++ y_ar cy 0 6 q6 ++ y_ar cy 0 6 q7 ++ y_ar cy 0 6 q8 ++ y_ar cy 0 6 q9 ++ y_ar cy 0 45 q10)) X in_X7_init_X7 tyX7 tyX7_ok nmX7 0 rfl rfl 12 (by decide) lk_X7_init_f38 rfl rfl rfl rfl (Nat.le_of_ble_eq_true rfl) dX7_init_81 rfl ?_
  refine y_aload X dX7_init_84 rfl 0 rfl ?_
  refine y_bipush (v := 6) X dX7_init_85 (by decide) ?_
  refine y_newa (atype := .int) (N' := 6) (a0 := (6, .inl fun _ => 0)) X 0 rfl rfl lk_X7_init_a0 (fun _ h => by cases h) (fun _ => rfl) (by decide) (by decide) (by decide) (Nat.le_of_ble_eq_true rfl) (Nat.le_of_ble_eq_true rfl) dX7_init_87 (fun q11 => ?_)
  refine y_putF (ref := RX7) (C := RX7) (T := TX7) (N := 39) (ci := 7) (ws' := (h0, .inr (7, [.ref q1, .ref q2, .ref q3, .int 0, .int 0, .int 0, .ref q4, .ref q5, .ref q6, .ref q7, .ref q8, .ref q9, .ref q10, .int 0, .int 0, .int 0, .ref q11, .null, .null, .null, .null, .null, .int 0, .int 0, .null, .int 0, .int 0, .int 0, .int 0, .int 0, .int 0, .int 0, .int 0, .null, .null, .null, .null, .int 0, .null])) :: (y_ar cy 0 135 q1 ++ y_ar cy 0 45 q2 ++ y_ar cy 2 2 q3 ++ y_ar cy 0 6 q4 ++ y_ar cy 0 6 q5 ++ y_ar cy 0 6 q6 ++ y_ar cy 0 6 q7 ++ y_ar cy 0 6 q8 ++ y_ar cy 0 6 q9 ++ y_ar cy 0 45 q10 ++ y_ar cy 0 6 q11)) X in_X7_init_X7 tyX7 tyX7_ok nmX7 0 rfl rfl 16 (by decide) lk_X7_init_f41 rfl rfl rfl rfl (Nat.le_of_ble_eq_true rfl) dX7_init_89 rfl ?_
  refine y_aload X dX7_init_92 rfl 0 rfl ?_
  refine y_bipush (v := 6) X dX7_init_93 (by decide) ?_
  refine y_newa (atype := .int) (N' := 6) (a0 := (6, .inl fun _ => 0)) X 0 rfl rfl lk_X7_init_a0 (fun _ h => by cases h) (fun _ => rfl) (by decide) (by decide) (by decide) (Nat.le_of_ble_eq_true rfl) (Nat.le_of_ble_eq_true rfl) dX7_init_95 (fun q12 => ?_)
  refine y_putF (ref := RX7) (C := RX7) (T := TX7) (N := 39) (ci := 7) (ws' := (h0, .inr (7, [.ref q1, .ref q2, .ref q3, .int 0, .int 0, .int 0, .ref q4, .ref q5, .ref q6, .ref q7, .ref q8, .ref q9, .ref q10, .int 0, .int 0, .int 0, .ref q11, .ref q12, .null, .null, .null, .null, .int 0, .int 0, .null, .int 0, .int 0, .int 0, .int 0, .int 0, .int 0, .int 0, .int 0, .null, .null, .null, .null, .int 0, .null])) :: (y_ar cy 0 135 q1 ++ y_ar cy 0 45 q2 ++ y_ar cy 2 2 q3 ++ y_ar cy 0 6 q4 ++ y_ar cy 0 6 q5 ++ y_ar cy 0 6 q6 ++ y_ar cy 0 6 q7 ++ y_ar cy 0 6 q8 ++ y_ar cy 0 6 q9 ++ y_ar cy 0 45 q10 ++ y_ar cy 0 6 q11 ++ y_ar cy 0 6 q12)) X in_X7_init_X7 tyX7 tyX7_ok nmX7 0 rfl rfl 17 (by decide) lk_X7_init_f44 rfl rfl rfl rfl (Nat.le_of_ble_eq_true rfl) dX7_init_97 rfl ?_
  refine y_aload X dX7_init_100 rfl 0 rfl ?_
  refine y_bipush (v := 6) X dX7_init_101 (by decide) ?_
  refine y_newa (atype := .int) (N' := 6) (a0 := (6, .inl fun _ => 0)) X 0 rfl rfl lk_X7_init_a0 (fun _ h => by cases h) (fun _ => rfl) (by decide) (by decide) (by decide) (Nat.le_of_ble_eq_true rfl) (Nat.le_of_ble_eq_true rfl) dX7_init_103 (fun q13 => ?_)
  refine y_putF (ref := RX7) (C := RX7) (T := TX7) (N := 39) (ci := 7) (ws' := (h0, .inr (7, [.ref q1, .ref q2, .ref q3, .int 0, .int 0, .int 0, .ref q4, .ref q5, .ref q6, .ref q7, .ref q8, .ref q9, .ref q10, .int 0, .int 0, .int 0, .ref q11, .ref q12, .ref q13, .null, .null, .null, .int 0, .int 0, .null, .int 0, .int 0, .int 0, .int 0, .int 0, .int 0, .int 0, .int 0, .null, .null, .null, .null, .int 0, .null])) :: (y_ar cy 0 135 q1 ++ y_ar cy 0 45 q2 ++ y_ar cy 2 2 q3 ++ y_ar cy 0 6 q4 ++ y_ar cy 0 6 q5 ++ y_ar cy 0 6 q6 ++ y_ar cy 0 6 q7 ++ y_ar cy 0 6 q8 ++ y_ar cy 0 6 q9 ++ y_ar cy 0 45 q10 ++ y_ar cy 0 6 q11 ++ y_ar cy 0 6 q12 ++ y_ar cy 0 6 q13)) X in_X7_init_X7 tyX7 tyX7_ok nmX7 0 rfl rfl 18 (by decide) lk_X7_init_f47 rfl rfl rfl rfl (Nat.le_of_ble_eq_true rfl) dX7_init_105 rfl ?_
  refine y_aload X dX7_init_108 rfl 0 rfl ?_
  refine y_bipush (v := 6) X dX7_init_109 (by decide) ?_
  refine y_newa (atype := .int) (N' := 6) (a0 := (6, .inl fun _ => 0)) X 0 rfl rfl lk_X7_init_a0 (fun _ h => by cases h) (fun _ => rfl) (by decide) (by decide) (by decide) (Nat.le_of_ble_eq_true rfl) (Nat.le_of_ble_eq_true rfl) dX7_init_111 (fun q14 => ?_)
  refine y_putF (ref := RX7) (C := RX7) (T := TX7) (N := 39) (ci := 7) (ws' := (h0, .inr (7, [.ref q1, .ref q2, .ref q3, .int 0, .int 0, .int 0, .ref q4, .ref q5, .ref q6, .ref q7, .ref q8, .ref q9, .ref q10, .int 0, .int 0, .int 0, .ref q11, .ref q12, .ref q13, .ref q14, .null, .null, .int 0, .int 0, .null, .int 0, .int 0, .int 0, .int 0, .int 0, .int 0, .int 0, .int 0, .null, .null, .null, .null, .int 0, .null])) :: (y_ar cy 0 135 q1 ++ y_ar cy 0 45 q2 ++ y_ar cy 2 2 q3 ++ y_ar cy 0 6 q4 ++ y_ar cy 0 6 q5 ++ y_ar cy 0 6 q6 ++ y_ar cy 0 6 q7 ++ y_ar cy 0 6 q8 ++ y_ar cy 0 6 q9 ++ y_ar cy 0 45 q10 ++ y_ar cy 0 6 q11 ++ y_ar cy 0 6 q12 ++ y_ar cy 0 6 q13 ++ y_ar cy 0 6 q14)) X in_X7_init_X7 tyX7 tyX7_ok nmX7 0 rfl rfl 19 (by decide) lk_X7_init_f50 rfl rfl rfl rfl (Nat.le_of_ble_eq_true rfl) dX7_init_113 rfl ?_
  refine y_aload X dX7_init_116 rfl 0 rfl ?_
  refine y_bipush (v := 6) X dX7_init_117 (by decide) ?_
  refine y_newa (atype := .int) (N' := 6) (a0 := (6, .inl fun _ => 0)) X 0 rfl rfl lk_X7_init_a0 (fun _ h => by cases h) (fun _ => rfl) (by decide) (by decide) (by decide) (Nat.le_of_ble_eq_true rfl) (Nat.le_of_ble_eq_true rfl) dX7_init_119 (fun q15 => ?_)
  refine y_putF (ref := RX7) (C := RX7) (T := TX7) (N := 39) (ci := 7) (ws' := (h0, .inr (7, [.ref q1, .ref q2, .ref q3, .int 0, .int 0, .int 0, .ref q4, .ref q5, .ref q6, .ref q7, .ref q8, .ref q9, .ref q10, .int 0, .int 0, .int 0, .ref q11, .ref q12, .ref q13, .ref q14, .ref q15, .null, .int 0, .int 0, .null, .int 0, .int 0, .int 0, .int 0, .int 0, .int 0, .int 0, .int 0, .null, .null, .null, .null, .int 0, .null])) :: (y_ar cy 0 135 q1 ++ y_ar cy 0 45 q2 ++ y_ar cy 2 2 q3 ++ y_ar cy 0 6 q4 ++ y_ar cy 0 6 q5 ++ y_ar cy 0 6 q6 ++ y_ar cy 0 6 q7 ++ y_ar cy 0 6 q8 ++ y_ar cy 0 6 q9 ++ y_ar cy 0 45 q10 ++ y_ar cy 0 6 q11 ++ y_ar cy 0 6 q12 ++ y_ar cy 0 6 q13 ++ y_ar cy 0 6 q14 ++ y_ar cy 0 6 q15)) X in_X7_init_X7 tyX7 tyX7_ok nmX7 0 rfl rfl 20 (by decide) lk_X7_init_f53 rfl rfl rfl rfl (Nat.le_of_ble_eq_true rfl) dX7_init_121 rfl ?_
  refine y_aload X dX7_init_124 rfl 0 rfl ?_
  refine y_bipush (v := 6) X dX7_init_125 (by decide) ?_
  refine y_newa (atype := .int) (N' := 6) (a0 := (6, .inl fun _ => 0)) X 0 rfl rfl lk_X7_init_a0 (fun _ h => by cases h) (fun _ => rfl) (by decide) (by decide) (by decide) (Nat.le_of_ble_eq_true rfl) (Nat.le_of_ble_eq_true rfl) dX7_init_127 (fun q16 => ?_)
  refine y_putF (ref := RX7) (C := RX7) (T := TX7) (N := 39) (ci := 7) (ws' := (h0, .inr (7, [.ref q1, .ref q2, .ref q3, .int 0, .int 0, .int 0, .ref q4, .ref q5, .ref q6, .ref q7, .ref q8, .ref q9, .ref q10, .int 0, .int 0, .int 0, .ref q11, .ref q12, .ref q13, .ref q14, .ref q15, .ref q16, .int 0, .int 0, .null, .int 0, .int 0, .int 0, .int 0, .int 0, .int 0, .int 0, .int 0, .null, .null, .null, .null, .int 0, .null])) :: (y_ar cy 0 135 q1 ++ y_ar cy 0 45 q2 ++ y_ar cy 2 2 q3 ++ y_ar cy 0 6 q4 ++ y_ar cy 0 6 q5 ++ y_ar cy 0 6 q6 ++ y_ar cy 0 6 q7 ++ y_ar cy 0 6 q8 ++ y_ar cy 0 6 q9 ++ y_ar cy 0 45 q10 ++ y_ar cy 0 6 q11 ++ y_ar cy 0 6 q12 ++ y_ar cy 0 6 q13 ++ y_ar cy 0 6 q14 ++ y_ar cy 0 6 q15 ++ y_ar cy 0 6 q16)) X in_X7_init_X7 tyX7 tyX7_ok nmX7 0 rfl rfl 21 (by decide) lk_X7_init_f56 rfl rfl rfl rfl (Nat.le_of_ble_eq_true rfl) dX7_init_129 rfl ?_
  refine y_aload X dX7_init_132 rfl 0 rfl ?_
  refine y_sipush (v := 160) X dX7_init_133 (by decide) ?_
  refine y_newa (atype := .int) (N' := 160) (a0 := (160, .inl fun _ => 0)) X 0 rfl rfl lk_X7_init_a0 (fun _ h => by cases h) (fun _ => rfl) (by decide) (by decide) (by decide) (Nat.le_of_ble_eq_true rfl) (Nat.le_of_ble_eq_true rfl) dX7_init_136 (fun q17 => ?_)
  refine y_putF (ref := RX7) (C := RX7) (T := TX7) (N := 39) (ci := 7) (ws' := (h0, .inr (7, [.ref q1, .ref q2, .ref q3, .int 0, .int 0, .int 0, .ref q4, .ref q5, .ref q6, .ref q7, .ref q8, .ref q9, .ref q10, .int 0, .int 0, .int 0, .ref q11, .ref q12, .ref q13, .ref q14, .ref q15, .ref q16, .int 0, .int 0, .ref q17, .int 0, .int 0, .int 0, .int 0, .int 0, .int 0, .int 0, .int 0, .null, .null, .null, .null, .int 0, .null])) :: (y_ar cy 0 135 q1 ++ y_ar cy 0 45 q2 ++ y_ar cy 2 2 q3 ++ y_ar cy 0 6 q4 ++ y_ar cy 0 6 q5 ++ y_ar cy 0 6 q6 ++ y_ar cy 0 6 q7 ++ y_ar cy 0 6 q8 ++ y_ar cy 0 6 q9 ++ y_ar cy 0 45 q10 ++ y_ar cy 0 6 q11 ++ y_ar cy 0 6 q12 ++ y_ar cy 0 6 q13 ++ y_ar cy 0 6 q14 ++ y_ar cy 0 6 q15 ++ y_ar cy 0 6 q16 ++ y_ar cy 0 160 q17)) X in_X7_init_X7 tyX7 tyX7_ok nmX7 0 rfl rfl 24 (by decide) lk_X7_init_f59 rfl rfl rfl rfl (Nat.le_of_ble_eq_true rfl) dX7_init_138 rfl ?_
  refine y_aload X dX7_init_141 rfl 0 rfl ?_
  refine y_iconst (v := 4) X dX7_init_142 (by decide) ?_
  refine y_newa (atype := .int) (N' := 4) (a0 := (4, .inl fun _ => 0)) X 0 rfl rfl lk_X7_init_a0 (fun _ h => by cases h) (fun _ => rfl) (by decide) (by decide) (by decide) (Nat.le_of_ble_eq_true rfl) (Nat.le_of_ble_eq_true rfl) dX7_init_143 (fun q18 => ?_)
  refine y_putF (ref := RX7) (C := RX7) (T := TX7) (N := 39) (ci := 7) (ws' := (h0, .inr (7, [.ref q1, .ref q2, .ref q3, .int 0, .int 0, .int 0, .ref q4, .ref q5, .ref q6, .ref q7, .ref q8, .ref q9, .ref q10, .int 0, .int 0, .int 0, .ref q11, .ref q12, .ref q13, .ref q14, .ref q15, .ref q16, .int 0, .int 0, .ref q17, .int 0, .int 0, .int 0, .int 0, .int 0, .int 0, .int 0, .int 0, .ref q18, .null, .null, .null, .int 0, .null])) :: (y_ar cy 0 135 q1 ++ y_ar cy 0 45 q2 ++ y_ar cy 2 2 q3 ++ y_ar cy 0 6 q4 ++ y_ar cy 0 6 q5 ++ y_ar cy 0 6 q6 ++ y_ar cy 0 6 q7 ++ y_ar cy 0 6 q8 ++ y_ar cy 0 6 q9 ++ y_ar cy 0 45 q10 ++ y_ar cy 0 6 q11 ++ y_ar cy 0 6 q12 ++ y_ar cy 0 6 q13 ++ y_ar cy 0 6 q14 ++ y_ar cy 0 6 q15 ++ y_ar cy 0 6 q16 ++ y_ar cy 0 160 q17 ++ y_ar cy 0 4 q18)) X in_X7_init_X7 tyX7 tyX7_ok nmX7 0 rfl rfl 33 (by decide) lk_X7_init_f62 rfl rfl rfl rfl (Nat.le_of_ble_eq_true rfl) dX7_init_145 rfl ?_
  refine y_aload X dX7_init_148 rfl 0 rfl ?_
  refine y_iconst (v := 4) X dX7_init_149 (by decide) ?_
  refine y_newa (atype := .int) (N' := 4) (a0 := (4, .inl fun _ => 0)) X 0 rfl rfl lk_X7_init_a0 (fun _ h => by cases h) (fun _ => rfl) (by decide) (by decide) (by decide) (Nat.le_of_ble_eq_true rfl) (Nat.le_of_ble_eq_true rfl) dX7_init_150 (fun q19 => ?_)
  refine y_putF (ref := RX7) (C := RX7) (T := TX7) (N := 39) (ci := 7) (ws' := (h0, .inr (7, [.ref q1, .ref q2, .ref q3, .int 0, .int 0, .int 0, .ref q4, .ref q5, .ref q6, .ref q7, .ref q8, .ref q9, .ref q10, .int 0, .int 0, .int 0, .ref q11, .ref q12, .ref q13, .ref q14, .ref q15, .ref q16, .int 0, .int 0, .ref q17, .int 0, .int 0, .int 0, .int 0, .int 0, .int 0, .int 0, .int 0, .ref q18, .ref q19, .null, .null, .int 0, .null])) :: (y_ar cy 0 135 q1 ++ y_ar cy 0 45 q2 ++ y_ar cy 2 2 q3 ++ y_ar cy 0 6 q4 ++ y_ar cy 0 6 q5 ++ y_ar cy 0 6 q6 ++ y_ar cy 0 6 q7 ++ y_ar cy 0 6 q8 ++ y_ar cy 0 6 q9 ++ y_ar cy 0 45 q10 ++ y_ar cy 0 6 q11 ++ y_ar cy 0 6 q12 ++ y_ar cy 0 6 q13 ++ y_ar cy 0 6 q14 ++ y_ar cy 0 6 q15 ++ y_ar cy 0 6 q16 ++ y_ar cy 0 160 q17 ++ y_ar cy 0 4 q18 ++ y_ar cy 0 4 q19)) X in_X7_init_X7 tyX7 tyX7_ok nmX7 0 rfl rfl 34 (by decide) lk_X7_init_f65 rfl rfl rfl rfl (Nat.le_of_ble_eq_true rfl) dX7_init_152 rfl ?_
  refine y_aload X dX7_init_155 rfl 0 rfl ?_
  refine y_iconst (v := 4) X dX7_init_156 (by decide) ?_
  refine y_newa (atype := .int) (N' := 4) (a0 := (4, .inl fun _ => 0)) X 0 rfl rfl lk_X7_init_a0 (fun _ h => by cases h) (fun _ => rfl) (by decide) (by decide) (by decide) (Nat.le_of_ble_eq_true rfl) (Nat.le_of_ble_eq_true rfl) dX7_init_157 (fun q20 => ?_)
  refine y_putF (ref := RX7) (C := RX7) (T := TX7) (N := 39) (ci := 7) (ws' := (h0, .inr (7, [.ref q1, .ref q2, .ref q3, .int 0, .int 0, .int 0, .ref q4, .ref q5, .ref q6, .ref q7, .ref q8, .ref q9, .ref q10, .int 0, .int 0, .int 0, .ref q11, .ref q12, .ref q13, .ref q14, .ref q15, .ref q16, .int 0, .int 0, .ref q17, .int 0, .int 0, .int 0, .int 0, .int 0, .int 0, .int 0, .int 0, .ref q18, .ref q19, .ref q20, .null, .int 0, .null])) :: (y_ar cy 0 135 q1 ++ y_ar cy 0 45 q2 ++ y_ar cy 2 2 q3 ++ y_ar cy 0 6 q4 ++ y_ar cy 0 6 q5 ++ y_ar cy 0 6 q6 ++ y_ar cy 0 6 q7 ++ y_ar cy 0 6 q8 ++ y_ar cy 0 6 q9 ++ y_ar cy 0 45 q10 ++ y_ar cy 0 6 q11 ++ y_ar cy 0 6 q12 ++ y_ar cy 0 6 q13 ++ y_ar cy 0 6 q14 ++ y_ar cy 0 6 q15 ++ y_ar cy 0 6 q16 ++ y_ar cy 0 160 q17 ++ y_ar cy 0 4 q18 ++ y_ar cy 0 4 q19 ++ y_ar cy 0 4 q20)) X in_X7_init_X7 tyX7 tyX7_ok nmX7 0 rfl rfl 35 (by decide) lk_X7_init_f68 rfl rfl rfl rfl (Nat.le_of_ble_eq_true rfl) dX7_init_159 rfl ?_
  refine y_aload X dX7_init_162 rfl 0 rfl ?_
  refine y_sipush (v := 160) X dX7_init_163 (by decide) ?_
  refine y_newa (atype := .int) (N' := 160) (a0 := (160, .inl fun _ => 0)) X 0 rfl rfl lk_X7_init_a0 (fun _ h => by cases h) (fun _ => rfl) (by decide) (by decide) (by decide) (Nat.le_of_ble_eq_true rfl) (Nat.le_of_ble_eq_true rfl) dX7_init_166 (fun q21 => ?_)
  refine y_putF (ref := RX7) (C := RX7) (T := TX7) (N := 39) (ci := 7) (ws' := (h0, .inr (7, [.ref q1, .ref q2, .ref q3, .int 0, .int 0, .int 0, .ref q4, .ref q5, .ref q6, .ref q7, .ref q8, .ref q9, .ref q10, .int 0, .int 0, .int 0, .ref q11, .ref q12, .ref q13, .ref q14, .ref q15, .ref q16, .int 0, .int 0, .ref q17, .int 0, .int 0, .int 0, .int 0, .int 0, .int 0, .int 0, .int 0, .ref q18, .ref q19, .ref q20, .ref q21, .int 0, .null])) :: (y_ar cy 0 135 q1 ++ y_ar cy 0 45 q2 ++ y_ar cy 2 2 q3 ++ y_ar cy 0 6 q4 ++ y_ar cy 0 6 q5 ++ y_ar cy 0 6 q6 ++ y_ar cy 0 6 q7 ++ y_ar cy 0 6 q8 ++ y_ar cy 0 6 q9 ++ y_ar cy 0 45 q10 ++ y_ar cy 0 6 q11 ++ y_ar cy 0 6 q12 ++ y_ar cy 0 6 q13 ++ y_ar cy 0 6 q14 ++ y_ar cy 0 6 q15 ++ y_ar cy 0 6 q16 ++ y_ar cy 0 160 q17 ++ y_ar cy 0 4 q18 ++ y_ar cy 0 4 q19 ++ y_ar cy 0 4 q20 ++ y_ar cy 0 160 q21)) X in_X7_init_X7 tyX7 tyX7_ok nmX7 0 rfl rfl 36 (by decide) lk_X7_init_f71 rfl rfl rfl rfl (Nat.le_of_ble_eq_true rfl) dX7_init_168 rfl ?_
  refine y_aload X dX7_init_171 rfl 0 rfl ?_
  refine y_bipush (v := 45) X dX7_init_172 (by decide) ?_
  refine y_newa (atype := .int) (N' := 45) (a0 := (45, .inl fun _ => 0)) X 0 rfl rfl lk_X7_init_a0 (fun _ h => by cases h) (fun _ => rfl) (by decide) (by decide) (by decide) (Nat.le_of_ble_eq_true rfl) (Nat.le_of_ble_eq_true rfl) dX7_init_174 (fun q22 => ?_)
  refine y_putF (ref := RX7) (C := RX7) (T := TX7) (N := 39) (ci := 7) (ws' := (h0, .inr (7, [.ref q1, .ref q2, .ref q3, .int 0, .int 0, .int 0, .ref q4, .ref q5, .ref q6, .ref q7, .ref q8, .ref q9, .ref q10, .int 0, .int 0, .int 0, .ref q11, .ref q12, .ref q13, .ref q14, .ref q15, .ref q16, .int 0, .int 0, .ref q17, .int 0, .int 0, .int 0, .int 0, .int 0, .int 0, .int 0, .int 0, .ref q18, .ref q19, .ref q20, .ref q21, .int 0, .ref q22])) :: (y_ar cy 0 135 q1 ++ y_ar cy 0 45 q2 ++ y_ar cy 2 2 q3 ++ y_ar cy 0 6 q4 ++ y_ar cy 0 6 q5 ++ y_ar cy 0 6 q6 ++ y_ar cy 0 6 q7 ++ y_ar cy 0 6 q8 ++ y_ar cy 0 6 q9 ++ y_ar cy 0 45 q10 ++ y_ar cy 0 6 q11 ++ y_ar cy 0 6 q12 ++ y_ar cy 0 6 q13 ++ y_ar cy 0 6 q14 ++ y_ar cy 0 6 q15 ++ y_ar cy 0 6 q16 ++ y_ar cy 0 160 q17 ++ y_ar cy 0 4 q18 ++ y_ar cy 0 4 q19 ++ y_ar cy 0 4 q20 ++ y_ar cy 0 160 q21 ++ y_ar cy 0 45 q22)) X in_X7_init_X7 tyX7 tyX7_ok nmX7 0 rfl rfl 38 (by decide) lk_X7_init_f74 rfl rfl rfl rfl (Nat.le_of_ble_eq_true rfl) dX7_init_176 rfl ?_
  refine y_eqw (y_w1_eq (h0, .inr (7, [.ref q1, .ref q2, .ref q3, .int 0, .int 0, .int 0, .ref q4, .ref q5, .ref q6, .ref q7, .ref q8, .ref q9, .ref q10, .int 0, .int 0, .int 0, .ref q11, .ref q12, .ref q13, .ref q14, .ref q15, .ref q16, .int 0, .int 0, .ref q17, .int 0, .int 0, .int 0, .int 0, .int 0, .int 0, .int 0, .int 0, .ref q18, .ref q19, .ref q20, .ref q21, .int 0, .ref q22])) (y_ar cy 0 135 q1 ++ y_ar cy 0 45 q2 ++ y_ar cy 2 2 q3 ++ y_ar cy 0 6 q4 ++ y_ar cy 0 6 q5 ++ y_ar cy 0 6 q6 ++ y_ar cy 0 6 q7 ++ y_ar cy 0 6 q8 ++ y_ar cy 0 6 q9 ++ y_ar cy 0 45 q10 ++ y_ar cy 0 6 q11 ++ y_ar cy 0 6 q12 ++ y_ar cy 0 6 q13 ++ y_ar cy 0 6 q14 ++ y_ar cy 0 6 q15 ++ y_ar cy 0 6 q16 ++ y_ar cy 0 160 q17 ++ y_ar cy 0 4 q18) (q19, .inl (cy 0, 4, .inl fun _ => 0)) (y_ar cy 0 4 q20) (y_ar cy 0 160 q21) (y_ar cy 0 45 q22)) ?_
  refine y_iconst (v := 0) X dX7_init_179 (by decide) ?_
  refine y_istore (lv' := [(1, .int 0), (0, .ref h0)]) X dX7_init_180 rfl (by decide) rfl ?_
  refine y_iload X dX7_init_181 rfl 0 rfl ?_
  refine y_iconst (v := 4) X dX7_init_182 (by decide) ?_
  refine y_geF (tgt := 200) X dX7_init_183 (by decide) (by decide) ?_
  refine y_aload X dX7_init_186 rfl 1 rfl ?_
  refine y_get (C := RX7) (T := TX7) (N := 39) (ci := 7) X in_X7_init_X7 0 rfl rfl 34 (by decide) lk_X7_init_f65 rfl dX7_init_187 ?_
  refine y_iload X dX7_init_190 rfl 0 rfl ?_
  refine y_bipush (v := -4) X dX7_init_191 (by decide) ?_
  refine y_ias1 (k := 0) X 0 rfl (show ¬ ((0 : Int32) < 0 ∨ 4 ≤ (0 : Int32).toNatClampNeg) by decide) (by decide) dX7_init_193 ?_
  refine y_iinc (v := 1) (lv' := [(1, .int 1), (0, .ref h0)]) X dX7_init_194 0 rfl (by decide) (by decide) rfl ?_
  refine y_goto (tgt := 181) X dX7_init_197 (by decide) ?_
  refine y_iload X dX7_init_181 rfl 0 rfl ?_
  refine y_iconst (v := 4) X dX7_init_182 (by decide) ?_
  refine y_geF (tgt := 200) X dX7_init_183 (by decide) (by decide) ?_
  refine y_aload X dX7_init_186 rfl 1 rfl ?_
  refine y_get (C := RX7) (T := TX7) (N := 39) (ci := 7) X in_X7_init_X7 0 rfl rfl 34 (by decide) lk_X7_init_f65 rfl dX7_init_187 ?_
  refine y_iload X dX7_init_190 rfl 0 rfl ?_
  refine y_bipush (v := -4) X dX7_init_191 (by decide) ?_
  refine y_ias1 (k := 1) X 0 rfl (show ¬ ((1 : Int32) < 0 ∨ 4 ≤ (1 : Int32).toNatClampNeg) by decide) (by decide) dX7_init_193 ?_
  refine y_iinc (v := 2) (lv' := [(1, .int 2), (0, .ref h0)]) X dX7_init_194 0 rfl (by decide) (by decide) rfl ?_
  refine y_goto (tgt := 181) X dX7_init_197 (by decide) ?_
  refine y_iload X dX7_init_181 rfl 0 rfl ?_
  refine y_iconst (v := 4) X dX7_init_182 (by decide) ?_
  refine y_geF (tgt := 200) X dX7_init_183 (by decide) (by decide) ?_
  refine y_aload X dX7_init_186 rfl 1 rfl ?_
  refine y_get (C := RX7) (T := TX7) (N := 39) (ci := 7) X in_X7_init_X7 0 rfl rfl 34 (by decide) lk_X7_init_f65 rfl dX7_init_187 ?_
  refine y_iload X dX7_init_190 rfl 0 rfl ?_
  refine y_bipush (v := -4) X dX7_init_191 (by decide) ?_
  refine y_ias1 (k := 2) X 0 rfl (show ¬ ((2 : Int32) < 0 ∨ 4 ≤ (2 : Int32).toNatClampNeg) by decide) (by decide) dX7_init_193 ?_
  refine y_iinc (v := 3) (lv' := [(1, .int 3), (0, .ref h0)]) X dX7_init_194 0 rfl (by decide) (by decide) rfl ?_
  refine y_goto (tgt := 181) X dX7_init_197 (by decide) ?_
  refine y_iload X dX7_init_181 rfl 0 rfl ?_
  refine y_iconst (v := 4) X dX7_init_182 (by decide) ?_
  refine y_geF (tgt := 200) X dX7_init_183 (by decide) (by decide) ?_
  refine y_aload X dX7_init_186 rfl 1 rfl ?_
  refine y_get (C := RX7) (T := TX7) (N := 39) (ci := 7) X in_X7_init_X7 0 rfl rfl 34 (by decide) lk_X7_init_f65 rfl dX7_init_187 ?_
  refine y_iload X dX7_init_190 rfl 0 rfl ?_
  refine y_bipush (v := -4) X dX7_init_191 (by decide) ?_
  refine y_ias1 (k := 3) X 0 rfl (show ¬ ((3 : Int32) < 0 ∨ 4 ≤ (3 : Int32).toNatClampNeg) by decide) (by decide) dX7_init_193 ?_
  refine y_iinc (v := 4) (lv' := [(1, .int 4), (0, .ref h0)]) X dX7_init_194 0 rfl (by decide) (by decide) rfl ?_
  refine y_goto (tgt := 181) X dX7_init_197 (by decide) ?_
  refine y_iload X dX7_init_181 rfl 0 rfl ?_
  refine y_iconst (v := 4) X dX7_init_182 (by decide) ?_
  refine y_geT (tgt := 200) X dX7_init_183 (by decide) (by decide) ?_
  refine y_eqw ((y_fl1_w cy h0 q1 q2 q3 q4 q5 q6 q7 q8 q9 q10 q11 q12 q13 q14 q15 q16 q17 q18 q19 q20 q21 q22).trans (y_fl1_eq D cy (y_ad [h0, q1, q2, q3, q4, q5, q6, q7, q8, q9, q10, q11, q12, q13, q14, q15, q16, q17, q18, q19, q20, q21, q22] (fun _ => 0)) (fun _ => True))) ?_
  obtain ⟨r1, r2, hr1, hr2, hrel⟩ := y_rel0
  refine y_aload X dX7_init_200 rfl 1 rfl ?_
  refine y_callZ (C := RX7) (q := (RX7, TX7, 39)) (b := 0) X X.2.1 (fun hV => c_X7_firstDraft l (D, cy, (y_ad [h0, q1, q2, q3, q4, q5, q6, q7, q8, q9, q10, q11, q12, q13, q14, q15, q16, q17, q18, q19, q20, q21, q22] (fun _ => 0)), z_shM, fun _ => True) hV rfl y_m1) hr1 gX7_init_X7_firstDraft rfl (by decide +kernel) ⟨by decide, by decide⟩ rfl rfl (Nat.le_of_ble_eq_true rfl) (Nat.le_of_ble_eq_true rfl) rfl rfl rfl rfl (Nat.le_of_ble_eq_true rfl) dX7_init_201 ?_
  refine y_aload X dX7_init_204 rfl 1 rfl ?_
  refine y_callZ (C := RX7) (q := (RX7, TX7, 39)) (b := 0) X X.2.1 (fun hV => c_X7_keepDraft l (D, cy, (y_ad [h0, q1, q2, q3, q4, q5, q6, q7, q8, q9, q10, q11, q12, q13, q14, q15, q16, q17, q18, q19, q20, q21, q22] (fun _ => 0)), z_shM, fun _ => True) hV rfl r1.2) hr2 gX7_init_X7_keepDraft rfl (by decide +kernel) ⟨by decide, by decide⟩ rfl rfl (Nat.le_of_ble_eq_true rfl) (Nat.le_of_ble_eq_true rfl) rfl rfl rfl rfl (Nat.le_of_ble_eq_true rfl) dX7_init_205 ?_
  exact y_ret hr hlo X ⟨(y_ad [h0, q1, q2, q3, q4, q5, q6, q7, q8, q9, q10, q11, q12, q13, q14, q15, q16, q17, q18, q19, q20, q21, q22] (fun _ => 0)), r2.2, rfl, rfl, hrel⟩ dX7_init_208
