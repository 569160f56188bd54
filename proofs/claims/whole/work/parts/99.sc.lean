set_option maxHeartbeats 4000000 in
set_option maxRecDepth 100000 in
/-- from the entry, for every script of at most 2560 ints, the law comes to its end with true -/
theorem whole_start {p : Program} {e : Env} {s : State} {m : MethodId} {below : List Frame} {meth : Method} {c : Code} (l : Launch) {b L : Nat} {xs : Nat → Int32} (hL : L ≤ 2560) (C0 : lw_At p s m meth c b L xs) : W p l e room_1 s m #[Value.ref b] below meth c s.heap [] 0 0 (lw_Z below #[Value.ref b] s) (entryFrame m ([Value.ref b] : List Value).toArray 4) := by
  obtain ⟨hx, hb, hr, hml, hown, hts, hX, hbl, hlocks, hgv⟩ := id C0
  obtain ⟨D, cy, hK⟩ := l_tables hts
  obtain ⟨g, hg⟩ := l_fixed hts hgv
  have hEX := l_EX hts
  have S : CallFix p m c cL_law 4 s #[Value.ref b] wsL_law RL := ⟨hx, hb, hml, hown, fun w h => hts w (wsL_law_in w h)⟩
  have hl := lv_entry ([.ref b]) (n := 4) (Nat.le_of_ble_eq_true rfl)
  rw [lg_entry_eq]
  generalize (lg_sl ([.ref b]) ++ List.replicate (4 - (lg_sl ([.ref b])).length) Slot.unset).toArray = ls at hl ⊢
  have hl : lv_has ls 4 [(0, .ref b)] := hl
  suffices h : y_Go (p, l, e, room_1, s, m, #[Value.ref b], below, meth, c, lw_Z below #[Value.ref b] s, D, l_A s, 4) [] 0 0 0 [(0, .ref b)] [] from h ls s.heap [] hl (fun k q h => by simp at h) ⟨fun i j p q h => by simp at h, fun k q h => by simp at h⟩ va_S.rf
  refine l_sub (C := RX6) (T := TX6) (N := 9) S hK (fun _ h => h) y_EX_ok hEX (yc_X6 l D cy g) inlX6 tyX6 tyX6_ok lk_L_0 lk_L_1 lk_L_2 rfl fs0X6_ok ggL_law_X6_init rfl lk_L_6 rfl rfl lk_L_7 (by decide +kernel) ⟨by decide, by decide⟩ rfl rfl (Nat.le_of_ble_eq_true rfl) (Nat.le_of_ble_eq_true rfl) (Nat.le_of_ble_eq_true rfl) dL_law_0 dL_law_3 dL_law_4 (fun q1 u1 hu1 => ?_)
  obtain ⟨aX, h0X, hstX, hu1⟩ := hu1
  replace hu1 := hu1.symm
  subst hu1
  subst h0X
  refine l_ast (lv' := [(1, .ref (aX 0)), (0, .ref b)]) S dL_law_7 rfl (by decide) rfl ?_
  refine l_sub (C := RX7) (T := TX7) (N := 39) S hK (fun _ h => h) y_EX_ok hEX (yc_X7 l D cy) inlX7 tyX7 tyX7_ok lk_L_3 lk_L_4 lk_L_5 rfl fs0X7_ok ggL_law_X7_init rfl lk_L_8 rfl rfl lk_L_9 (by decide +kernel) ⟨by decide, by decide⟩ rfl rfl (Nat.le_of_ble_eq_true rfl) (Nat.le_of_ble_eq_true rfl) (Nat.le_of_ble_eq_true rfl) dL_law_8 dL_law_11 dL_law_12 (fun q2 u2 hu2 => ?_)
  obtain ⟨aM, σM, h0M, hu2, hrel⟩ := hu2
  replace hu2 := hu2.symm
  subst hu2
  subst h0M
  refine l_ast (lv' := [(2, .ref (aM 0)), (1, .ref (aX 0)), (0, .ref b)]) S dL_law_15 rfl (by decide) rfl ?_
  refine l_ico (v := 0) S dL_law_16 (by decide) ?_
  refine l_ist (lv' := [(3, .int 0), (2, .ref (aM 0)), (1, .ref (aX 0)), (0, .ref b)]) S dL_law_17 rfl (by decide) rfl ?_
  intro ls H locs hl hP hD hS
  rw [List.nil_append] at hP hD
  obtain ⟨hPX, hPM⟩ := l_twoP hP
  obtain ⟨hDX, hDM, hdis⟩ := l_two hD
  obtain ⟨apX, inX⟩ := l_apart hDX
  obtain ⟨apM, inM⟩ := l_apart hDM
  have hC : z_LC (p, l, e, s, m, below, meth, c, b, L, xs) (D, cy, aX, z_shX, z_FX (D, cy, aX, z_shX, fun _ => True)) (D, cy, aM, z_shM, fun _ => True) :=
    ⟨C0, hL, ⟨⟨apX, fun U g mk a h => z_FX_call (V := (D, cy, aX, z_shX, fun _ => True)) g mk a h, fun s U H locs h h1 h2 h3 => z_FX_warm (V := (D, cy, aX, z_shX, fun _ => True)) h h1 h2 h3⟩, ⟨rfl, fun U h => h⟩, hg (D, cy, aX, z_shX, fun _ => True) hstX inX, hK, inX⟩, ⟨⟨apM, fun _ _ _ _ _ => trivial, fun _ _ _ _ _ _ _ _ => trivial⟩, rfl, trivial, hK, inM⟩, hdis⟩
  refine W.widen (k := 600000) (n := 7302250) (Nat.le_of_ble_eq_true rfl) (Nat.le_of_ble_eq_true rfl) ?_
  exact l_loop hC (L + 1) 0 y_x0 σM (Nat.zero_le L) (by show L < 0 + (L + 1); omega) hrel ls H locs hl hPX hPM hS
