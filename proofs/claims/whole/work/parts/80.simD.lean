/-! ===== weeks: go, ahead, first, modest ===== -/
/-- as z_bind_eq, but no mere unfolding: the kernel must not run a loop to see it -/
theorem z_be (r : Int32 × z_St) (g : Int32 × z_St → Option (Int32 × z_St)) : (some r).bind g = g r := id rfl
theorem z_f1 {A B : Option (Int32 × z_St)} : (if (1 : Int32) = 0 then A else B) = B := if_neg (by decide)
section SD
variable {σX σM : z_St} {n k q B : Nat} {s : z_Sy} {st kp : Nat → Nat} {ln : Nat} {tp : Nat → Nat} {ft tn : Int32} {la : Nat → Int32} {sz : Nat → Nat} {ce : Nat → Nat → Int32} {a : Nat → Nat}
/-- the trial of the class and 'at' of the reference hold a; all else is as between two calls -/
def z_Tr (σX σM : z_St) (n k q : Nat) (s : z_Sy) (st kp : Nat → Nat) (ln : Nat) (tp : Nat → Nat) (ft tn : Int32) (la : Nat → Int32) (sz : Nat → Nat) (ce : Nat → Nat → Int32) (a : Nat → Nat) : Prop :=
  x_I σX n k q s st kp ln tp ft tn la sz ce ∧ m_I σM n k q s st kp ln tp ft tn la sz ce ∧ x_L σX 17 n k a ∧ m_A σM a
theorem z_Tr.rel (hv : v_I n k q s st kp ln tp la sz) (h : z_Tr σX σM n k q s st kp ln tp ft tn la sz ce a) : z_Rel σX σM := ⟨n, k, q, s, st, kp, ln, tp, ft, tn, la, sz, ce, hv, h.1, h.2.1⟩
theorem z_start (hv : v_I n k q s st kp ln tp la sz) (hx : x_I σX n k q s st kp ln tp ft tn la sz ce) (hm : m_I σM n k q s st kp ln tp ft tn la sz ce) : ∃ σX' σM', f_X1_copyFrom 17 11 σX = some (0, σX') ∧ f_X7_starts σM = some (0, σM') ∧ z_Tr σX' σM' n k q s st kp ln tp ft tn la sz ce st := by
  obtain ⟨σ1, g1, g2, g3⟩ := x_copy (b := 17) hx.2.1 hv.1.1 hv.1.2.1 (by omega)
  obtain ⟨σ2, i1, i2, i3, -⟩ := m_starts (σ := σM) (a := st) (fun j hj => hm.2.1 j (by omega))
  exact ⟨σ1, σ2, g1, i1, hx.tri17 g3 hv.2.1.2.2.2.1, hm.at' i3, g2, i2⟩
theorem z_week (hv : v_I n k q s st kp ln tp la sz) (h : z_Tr σX σM n k q s st kp ln tp ft tn la sz ce a) (wR : w_R n k B a) (hB : B ≤ 980) : ∃ σX' σM', f_X1_passWeek 17 4 σX = some (nI (w_wt s k q a), σX') ∧ f_X7_weekGoes σM = some (0, σM') ∧ z_Tr σX' σM' n k q s st kp ln tp ft tn la sz ce (w_wk s n k q a) ∧ σX' 17 10 = nI (w_wf s k q a) ∧ σM' 0 32 = nI (w_wf s k q a) := by
  obtain ⟨hx, hm, hL, hA⟩ := h
  obtain ⟨σ1, g1, g2, g3, g4⟩ := x_week (b := 17) (by omega) (by omega) hv.1 wR hx.1 hL
  obtain ⟨σ2, i1, i2, i3, i4⟩ := m_week hB hv.1 wR hm.1 hA
  exact ⟨σ1, σ2, g1, i1, ⟨hx.tri17 g3 hv.2.1.2.2.2.1, hm.at' i3, g2, i2⟩, g4, i4⟩
theorem z_weeks (hv : v_I n k q s st kp ln tp la sz) (h : z_Tr σX σM n k q s st kp ln tp ft tn la sz ce a) (wR : w_R n k B a) {N : Nat} (hN : a 25 + N ≤ 200) (hN2 : N < 200) (hB : B + 6 * N ≤ 980) : ∃ σX' σM', f_X1_passWeeks 17 4 (nI N) σX = some (nI (w_wts s n k q a N), σX') ∧ f_X7_weeksGo (nI N) σM = some (0, σM') ∧ z_Tr σX' σM' n k q s st kp ln tp ft tn la sz ce (w_ws s n k q a N) := by
  obtain ⟨hx, hm, hL, hA⟩ := h
  obtain ⟨σ1, g1, g2, g3⟩ := x_passWeeks (b := 17) (by omega) hv.1 wR hN hN2 (by omega) hx.1 hL
  obtain ⟨σ2, i1, i2, i3⟩ := m_weeksGo hv.1 wR hN hN2 hB hm.1 hA
  exact ⟨σ1, σ2, g1, i1, hx.tri17 g3 hv.2.1.2.2.2.1, hm.at' i3, g2, i2⟩
theorem m_left (hm : m_I σM n k q s st kp ln tp ft tn la sz ce) (h25 : st 25 ≤ 99) : f_X7_weeksLeft σM = some (nI (10 - st 25), σM) := by
  unfold f_X7_weeksLeft
  rw [hm.2.1 25 (by omega)]
  by_cases h : 10 ≤ st 25
  · rw [if_pos (by simp (disch := omega) only [zn_lit, zn_le]; exact h), show 10 - st 25 = 0 by omega]; rfl
  · rw [if_neg (by simp (disch := omega) only [zn_lit, zn_le]; exact h), show (10 : Int32) = nI 10 from rfl, zn_sub (by omega)]
/-- up to week 9: the class's passToLastWeek, the reference's brazenIn(weeksLeft()) -/
theorem z_last (hv : v_I n k q s st kp ln tp la sz) (h : z_Tr σX σM n k q s st kp ln tp ft tn la sz ce a) (wR : w_R n k (6 * st 25) a) (h25 : a 25 = st 25) (hb : ∀ p, p < n → a (4 * p + 3) = st (4 * p + 3)) : ∃ σX' σM', f_X1_passToLastWeek 17 4 σX = some (nI (w_wts s n k q a (10 - st 25)), σX') ∧ f_X7_weeksLeft σM = some (nI (10 - st 25), σM) ∧ f_X7_brazenIn (nI (10 - st 25)) σM = some (nI (w_wts s n k q a (10 - st 25)), σM') ∧ f_X7_weeksGo (nI (10 - st 25)) σM = some (0, σM') ∧ z_Tr σX' σM' n k q s st kp ln tp ft tn la sz ce (w_ws s n k q a (10 - st 25)) := by
  obtain ⟨hx, hm, hL, hA⟩ := h
  have h99 := hv.2.1.2.1
  obtain ⟨σ1, g1, g2, g3⟩ := x_last (b := 17) (by omega) hv.1 wR (by omega) hx.1 hL
  rw [h25] at g1 g2
  obtain ⟨σ2, i1, i2, i3⟩ := m_brazenIn (st := st) hv.1 wR (N := 10 - st 25) (by omega) (by omega) (by omega) hm.1 hA hm.2.1 hb
  obtain ⟨σ3, j1, j2, j3⟩ := m_weeksGo hv.1 wR (N := 10 - st 25) (by omega) (by omega) (by omega) hm.1 hA
  have e : σ3 = σ2 := by
    unfold f_X7_brazenIn at i1
    rw [j1, z_bind_eq] at i1
    obtain ⟨u, u1, u2⟩ := z_bind_some i1
    have hbm := m_brazenMore (st := st) (n := n) j2 (by rw [j3.1 1 (by omega) (by omega)]; exact hm.2.1) (hm.1.fr j3).1 hv.1.1 (fun p hp => by rw [← hb p hp]; exact w_br_ws hv.1 (by have := hv.1.1; omega) _)
    rw [hbm] at u1
    have u3 := Option.some.inj u1
    subst u3
    have u4 := Option.some.inj u2
    exact congrArg Prod.snd u4
  subst e
  exact ⟨σ1, σ3, g1, m_left hm h99, i1, j1, hx.tri17 g3 hv.2.1.2.2.2.1, hm.at' i3, g2, i2⟩
theorem sim_go (h : z_Rel σX σM) (x : Int32) : z_Sim (f_X6_go x σX) (f_X7_go x σM) := by
  have h0 := h
  obtain ⟨n, k, q, s, st, kp, ln, tp, ft, tn, la, sz, ce, hv, hx, hm⟩ := h
  have wS := hv.1
  have hn := hv.1.1
  have hk := hv.1.2.1
  have hL := hx.2.1
  have hst := hm.2.1
  have hG := hv.2.1
  have h99 := hG.2.1
  unfold f_X6_go f_X7_go
  rcases zn_rng x (m := 21) (by omega) with ⟨N, hN, rfl⟩ | ho
  · rw [show f_X6_isWithin (nI N) 20 σX = _ from x_with_in (m := 20) (by omega) (by omega), m_lit_in (m := 20) (by omega) (by omega) (by decide)]
    simp only [z_bind_eq, z_t1, if_false]
    rw [hL.2.2.2.2.2.2, hst 25 (by omega)]
    refine z_Sim.ite (fun hc => ?_) (fun _ => z_Sim.same h0 rfl rfl)
    have hc : st 25 + N ≤ 99 := by
      simp (disch := omega) only [zn_lit, zn_add, zn_le] at hc
      exact hc
    obtain ⟨σ1, g1, g2, g3, -⟩ := m_starts (σ := σM) (a := st) (fun j hj => hst j (by omega))
    have hm1 := hm.at' g3
    obtain ⟨σ2, i1, i2, i3⟩ := m_brazenIn (st := st) wS hG.1 (N := N) (by omega) (by omega) (by omega) hm1.1 g2 hm1.2.1 (fun _ _ => rfl)
    have hm2 := hm1.at' i3
    obtain ⟨σ3, j1, j2, j3, j4⟩ := m_settles i2
    obtain ⟨σ4, l1, l2, l3⟩ := x_passWeeks (b := 11) (by omega) wS hG.1 (N := N) (by omega) (by omega) (by omega) hx.1 hL
    simp only [g1, i1, j1, l1, z_bind_eq]
    have e25 := w_ws_25 (a := st) wS N
    have ek : ∀ j, 26 ≤ j → w_ws s n k q st N j = st j := fun j hj => w_ws_k wS (by unfold w_K; omega) N
    have e22 : w_ws s n k q st N 22 = st 22 := w_ws_k wS (by unfold w_K; omega) N
    refine ⟨_, _, _, rfl, rfl, n, k, q, s, w_ws s n k q st N, kp, ln, tp, ft, tn, la, sz, ce, ?_, ?_, ?_⟩
    · refine hv.core (hG.core ?_ (by omega) (by rw [e22]; exact hG.2.2.1) ek) (fun j hj => ek j (by omega))
      rw [e25]
      exact (w_R_ws wS hG.1 N (by omega)).mono (by omega)
    · exact hx.led (fun c _ h2 => l3 c (by omega)) l2 ek hG.2.2.2.1
    · obtain ⟨q1, q2, q3, q4, q5, q6⟩ := hm2
      refine ⟨?_, fun j hj => ?_, ?_, ?_, ?_, ?_⟩
      · unfold m_S
        rw [j2 0 (by omega), j2 4 (by omega), j2 5 (by omega), j2 6 (by omega), j2 7 (by omega), j2 8 (by omega), j2 9 (by omega)]; exact q1
      · by_cases h : j < 45
        · exact j3 j h
        · rw [j4 j (by omega), ek j (by omega)]; exact q2 j hj
      · rw [j2 3 (by omega)]; exact q3
      · rw [j2 0 (by omega), j2 17 (by omega)]; exact q4
      · rw [j2 0 (by omega)]; exact q5
      · rw [j2 19 (by omega), j2 20 (by omega), j2 21 (by omega)]; exact q6
  · rw [show f_X6_isWithin x 20 σX = _ from x_with_out (m := 20) (by omega) ho, m_lit_out (m := 20) (by omega) (by decide) ho]
    exact z_Sim.same h0 rfl rfl
theorem sim_ahead (h : z_Rel σX σM) (x y z : Int32) : z_Sim (f_X6_ahead x y z σX) (f_X7_ahead x y z σM) := by
  have h0 := h
  obtain ⟨n, k, q, s, st, kp, ln, tp, ft, tn, la, sz, ce, hv, hx, hm⟩ := h
  have wS := hv.1
  have hn := hv.1.1
  have hL := hx.2.1
  have hG := hv.2.1
  have h99 := hG.2.1
  unfold f_X6_ahead f_X7_ahead
  rcases zn_rng x (m := n) (by omega) with ⟨p, hp, rfl⟩ | ho
  · rw [x_one_in hL.1 hn hp, m_one_in hm.1.1 hn hp]
    simp only [z_bind_eq, z_t1, if_false]
    rcases zn_rng y (m := 21) (by omega) with ⟨N, hN, rfl⟩ | ho
    · rw [show f_X6_isWithin (nI N) 20 σX = _ from x_with_in (m := 20) (by omega) (by omega), m_lit_in (m := 20) (by omega) (by omega) (by decide)]
      simp only [z_bind_eq, z_t1, if_false]
      rcases zn_rng z (m := 4) (by omega) with ⟨w, hw, rfl⟩ | ho
      · rw [show f_X6_isWithin (nI w) 3 σX = _ from x_with_in (m := 3) (by omega) (by omega), m_lit_in (m := 3) (by omega) (by omega) (by decide)]
        obtain ⟨σ1, σ2, g1, g2, hT⟩ := z_start hv hx hm
        obtain ⟨σ3, σ4, i1, i2, hT2⟩ := z_weeks hv hT hG.1 (N := N) (by omega) (by omega) (by omega)
        have hr := z_Tr.rel hv hT2
        obtain ⟨hx2, hm2, hL2, hA2⟩ := hT2
        obtain ⟨e1, e2, e3, e4⟩ := hL2.2.1 p hp
        have f4 := (hx2.2.1.2.1 p hp).2.2.2
        simp only [z_bind_eq, z_t1, if_false, g1, g2, i1, i2]
        simp (disch := omega) only [zn_lit, z_gd_nI, zn_cl, e2, e3, e4, f4, m_of hA2, z_bind_eq, zn_mul, zn_add, hm2.2.1]
        refine z_Sim.ite (fun _ => z_Sim.same hr rfl rfl) (fun _ => ?_)
        refine z_Sim.ite (fun _ => z_Sim.same hr rfl rfl) (fun _ => ?_)
        refine z_Sim.ite (fun _ => z_Sim.same hr rfl rfl) (fun _ => ?_)
        exact z_Sim.same hr (by rw [hL2.2.2.2.2.2.1]) (by rw [hA2 24 (by omega)])
      · rw [show f_X6_isWithin z 3 σX = _ from x_with_out (m := 3) (by omega) ho, m_lit_out (m := 3) (by omega) (by decide) ho]
        exact z_Sim.same h0 rfl rfl
    · rw [show f_X6_isWithin y 20 σX = _ from x_with_out (m := 20) (by omega) ho, m_lit_out (m := 20) (by omega) (by decide) ho]
      exact z_Sim.same h0 rfl rfl
  · rw [x_one_out hL.1 ho, m_one_out hm.1.1 hn ho]
    exact z_Sim.same h0 rfl rfl
theorem z_first (hv : v_I n k q s st kp ln tp la sz) {p : Nat} : ∀ (m t F F' : Nat) (σX σM : z_St), 20 = t + m → m < F → m < F' → z_Tr σX σM n k q s st kp ln tp ft tn la sz ce (w_ws s n k q st t) → z_Sim (f_X6_first_23 F (nI p) (nI t) σX) (f_X7_first_16 F' (nI p) (nI t) σM) := by
  have wS := hv.1
  have hG := hv.2.1
  have h99 := hG.2.1
  intro m
  induction m with
  | zero =>
    intro t F F' σX σM hm hF hF' hT
    obtain ⟨F, rfl⟩ : ∃ G, F = G + 1 := ⟨F - 1, by omega⟩
    obtain ⟨F', rfl⟩ : ∃ G, F' = G + 1 := ⟨F' - 1, by omega⟩
    rw [f_X6_first_23, f_X7_first_16, if_pos (by simp (disch := omega) only [zn_lit, zn_le]; omega), if_pos (by simp (disch := omega) only [zn_lit, zn_le]; omega)]
    exact z_Sim.same (z_Tr.rel hv hT) rfl rfl
  | succ m ih =>
    intro t F F' σX σM hm hF hF' hT
    obtain ⟨F, rfl⟩ : ∃ G, F = G + 1 := ⟨F - 1, by omega⟩
    obtain ⟨F', rfl⟩ : ∃ G, F' = G + 1 := ⟨F' - 1, by omega⟩
    obtain ⟨σ1, σ2, g1, g2, hT2, g4, g5⟩ := z_week hv hT (w_R_ws wS hG.1 t (by omega)) (by omega)
    have hr := z_Tr.rel hv hT2
    rw [f_X6_first_23, f_X7_first_16, if_neg (by simp (disch := omega) only [zn_lit, zn_le]; omega), if_neg (by simp (disch := omega) only [zn_lit, zn_le]; omega), g1, g2]
    simp only [z_bind_eq, g4, g5]
    refine z_Sim.ite (fun _ => ?_) (fun _ => ?_)
    · refine z_Sim.same (r := nI (st 25 + t)) hr ?_ ?_
      · rw [hT2.1.2.1.2.2.2.2.2.2, zn_add]
      · rw [hT2.2.2.2 25 (by omega), w_wk_25 wS, w_ws_25 wS, show (1 : Int32) = nI 1 from rfl, zn_sub (by omega), show st 25 + t + 1 - 1 = st 25 + t by omega]
    · simp only [zn_lit, zn_add]
      exact ih (t + 1) F F' σ1 σ2 (by omega) (by omega) (by omega) hT2
theorem sim_first (h : z_Rel σX σM) (x : Int32) : z_Sim (f_X6_first x σX) (f_X7_first x σM) := by
  have h0 := h
  obtain ⟨n, k, q, s, st, kp, ln, tp, ft, tn, la, sz, ce, hv, hx, hm⟩ := h
  have hn := hv.1.1
  have hL := hx.2.1
  unfold f_X6_first f_X7_first
  rcases zn_rng x (m := n) (by omega) with ⟨p, hp, rfl⟩ | ho
  · rw [x_one_in hL.1 hn hp, m_one_in hm.1.1 hn hp]
    obtain ⟨σ1, σ2, g1, g2, hT⟩ := z_start hv hx hm
    rw [z_be, z_be]
    dsimp only
    rw [z_f1, z_f1, g1, g2, z_be, z_be, show (0 : Int32) = nI 0 from rfl]
    exact z_first hv 20 0 200 200 σ1 σ2 (by omega) (by omega) (by omega) hT
  · rw [x_one_out hL.1 ho, m_one_out hm.1.1 hn ho]
    exact z_Sim.same h0 rfl rfl
theorem w_tf (s : z_Sy) (a : Nat → Nat) : ∀ j, (w_tm s a j = 0 ↔ w_fc s a j = 0)
  | 0 => Iff.rfl
  | j + 1 => by
    have ih := w_tf s a j
    rw [w_tm, w_fc]
    by_cases h : w_bz s (w_asks s a j) j = true
    · rw [if_pos h, if_pos h]
      constructor
      · intro e; omega
      · intro e
        have h2 : (2 ^ s 3 j).testBit (s 3 j) = true := Nat.testBit_two_pow_self
        have h3 : (w_fc s a j ||| 2 ^ s 3 j).testBit (s 3 j) = true := by rw [Nat.testBit_or, h2, Bool.or_true]
        rw [e, Nat.zero_testBit] at h3
        cases h3
    · rw [if_neg h, if_neg h]; omega
theorem w_fc_lt {a : Nat → Nat} (wS : w_S n k q s) : ∀ {j : Nat}, j ≤ q → w_fc s a j < 2 ^ 4
  | 0, _ => by show 0 < 2 ^ 4; decide
  | j + 1, h => by
    have ih := w_fc_lt (a := a) wS (j := j) (by omega)
    have t := wS.2.2.2.2 j (by omega)
    have hn := wS.1
    rw [w_fc]
    split
    · exact Nat.or_lt_two_pow ih (Nat.pow_lt_pow_right (by omega) (by omega))
    · exact ih
theorem z_modest (hv : v_I n k q s st kp ln tp la sz) : ∀ (m t F F' c : Nat) (σX σM : z_St), 10 = t + m → m < F → m < F' → z_Tr σX σM n k q s st kp ln tp ft tn la sz ce (w_ws s n k q st t) → z_Sim (f_X6_modest_15 F (nI c) (nI t) σX) (f_X7_modest_8 F' (nI c) (nI t) σM) := by
  have wS := hv.1
  have hG := hv.2.1
  have h99 := hG.2.1
  have hq := hv.1.2.2.1
  intro m
  induction m with
  | zero =>
    intro t F F' c σX σM hm hF hF' hT
    obtain ⟨F, rfl⟩ : ∃ G, F = G + 1 := ⟨F - 1, by omega⟩
    obtain ⟨F', rfl⟩ : ∃ G, F' = G + 1 := ⟨F' - 1, by omega⟩
    rw [f_X6_modest_15, f_X7_modest_8, if_pos (by simp (disch := omega) only [zn_lit, zn_le]; omega), if_pos (by simp (disch := omega) only [zn_lit, zn_le]; omega)]
    exact z_Sim.same (z_Tr.rel hv hT) rfl rfl
  | succ m ih =>
    intro t F F' c σX σM hm hF hF' hT
    obtain ⟨F, rfl⟩ : ∃ G, F = G + 1 := ⟨F - 1, by omega⟩
    obtain ⟨F', rfl⟩ : ∃ G, F' = G + 1 := ⟨F' - 1, by omega⟩
    obtain ⟨σ1, σ2, g1, g2, hT2, g4, g5⟩ := z_week hv hT (w_R_ws wS hG.1 t (by omega)) (by omega)
    have l1 : w_wt s k q (w_ws s n k q st t) ≤ 6 := w_wt_le hq
    have l2 : w_wf s k q (w_ws s n k q st t) < 2 ^ 4 := w_fc_lt wS (Nat.le_refl q)
    have tf : w_wt s k q (w_ws s n k q st t) = 0 ↔ w_wf s k q (w_ws s n k q st t) = 0 := w_tf s _ q
    rw [f_X6_modest_15, f_X7_modest_8, if_neg (by simp (disch := omega) only [zn_lit, zn_le]; omega), if_neg (by simp (disch := omega) only [zn_lit, zn_le]; omega), g1, g2]
    simp only [z_bind_eq, g5]
    rw [show f_X7_flag 1 σ2 = some (1, σ2) from rfl, show f_X7_flag 0 σ2 = some (0, σ2) from rfl]
    simp (disch := omega) only [z_bind_eq, zn_lit, zn_eq, zn_add]
    by_cases hc : w_wt s k q (w_ws s n k q st t) = 0
    · rw [if_pos hc, if_pos (tf.mp hc)]
      exact ih (t + 1) F F' (c + 1) σ1 σ2 (by omega) (by omega) (by omega) hT2
    · rw [if_neg hc, if_neg (fun e => hc (tf.mpr e))]
      exact ih (t + 1) F F' c σ1 σ2 (by omega) (by omega) (by omega) hT2
theorem sim_modest (h : z_Rel σX σM) : z_Sim (f_X6_modest σX) (f_X7_modest σM) := by
  obtain ⟨n, k, q, s, st, kp, ln, tp, ft, tn, la, sz, ce, hv, hx, hm⟩ := h
  unfold f_X6_modest f_X7_modest
  obtain ⟨σ1, σ2, g1, g2, hT⟩ := z_start hv hx hm
  rw [g1, g2, z_be, z_be, show (0 : Int32) = nI 0 from rfl]
  exact z_modest hv 10 0 200 200 0 σ1 σ2 (by omega) (by omega) (by omega) hT
end SD
