/-! ===== call by call: what is changed ===== -/
section SB
variable {σX σM σ σ' : z_St} {n k q : Nat} {s : z_Sy} {st st' kp : Nat → Nat} {ln ln' : Nat} {tp tp' : Nat → Nat} {ft ft' tn : Int32} {la : Nat → Int32} {sz : Nat → Nat} {ce : Nat → Nat → Int32} {a a' : Nat → Nat}
theorem z_nu_comm {i j v w : Nat} (h : i ≠ j) : z_nu (z_nu a i v) j w = z_nu (z_nu a j w) i v := by
  funext x
  by_cases h1 : x = j
  · subst h1; rw [z_nu_eq, z_nu_ne (by omega), z_nu_eq]
  · rw [z_nu_ne h1]
    by_cases h2 : x = i
    · subst h2; rw [z_nu_eq, z_nu_eq]
    · rw [z_nu_ne h2, z_nu_ne h2, z_nu_ne h1]
theorem w_N.cong (h : w_N n a) (he : ∀ j, 26 ≤ j → a' j = a j) : w_N n a' := by
  refine ⟨by rw [he 26 (by omega)]; exact h.1, fun j hj => ?_⟩
  rw [he 26 (by omega)] at hj
  rw [he _ (by omega), he _ (by omega), he _ (by omega)]
  exact h.2 j hj
theorem w_G.core (h : w_G n k a) (hR : w_R n k (6 * a' 25) a') (h25 : a' 25 ≤ 99) (h22 : a' 22 < 2 ^ k) (he : ∀ j, 26 ≤ j → a' j = a j) : w_G n k a' := ⟨hR, h25, h22, h.2.2.2.cong he⟩
theorem v_I.core (h : v_I n k q s st kp ln tp la sz) (hG : w_G n k st') (he : ∀ j, 45 ≤ j → st' j = st j) : v_I n k q s st' kp ln tp la sz := by
  obtain ⟨h1, h2, h3, h4⟩ := h
  have eim : ∀ i, w_im st' i = w_im st i := fun i => by funext j; exact he _ (by omega)
  exact ⟨h1, hG, fun i hi => by rw [eim]; exact h3 i hi, h4⟩
theorem x_I.scr (h : x_I σ n k q s st kp ln tp ft tn la sz ce) (hF : ∀ c, c ≠ 27 → c ≠ 28 → σ' c = σ c) (h2 : σ' 27 2 = nI ln') (h28 : ∀ j, j < ln' → σ' 28 j = nI (tp' j)) (h3 : σ' 27 3 = ft') : x_I σ' n k q s st kp ln' tp' ft' tn la sz ce := by
  obtain ⟨g1, g2, g3, g4, g5, g7, g8, g9⟩ := h
  refine ⟨?_, g2.cp (hF _ (by omega) (by omega)) (hF _ (by omega) (by omega)) (hF _ (by omega) (by omega)) (hF _ (by omega) (by omega)) (hF _ (by omega) (by omega)) (hF _ (by omega) (by omega)), g3.fr (hF _ (by omega) (by omega)) (hF _ (by omega) (by omega)) (hF _ (by omega) (by omega)) (hF _ (by omega) (by omega)), fun i hi => ?_, ⟨h2, h28, h3⟩, ?_, ?_, fun j hj => ?_⟩
  · unfold x_S
    rw [hF 4 (by omega) (by omega), hF (4 + 1) (by omega) (by omega), hF (4 + 2) (by omega) (by omega), hF (4 + 3) (by omega) (by omega), hF (4 + 4) (by omega) (by omega), hF (4 + 5) (by omega) (by omega), hF (4 + 6) (by omega) (by omega)]
    exact g1
  · rw [hF _ (by omega) (by omega)]
    obtain ⟨f1, f2⟩ := g4 i hi
    refine ⟨f1, fun e => ⟨(f2 e).1.cp (hF _ (by omega) (by omega)) (hF _ (by omega) (by omega)) (hF _ (by omega) (by omega)) (hF _ (by omega) (by omega)) (hF _ (by omega) (by omega)) (hF _ (by omega) (by omega)), (f2 e).2.fr (hF _ (by omega) (by omega)) (hF _ (by omega) (by omega)) (hF _ (by omega) (by omega)) (hF _ (by omega) (by omega))⟩⟩
  · rw [hF 40 (by omega) (by omega), hF 41 (by omega) (by omega), hF 37 (by omega) (by omega)]; exact g7
  · rw [hF 0 (by omega) (by omega)]; exact g8
  · rw [hF _ (by omega) (by omega), hF (65 + 2 * j + 1) (by omega) (by omega)]; exact g9 j hj
theorem m_I.scr (h : m_I σ n k q s st kp ln tp ft tn la sz ce) (hF : ∀ c, c ≠ 0 → c ≠ 17 → σ' c = σ c) (h3 : σ' 0 3 = σ 0 3) (h4 : σ' 0 4 = σ 0 4) (h5 : σ' 0 5 = σ 0 5) (h37 : σ' 0 37 = σ 0 37) (h25 : σ' 0 25 = nI ln') (h17 : ∀ j, j < ln' → σ' 17 j = nI (tp' j)) (h30 : σ' 0 30 = ft') : m_I σ' n k q s st kp ln' tp' ft' tn la sz ce := by
  obtain ⟨g1, g2, g3, g4, g5, g6⟩ := h
  refine ⟨?_, ?_, ?_, ⟨h25, h17, h30⟩, ?_, ?_⟩
  · unfold m_S
    rw [h3, h4, h5, hF 4 (by omega) (by omega), hF 5 (by omega) (by omega), hF 6 (by omega) (by omega), hF 7 (by omega) (by omega), hF 8 (by omega) (by omega), hF 9 (by omega) (by omega)]
    exact g1
  · rw [hF 1 (by omega) (by omega)]; exact g2
  · rw [hF 3 (by omega) (by omega)]; exact g3
  · rw [h37]; exact g5
  · rw [hF 19 (by omega) (by omega), hF 20 (by omega) (by omega), hF 21 (by omega) (by omega)]; exact g6
theorem sim_feed (h : z_Rel σX σM) (x : Int32) : z_Sim (f_X6_feed x σX) (f_X7_feed x σM) := by
  have h0 := h
  obtain ⟨n, k, q, s, st, kp, ln, tp, ft, tn, la, sz, ce, hv, hx, hm⟩ := h
  have hln := hv.2.2.2.1
  obtain ⟨x2, x28, x3⟩ := hx.2.2.2.2.1
  obtain ⟨m25, m17, m30⟩ := hm.2.2.2.1
  unfold f_X6_feed f_X7_feed
  rcases zn_rng x (m := 128) (by omega) with ⟨j, hj, rfl⟩ | ho
  · rw [show f_X6_isWithin (nI j) 127 σX = _ from x_with_in (j := j) (m := 127) (by omega) (by omega), m_lit_in (m := 127) (by omega) (by omega) (by decide)]
    simp only [z_bind_eq, z_t1, if_false]
    unfold f_X3_append
    rw [x2, m25]
    by_cases hf : ln < 160
    · simp (disch := omega) only [zn_lit, zn_lt, zn_eq, z_gd_nI, zn_cl, z_bst_eq, z_put_eq, z_put_ne, z_upd_eq, x2, m25, zn_add]
      rw [if_pos hf, if_neg (by omega)]
      simp only [z_bind_eq]
      have eb : vp_nar .byte (nI j).toInt8.toInt32 = nI j := by
        rw [pk_vb, fa_byte_small (by omega)]
      rw [eb]
      refine ⟨_, _, _, rfl, rfl, n, k, q, s, st, kp, ln + 1, z_nu tp ln j, ft, tn, la, sz, ce, ?_, ?_, ?_⟩
      · obtain ⟨v1, v2, v3, v4, v5, v6⟩ := hv
        refine ⟨v1, v2, v3, by omega, fun i hi => ?_, v6⟩
        by_cases e : i = ln
        · subst e; rw [z_nu_eq]; omega
        · rw [z_nu_ne e]; exact v5 i (by omega)
      · refine hx.scr (fun c h1 h2 => by rw [z_put_ne h1, z_put_ne h2]) (by rw [z_put_eq, z_upd_eq]) (fun i hi => ?_) (by rw [z_put_eq, z_upd_ne (by omega), z_put_ne (by omega)]; exact x3)
        rw [z_put_ne (by omega), z_put_eq]
        by_cases e : i = ln
        · subst e; rw [z_upd_eq, z_nu_eq]
        · rw [z_upd_ne e, z_nu_ne e]; exact x28 i (by omega)
      · refine hm.scr (fun c h1 h2 => by rw [z_put_ne h1, z_put_ne h2]) (by rw [z_put_eq, z_upd_ne (by omega), z_put_ne (by omega)]) (by rw [z_put_eq, z_upd_ne (by omega), z_put_ne (by omega)]) (by rw [z_put_eq, z_upd_ne (by omega), z_put_ne (by omega)]) (by rw [z_put_eq, z_upd_ne (by omega), z_put_ne (by omega)]) (by rw [z_put_eq, z_upd_eq]) (fun i hi => ?_) (by rw [z_put_eq, z_upd_ne (by omega), z_put_ne (by omega)]; exact m30)
        rw [z_put_ne (by omega), z_put_eq]
        by_cases e : i = ln
        · subst e; rw [z_upd_eq, z_nu_eq]
        · rw [z_upd_ne e, z_nu_ne e]; exact m17 i (by omega)
    · have e : ln = 160 := by omega
      subst e
      exact z_Sim.same h0 rfl rfl
  · rw [show f_X6_isWithin x 127 σX = _ from x_with_out (m := 127) (by omega) ho, m_lit_out (m := 127) (by omega) (by decide) ho]
    exact z_Sim.same h0 rfl rfl
theorem sim_end (h : z_Rel σX σM) (x : Int32) : z_Sim (f_X6_end x σX) (f_X7_end x σM) := by
  have h0 := h
  obtain ⟨n, k, q, s, st, kp, ln, tp, ft, tn, la, sz, ce, hv, hx, hm⟩ := h
  have hln := hv.2.2.2.1
  obtain ⟨x2, x28, x3⟩ := hx.2.2.2.2.1
  obtain ⟨m25, m17, m30⟩ := hm.2.2.2.1
  unfold f_X6_end f_X7_end
  rw [x2, m25]
  have e25 : ((nI ln).toInt64).toInt = ln := by rw [Int32.toInt_toInt64, nI_toInt (by omega)]
  rcases zn_rng x (m := ln + 1) (by omega) with ⟨j, hj, rfl⟩ | ho
  · rw [x_with_in (by omega) (by omega), m_lit_in (m := ln) (by omega) (by omega) e25]
    simp only [z_bind_eq, z_t1, if_false, z_bst_eq, x2, m25]
    refine ⟨_, _, _, rfl, rfl, n, k, q, s, st, kp, j, tp, ft, tn, la, sz, ce, ?_, ?_, ?_⟩
    · obtain ⟨v1, v2, v3, v4, v5, v6⟩ := hv
      exact ⟨v1, v2, v3, by omega, fun i hi => v5 i (by omega), v6⟩
    · exact hx.scr (fun c h1 h2 => by rw [z_put_ne h1]) (by rw [z_put_eq, z_upd_eq]) (fun i hi => by rw [z_put_ne (by omega)]; exact x28 i (by omega)) (by rw [z_put_eq, z_upd_ne (by omega)]; exact x3)
    · exact hm.scr (fun c h1 h2 => by rw [z_put_ne h1]) (by rw [z_put_eq, z_upd_ne (by omega)]) (by rw [z_put_eq, z_upd_ne (by omega)]) (by rw [z_put_eq, z_upd_ne (by omega)]) (by rw [z_put_eq, z_upd_ne (by omega)]) (by rw [z_put_eq, z_upd_eq]) (fun i hi => by rw [z_put_ne (by omega)]; exact m17 i (by omega)) (by rw [z_put_eq, z_upd_ne (by omega)]; exact m30)
  · rw [x_with_out (m := ln) (by omega) ho, m_lit_out (m := ln) (by omega) e25 ho]
    exact z_Sim.same h0 rfl rfl
theorem sim_teach (h : z_Rel σX σM) (x y : Int32) : z_Sim (f_X6_teach x y σX) (f_X7_teach x y σM) := by
  have h0 := h
  obtain ⟨n, k, q, s, st, kp, ln, tp, ft, tn, la, sz, ce, hv, hx, hm⟩ := h
  have hn := hv.1.1
  have hk := hv.1.2.1
  have hL := hx.2.1
  have hst := hm.2.1
  have hG := hv.2.1
  unfold f_X6_teach f_X7_teach
  rcases zn_rng x (m := n) (by omega) with ⟨p, hp, rfl⟩ | ho
  · rw [x_one_in hL.1 hn hp, m_one_in hm.1.1 hn hp]
    simp only [z_bind_eq, z_t1, if_false]
    rcases zn_rng y (m := 4) (by omega) with ⟨w, hw, rfl⟩ | hy
    · rw [show f_X6_isWithin (nI w) 3 σX = _ from x_with_in (m := 3) (by omega) (by omega), m_lit_in (m := 3) (by omega) (by omega) (by decide)]
      unfold f_X7_becomes
      obtain ⟨e1, -, -, -⟩ := hL.2.1 p hp
      simp only [z_bind_eq, z_t1, if_false]
      simp (disch := omega) only [zn_lit, zn_mul, zn_add, z_gd_nI, zn_cl, z_bst_eq, z_bi_eq, e1, hst, z_bind_eq]
      refine ⟨_, _, _, rfl, rfl, n, k, q, s, z_nu st (4 * p) w, kp, ln, tp, ft, tn, la, sz, ce, ?_, ?_, ?_⟩
      · have e25 : z_nu st (4 * p) w 25 = st 25 := z_nu_ne (by omega)
        have e22 : z_nu st (4 * p) w 22 = st 22 := z_nu_ne (by omega)
        refine hv.core (hG.core ?_ (by rw [e25]; exact hG.2.1) (by rw [e22]; exact hG.2.2.1) (fun j hj => z_nu_ne (by omega))) (fun j hj => z_nu_ne (by omega))
        rw [e25]
        exact hG.1.kind hn hp (by omega)
      · exact hx.led (fun c _ h2 => by rw [z_put_ne (by omega)]) (hL.kind hn hp) (fun j hj => z_nu_ne (by omega)) hG.2.2.2.1
      · exact hm.stp _ _
    · rw [show f_X6_isWithin y 3 σX = _ from x_with_out (m := 3) (by omega) hy, m_lit_out (m := 3) (by omega) (by decide) hy]
      exact z_Sim.same h0 rfl rfl
  · rw [x_one_out hL.1 ho, m_one_out hm.1.1 hn ho]
    exact z_Sim.same h0 rfl rfl
theorem sim_law (h : z_Rel σX σM) (x y : Int32) : z_Sim (f_X6_law x y σX) (f_X7_law x y σM) := by
  have h0 := h
  obtain ⟨n, k, q, s, st, kp, ln, tp, ft, tn, la, sz, ce, hv, hx, hm⟩ := h
  have hn := hv.1.1
  have hk := hv.1.2.1
  have hL := hx.2.1
  have hst := hm.2.1
  have hG := hv.2.1
  have put : ∀ (j w : Nat), 7 ≤ j → j ≤ 8 → (j = 7 → w ≤ 9) → (j = 8 → w ≤ 99) → z_Rel (z_put σX 11 j (nI w)) (z_put σM 1 (16 + j) (nI w)) := by
    intro j w h1 h2 h3 h4
    refine ⟨n, k, q, s, z_nu st (16 + j) w, kp, ln, tp, ft, tn, la, sz, ce, ?_, ?_, ?_⟩
    · have e25 : z_nu st (16 + j) w 25 = st 25 := z_nu_ne (by omega)
      have e22 : z_nu st (16 + j) w 22 = st 22 := z_nu_ne (by omega)
      refine hv.core (hG.core ?_ (by rw [e25]; exact hG.2.1) (by rw [e22]; exact hG.2.2.1) (fun i hi => z_nu_ne (by omega))) (fun i hi => z_nu_ne (by omega))
      rw [e25]
      exact hG.1.fld hn hk (by omega) (by omega) (by omega) (by omega) (by omega)
    · exact hx.led (fun c _ h2 => by rw [z_put_ne (by omega)]) (hL.fld hn hk (by omega) (by omega)) (fun i hi => z_nu_ne (by omega)) hG.2.2.2.1
    · exact hm.stp _ _
  unfold f_X6_law f_X7_law
  rcases zn_rng x (m := 2) (by omega) with ⟨w, hw, rfl⟩ | ho
  · rw [m_part_in (by omega)]
    simp only [z_bind_eq, z_t1, if_false]
    unfold f_X6_law_31 f_X7_law_23
    rcases (show w = 0 ∨ w = 1 by omega) with rfl | rfl
    · rw [if_pos (show nI 0 = (0 : Int32) from rfl), if_pos (show nI 0 = (0 : Int32) from rfl)]
      rcases zn_rng y (m := 10) (by omega) with ⟨v, hvv, rfl⟩ | hy
      · rw [show f_X6_isWithin (nI v) 9 σX = _ from x_with_in (m := 9) (by omega) (by omega), m_lit_in (m := 9) (by omega) (by omega) (by decide)]
        simp only [z_bind_eq, z_t1, if_false]
        unfold f_X7_becomes
        rw [if_pos (show nI 0 = (0 : Int32) from rfl)]
        simp (disch := omega) only [zn_lit, z_gd_nI, zn_cl, z_bst_eq, hst, z_bind_eq, hL.2.2.2.2.1]
        exact ⟨_, _, _, rfl, rfl, put 7 v (by omega) (by omega) (by omega) (by omega)⟩
      · rw [show f_X6_isWithin y 9 σX = _ from x_with_out (m := 9) (by omega) hy, m_lit_out (m := 9) (by omega) (by decide) hy]
        exact z_Sim.same h0 rfl rfl
    · rw [if_neg (by decide : ¬ nI 1 = 0), if_neg (by decide : ¬ nI 1 = 0), if_pos (show nI 1 = (1 : Int32) from rfl)]
      rcases zn_rng y (m := 100) (by omega) with ⟨v, hvv, rfl⟩ | hy
      · rw [show f_X6_isWithin (nI v) 99 σX = _ from x_with_in (m := 99) (by omega) (by omega), m_lit_in (m := 99) (by omega) (by omega) (by decide)]
        simp only [z_bind_eq, z_t1, if_false]
        unfold f_X7_becomes
        rw [if_neg (by decide : ¬ nI 1 = 0)]
        simp (disch := omega) only [zn_lit, z_gd_nI, zn_cl, z_bst_eq, hst, z_bind_eq, hL.2.2.2.2.2.1]
        exact ⟨_, _, _, rfl, rfl, put 8 v (by omega) (by omega) (by omega) (by omega)⟩
      · rw [show f_X6_isWithin y 99 σX = _ from x_with_out (m := 99) (by omega) hy, m_lit_out (m := 99) (by omega) (by decide) hy]
        exact z_Sim.same h0 rfl rfl
  · rw [m_part_out ho]
    simp only [z_bind_eq]
    rw [if_neg (show ¬ x = (0 : Int32) from zn_ne (j := 0) (by omega) ho (by omega))]
    unfold f_X6_law_31
    rw [if_neg (show ¬ x = (1 : Int32) from zn_ne (j := 1) (by omega) ho (by omega))]
    exact z_Sim.same h0 rfl rfl
theorem sim_give (h : z_Rel σX σM) (x y z : Int32) : z_Sim (f_X6_give x y z σX) (f_X7_give x y z σM) := by
  have h0 := h
  obtain ⟨n, k, q, s, st, kp, ln, tp, ft, tn, la, sz, ce, hv, hx, hm⟩ := h
  have hn := hv.1.1
  have hk := hv.1.2.1
  have hL := hx.2.1
  have hst := hm.2.1
  have hG := hv.2.1
  unfold f_X6_give f_X7_give
  rcases zn_rng x (m := n) (by omega) with ⟨p, hp, rfl⟩ | ho
  · rw [x_one_in hL.1 hn hp, m_one_in hm.1.1 hn hp]
    simp only [z_bind_eq, z_t1, if_false]
    rcases zn_rng y (m := n) (by omega) with ⟨r, hr, rfl⟩ | ho
    · rw [x_one_in hL.1 hn hr, m_one_in hm.1.1 hn hr]
      simp only [z_bind_eq, z_t1, if_false]
      refine z_Sim.ite (fun _ => z_Sim.same h0 rfl rfl) (fun hpr => ?_)
      have hpr : p ≠ r := fun e => hpr (by rw [e])
      rcases zn_rng z (m := 100) (by omega) with ⟨v, hvv, rfl⟩ | ho
      · rw [show f_X6_isWithin (nI v) 99 σX = _ from x_with_in (m := 99) (by omega) (by omega), m_lit_in (m := 99) (by omega) (by omega) (by decide)]
        simp only [z_bind_eq, z_t1, if_false]
        obtain ⟨-, e1, -, -⟩ := hL.2.1 p hp
        obtain ⟨-, e2, -, -⟩ := hL.2.1 r hr
        obtain ⟨-, r1, -, -⟩ := hG.1.1 p hp
        obtain ⟨-, r2, -, -⟩ := hG.1.1 r hr
        by_cases c1 : v ≤ st (4 * p + 1)
        · by_cases c2 : st (4 * r + 1) + v ≤ 999
          · simp (disch := omega) only [zn_lit, zn_mul, zn_add, z_gd_nI, zn_cl, z_bst_eq, e1, e2, hst, zn_le, zn_sub, z_put_eq, z_upd_ne, z_upd_eq]
            rw [if_pos c1, if_pos c1, if_pos c2, if_pos c2]
            refine ⟨_, _, _, rfl, rfl, n, k, q, s, z_nu (z_nu st (4 * p + 1) (st (4 * p + 1) - v)) (4 * r + 1) (st (4 * r + 1) + v), kp, ln, tp, ft, tn, la, sz, ce, ?_, ?_, ?_⟩
            · have e25 : z_nu (z_nu st (4 * p + 1) (st (4 * p + 1) - v)) (4 * r + 1) (st (4 * r + 1) + v) 25 = st 25 := by rw [z_nu_ne (by omega), z_nu_ne (by omega)]
              have e22 : z_nu (z_nu st (4 * p + 1) (st (4 * p + 1) - v)) (4 * r + 1) (st (4 * r + 1) + v) 22 = st 22 := by rw [z_nu_ne (by omega), z_nu_ne (by omega)]
              refine hv.core (hG.core ?_ (by rw [e25]; exact hG.2.1) (by rw [e22]; exact hG.2.2.1) (fun j hj => by rw [z_nu_ne (by omega), z_nu_ne (by omega)])) (fun j hj => by rw [z_nu_ne (by omega), z_nu_ne (by omega)])
              rw [e25]
              exact (hG.1.hand hn hp (by omega)).hand hn hr (by omega)
            · exact hx.led (fun c _ h2 => by rw [z_put_ne (by omega), z_put_ne (by omega)]) ((hL.hand hn hp).hand hn hr) (fun j hj => by rw [z_nu_ne (by omega), z_nu_ne (by omega)]) hG.2.2.2.1
            · exact (hm.stp _ _).stp _ _
          · simp (disch := omega) only [zn_lit, zn_mul, zn_add, z_gd_nI, zn_cl, e1, e2, hst, zn_le]
            rw [if_pos c1, if_pos c1, if_neg c2, if_neg c2]
            exact z_Sim.same h0 rfl rfl
        · simp (disch := omega) only [zn_lit, zn_mul, zn_add, z_gd_nI, zn_cl, e1, hst, zn_le]
          rw [if_neg c1, if_neg c1]
          exact z_Sim.same h0 rfl rfl
      · rw [show f_X6_isWithin z 99 σX = _ from x_with_out (m := 99) (by omega) ho, m_lit_out (m := 99) (by omega) (by decide) ho]
        exact z_Sim.same h0 rfl rfl
    · rw [x_one_out hL.1 ho, m_one_out hm.1.1 hn ho]
      exact z_Sim.same h0 rfl rfl
  · rw [x_one_out hL.1 ho, m_one_out hm.1.1 hn ho]
    exact z_Sim.same h0 rfl rfl
end SB
