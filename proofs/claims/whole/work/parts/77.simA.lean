/-! ===== call by call, the class and the reference answer alike: what is asked ===== -/
section SA
variable {σX σM : z_St}
theorem z_Sim.same {TX TM : Option (Int32 × z_St)} {r : Int32} (h : z_Rel σX σM) (e1 : TX = some (r, σX)) (e2 : TM = some (r, σM)) : z_Sim TX TM := ⟨r, σX, σM, e1, e2, h⟩
theorem z_Sim.ite {c : Prop} {hc hc' : Decidable c} {A B A' B' : Option (Int32 × z_St)} (h1 : c → z_Sim A A') (h2 : ¬ c → z_Sim B B') : z_Sim (@ite _ c hc A B) (@ite _ c hc' A' B') := by
  by_cases h : c
  · rw [if_pos h, if_pos h]; exact h1 h
  · rw [if_neg h, if_neg h]; exact h2 h
theorem z_b1 {σ : z_St} {A B : Int32 × z_St → Option (Int32 × z_St)} : ((some ((1 : Int32), σ)).bind fun r => if r.1 = (0 : Int32) then A r else B r) = B (1, σ) := rfl
theorem z_b0 {σ : z_St} {A B : Int32 × z_St → Option (Int32 × z_St)} : ((some ((0 : Int32), σ)).bind fun r => if r.1 = (0 : Int32) then A r else B r) = A (0, σ) := rfl
theorem z_t1 : ((1 : Int32) = 0) = False := eq_false (by decide)
theorem zn_ne {x : Int32} {m j : Nat} (hm : m < 2147483648) (h : x < 0 ∨ nI m ≤ x) (hj : j < m) : ¬ x = nI j := fun e => by
  have h' := zn_out hm h
  rw [e, nI_toInt (by omega)] at h'
  omega
theorem sim_fault (h : z_Rel σX σM) : z_Sim (f_X6_fault σX) (f_X7_fault σM) := by
  have h0 := h
  obtain ⟨n, k, q, s, st, kp, ln, tp, ft, tn, la, sz, ce, hv, hx, hm⟩ := h
  exact z_Sim.same (r := ft) h0 (by unfold f_X6_fault; rw [hx.2.2.2.2.1.2.2]) (by unfold f_X7_fault; rw [hm.2.2.2.1.2.2])
theorem sim_torn (h : z_Rel σX σM) : z_Sim (f_X6_torn σX) (f_X7_torn σM) := by
  have h0 := h
  obtain ⟨n, k, q, s, st, kp, ln, tp, ft, tn, la, sz, ce, hv, hx, hm⟩ := h
  exact z_Sim.same (r := tn) h0 (by unfold f_X6_torn; rw [hx.2.2.2.2.2.2.1]) (by unfold f_X7_torn; rw [hm.2.2.2.2.1])
theorem sim_rule (h : z_Rel σX σM) (x : Int32) : z_Sim (f_X6_rule x σX) (f_X7_rule x σM) := by
  have h0 := h
  obtain ⟨n, k, q, s, st, kp, ln, tp, ft, tn, la, sz, ce, hv, hx, hm⟩ := h
  have hL := hx.2.1
  have hst := hm.2.1
  unfold f_X6_rule f_X7_rule
  refine z_Sim.ite (fun _ => z_Sim.same h0 (by rw [hL.1]) (by rw [hm.1.1])) (fun _ => ?_)
  refine z_Sim.ite (fun _ => z_Sim.same h0 (by rw [hx.1.1]) (by rw [hm.1.2.1])) (fun _ => ?_)
  refine z_Sim.ite (fun _ => z_Sim.same h0 (by rw [hx.1.2.1]) (by rw [hm.1.2.2.1])) (fun _ => ?_)
  refine z_Sim.ite (fun _ => z_Sim.same h0 (by rw [hL.2.2.2.2.1]) (by rw [hst 23 (by omega)])) (fun _ => ?_)
  refine z_Sim.ite (fun _ => z_Sim.same h0 (by rw [hL.2.2.2.2.2.1]) (by rw [hst 24 (by omega)])) (fun _ => ?_)
  refine z_Sim.ite (fun _ => z_Sim.same h0 (by rw [hL.2.2.2.2.2.2]) (by rw [hst 25 (by omega)])) (fun _ => ?_)
  refine z_Sim.ite (fun _ => z_Sim.same h0 (by rw [hL.2.2.2.1]) (by rw [hst 22 (by omega)])) (fun _ => ?_)
  exact z_Sim.same h0 rfl rfl
theorem sim_one (h : z_Rel σX σM) (x y : Int32) : z_Sim (f_X6_one x y σX) (f_X7_one x y σM) := by
  have h0 := h
  obtain ⟨n, k, q, s, st, kp, ln, tp, ft, tn, la, sz, ce, hv, hx, hm⟩ := h
  have hn := hv.1.1
  have hL := hx.2.1
  have hst := hm.2.1
  unfold f_X6_one f_X7_one
  rcases zn_rng x (m := n) (by omega) with ⟨p, hp, rfl⟩ | ho
  · rw [x_one_in hL.1 hn hp, m_one_in hm.1.1 hn hp, z_bind_eq, z_bind_eq]
    obtain ⟨e1, e2, e3, e4⟩ := hL.2.1 p hp
    rcases zn_rng y (m := 4) (by omega) with ⟨w, hw, rfl⟩ | hy
    · rw [m_lit_in (m := 3) (by omega) (by omega) (by decide), z_bind_eq]
      simp (disch := omega) only [zn_lit, zn_mul, zn_add, zn_eq, z_gd_nI, zn_cl, hst, e1, e2, e3, e4]
      rcases (show w = 0 ∨ w = 1 ∨ w = 2 ∨ w = 3 by omega) with rfl | rfl | rfl | rfl
      · exact z_Sim.same h0 rfl rfl
      · exact z_Sim.same h0 rfl rfl
      · exact z_Sim.same h0 rfl rfl
      · exact z_Sim.same h0 rfl rfl
    · rw [m_lit_out (m := 3) (by omega) (by decide) hy, z_bind_eq]
      simp only [zn_lit]
      rw [if_neg (zn_ne (by omega) hy (by omega) : ¬ y = nI 0), if_neg (zn_ne (by omega) hy (by omega) : ¬ y = nI 1), if_neg (zn_ne (by omega) hy (by omega) : ¬ y = nI 2), if_neg (zn_ne (by omega) hy (by omega) : ¬ y = nI 3)]
      exact z_Sim.same h0 rfl rfl
  · rw [x_one_out hL.1 ho, m_one_out hm.1.1 hn ho, z_bind_eq, z_bind_eq]
    exact z_Sim.same h0 rfl rfl
theorem sim_trip (h : z_Rel σX σM) (x y : Int32) : z_Sim (f_X6_trip x y σX) (f_X7_trip x y σM) := by
  obtain ⟨n, k, q, s, st, kp, ln, tp, ft, tn, la, sz, ce, hv, hx, hm⟩ := h
  have wS := hv.1
  have hn := hv.1.1
  have hk := hv.1.2.1
  have wR := hv.2.1.1
  have hL := hx.2.1
  have hst := hm.2.1
  unfold f_X6_trip f_X7_trip
  rcases zn_rng x (m := k) (by omega) with ⟨i, hi, rfl⟩ | ho
  · obtain ⟨σ1, g1, g2, g3, g4⟩ := m_starts (σ := σM) (a := st) (fun j hj => hst j (by omega))
    have h0 : z_Rel σX σ1 := ⟨n, k, q, s, st, kp, ln, tp, ft, tn, la, sz, ce, hv, hx, hm.at' g3⟩
    have hm1 := hm.at' g3
    rw [x_inc_in hx.1.1 hk hi, m_trip_in hm.1.2.1 hk hi]
    simp only [z_bind_eq, z_t1, if_false, g1]
    obtain ⟨e1, e2, e3⟩ := hx.1.2.2.1 i hi
    obtain ⟨f1, f2, f3⟩ := hm1.1.2.2.2.1 i hi
    have e5 := hL.2.2.1 i hi
    have f5 := hm1.2.1 (16 + i) (by omega)
    simp (disch := omega) only [z_gd_nI, zn_cl, e1, e2, e3, e5, f1, f2, f3]
    refine z_Sim.ite (fun _ => z_Sim.same h0 rfl rfl) (fun _ => ?_)
    refine z_Sim.ite (fun _ => z_Sim.same h0 rfl rfl) (fun _ => ?_)
    refine z_Sim.ite (fun _ => z_Sim.same h0 rfl rfl) (fun _ => ?_)
    refine z_Sim.ite (fun _ => z_Sim.same h0 rfl (by simp (disch := omega) only [zn_lit, zn_add, z_gd_nI, zn_cl, f5])) (fun _ => ?_)
    refine z_Sim.ite (fun _ => ?_) (fun _ => ?_)
    · rw [x_dep wR hL hk hi, z_bind_eq, hm1.2.1 22 (by omega), z_bit _ wR.2.2.1 i (by omega)]
      by_cases hd : st 22 / 2 ^ i % 2 = 1
      · rw [hd]; exact z_Sim.same (r := 1) h0 rfl rfl
      · rw [if_neg hd, show st 22 / 2 ^ i % 2 = 0 by omega]; exact z_Sim.same (r := 0) h0 rfl rfl
    · refine z_Sim.ite (fun _ => ?_) (fun _ => z_Sim.same h0 rfl rfl)
      rw [x_blush wS wR hx.1 hL hi, m_blush wS wR hm1.1 g2 hi, z_bind_eq, z_bind_eq]
      exact z_Sim.same h0 rfl rfl
  · have h0 : z_Rel σX σM := ⟨n, k, q, s, st, kp, ln, tp, ft, tn, la, sz, ce, hv, hx, hm⟩
    rw [x_inc_out hx.1.1 ho, m_trip_out hm.1.2.1 hk ho, z_bind_eq, z_bind_eq]
    exact z_Sim.same h0 rfl rfl
theorem sim_asked (h : z_Rel σX σM) (x y : Int32) : z_Sim (f_X6_asked x y σX) (f_X7_asked x y σM) := by
  have h0 := h
  obtain ⟨n, k, q, s, st, kp, ln, tp, ft, tn, la, sz, ce, hv, hx, hm⟩ := h
  have hq := hv.1.2.2.1
  unfold f_X6_asked f_X7_asked
  rw [hx.1.2.1, hm.1.2.2.1]
  rcases zn_rng x (m := q) (by omega) with ⟨j, hj, rfl⟩ | ho
  · obtain ⟨e1, e2, e3⟩ := hx.1.2.2.2 j hj
    obtain ⟨f1, f2, f3⟩ := hm.1.2.2.2.2 j hj
    have hin : f_X7_in (nI j).toInt64 (0 : Int64) (nI q - 1).toInt64 σM = some (1, σM) := by
      rw [m_in_in]
      · rw [nI_toInt (by omega)]; show (0 : Int) ≤ _; omega
      · rw [Int32.toInt_toInt64, show (1 : Int32) = nI 1 from rfl, zn_sub (by omega), nI_toInt (by omega), nI_toInt (by omega)]; omega
    rw [hin]
    simp only [z_b1]
    rw [if_neg (nI_pos (by omega) : ¬ nI j < 0), if_pos (nI_lt hj (by omega))]
    rcases zn_rng y (m := 3) (by omega) with ⟨w, hw, rfl⟩ | hy
    · rw [m_lit_in (m := 2) (by omega) (by omega) (by decide)]
      simp only [z_b1]
      simp (disch := omega) only [zn_lit, z_gd_nI, zn_cl, e1, e2, e3, f1, f2, f3, zn_eq]
      rcases (show w = 0 ∨ w = 1 ∨ w = 2 by omega) with rfl | rfl | rfl
      · exact z_Sim.same h0 rfl rfl
      · exact z_Sim.same h0 rfl rfl
      · exact z_Sim.same h0 rfl rfl
    · rw [m_lit_out (m := 2) (by omega) (by decide) hy]
      simp only [z_b0, zn_lit]
      rw [if_neg (zn_ne (by omega) hy (by omega) : ¬ y = nI 0), if_neg (zn_ne (by omega) hy (by omega) : ¬ y = nI 1), if_neg (zn_ne (by omega) hy (by omega) : ¬ y = nI 2)]
      exact z_Sim.same h0 rfl rfl
  · have hout : f_X7_in x.toInt64 (0 : Int64) (nI q - 1).toInt64 σM = some (0, σM) := by
      have h' := zn_out (by omega) ho
      rw [m_in_out]
      have e : (nI q - 1).toInt64.toInt = (q : Int) - 1 := by
        rw [Int32.toInt_toInt64]
        exact pk_sub_toInt (a := q) (b := 1) (by omega) (by omega)
      rw [e]
      rcases h' with h' | h'
      · exact Or.inl h'
      · right; omega
    rw [hout, z_bind_eq, if_pos rfl]
    by_cases hx0 : x < 0
    · rw [if_pos hx0]; exact z_Sim.same h0 rfl rfl
    · rw [if_neg hx0, if_neg]
      · exact z_Sim.same h0 rfl rfl
      · intro hl
        rcases ho with ho | ho
        · exact hx0 ho
        · have a1 := (fa_le _ _).mp ho; have a2 := (fa_lt _ _).mp hl; omega
theorem m_flag_nI {j : Nat} (h : j ≤ 1) : f_X7_flag (nI j) σM = some (nI j, σM) := by
  unfold f_X7_flag
  rcases (show j = 0 ∨ j = 1 by omega) with rfl | rfl <;> rfl
theorem sim_count (h : z_Rel σX σM) (x : Int32) : z_Sim (f_X6_count x σX) (f_X7_count x σM) := by
  obtain ⟨n, k, q, s, st, kp, ln, tp, ft, tn, la, sz, ce, hv, hx, hm⟩ := h
  have hn := hv.1.1
  have hL := hx.2.1
  have hst := hm.2.1
  obtain ⟨σ1, g1, g2, g3, g4⟩ := m_starts (σ := σM) (a := st) (fun j hj => hst j (by omega))
  have hm1 := hm.at' g3
  have h0 : z_Rel σX σ1 := ⟨n, k, q, s, st, kp, ln, tp, ft, tn, la, sz, ce, hv, hx, hm1⟩
  unfold f_X6_count f_X7_count
  simp only [g1, z_bind_eq]
  refine z_Sim.ite (fun _ => ?_) (fun _ => ?_)
  · rw [x_sumInHand hL hn, show f_X7_allOf 1 σ1 = _ from m_allOf (w := 1) g2 hm1.1.1 hn (by omega)]
    exact z_Sim.same h0 rfl rfl
  refine z_Sim.ite (fun _ => ?_) (fun _ => ?_)
  · rw [x_sumAtBank hL hn, show f_X7_allOf 2 σ1 = _ from m_allOf (w := 2) g2 hm1.1.1 hn (by omega)]
    exact z_Sim.same h0 rfl rfl
  refine z_Sim.ite (fun _ => z_Sim.same h0 (by rw [hx.2.2.1.1]) (by rw [hm1.2.1 26 (by omega)])) (fun _ => ?_)
  refine z_Sim.ite (fun _ => ?_) (fun _ => ?_)
  · have k0 := (hv.2.2.1 0 (by omega)).1
    have k1 := (hv.2.2.1 1 (by omega)).1
    have e0 : σX 43 0 = nI (kp 0) := (hx.2.2.2.1 0 (by omega)).1
    have e1 : σX 54 0 = nI (kp 1) := (hx.2.2.2.1 1 (by omega)).1
    rw [hm1.2.2.1 0 (by omega), m_flag_nI k0]
    simp only [z_bind_eq]
    rw [hm1.2.2.1 1 (by omega), m_flag_nI k1]
    simp only [z_bind_eq]
    unfold f_X6_count_81
    rw [e0, e1]
    rcases (show kp 0 = 0 ∨ kp 0 = 1 by omega) with a0 | a0 <;> rcases (show kp 1 = 0 ∨ kp 1 = 1 by omega) with a1 | a1 <;> rw [a0, a1] <;> exact z_Sim.same h0 rfl rfl
  refine z_Sim.ite (fun _ => z_Sim.same h0 (by rw [hx.2.2.2.2.1.1]) (by rw [hm1.2.2.2.1.1])) (fun _ => ?_)
  refine z_Sim.ite (fun _ => ?_) (fun _ => z_Sim.same h0 rfl rfl)
  obtain ⟨e0, e1, -⟩ := hx.2.2.2.2.2.2.2 0 (by omega)
  obtain ⟨f0, f1, -⟩ := hm1.2.2.2.2.2 0 (by omega)
  have e0 : σX 65 0 = (if la 0 = -4 then -1 else la 0) := e0
  have e1 : σX 65 1 = nI (sz 0) := e1
  rw [e0, e1, f0, f1]
  rcases (hv.2.2.2.2.2 0 (by omega)).1 with hl | hl | hl | hl <;> rw [hl] <;> exact z_Sim.same h0 rfl rfl
end SA
