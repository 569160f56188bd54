/-! ===== note, forget, keep, back, sheet, lay ===== -/
section SI
variable {σ σ' σX σM : z_St} {b n k q B : Nat} {s : z_Sy} {st st' kp kp' : Nat → Nat} {ln : Nat} {tp : Nat → Nat} {ft tn : Int32} {la la' : Nat → Int32} {sz sz' : Nat → Nat} {ce ce' : Nat → Nat → Int32} {a a' : Nat → Nat}
theorem w_N.cong' (h : w_N n a) (he : ∀ j, 26 ≤ j → j < 45 → a' j = a j) : w_N n a' := by
  obtain ⟨h1, h2⟩ := h
  have e := he 26 (by omega) (by omega)
  refine ⟨by omega, fun j hj => ?_⟩
  rw [he _ (by omega) (by omega), he _ (by omega) (by omega), he _ (by omega) (by omega)]
  exact h2 j (by omega)
theorem w_G.cong' (h : w_G n k a) (hn : n ≤ 4) (hk : k ≤ 6) (he : ∀ j, j < 45 → a' j = a j) : w_G n k a' := by
  obtain ⟨h1, h2, h3, h4⟩ := h
  refine ⟨?_, ?_, ?_, h4.cong' (fun j _ hj => he j hj)⟩
  · rw [he 25 (by omega)]; exact h1.cong hn hk (fun j hj => he j (by omega))
  · rw [he 25 (by omega)]; exact h2
  · rw [he 22 (by omega)]; exact h3
/-- the ledger and the notes alone have changed -/
theorem x_I.core (h : x_I σ n k q s st kp ln tp ft tn la sz ce) (hF : ∀ c, (c < 11 ∨ 27 ≤ c) → σ' c = σ c) (hL : x_L σ' 11 n k st') (hN : x_N σ' 23 st') (he : ∀ j, 45 ≤ j → st' j = st j) : x_I σ' n k q s st' kp ln tp ft tn la sz ce := by
  obtain ⟨h1, h2, h3, h4, h5, h7, h8, h9⟩ := h
  have eim : ∀ i, w_im st' i = w_im st i := fun i => by
    funext j; exact he _ (by omega)
  refine ⟨?_, hL, hN, fun i hi => ?_, ?_, ?_, ?_, fun j hj => ?_⟩
  · unfold x_S
    rw [hF 4 (by omega), hF (4 + 1) (by omega), hF (4 + 2) (by omega), hF (4 + 3) (by omega), hF (4 + 4) (by omega), hF (4 + 5) (by omega), hF (4 + 6) (by omega)]
    exact h1
  · rw [hF _ (by omega), eim]
    obtain ⟨g1, g2⟩ := h4 i hi
    refine ⟨g1, fun e => ⟨(g2 e).1.cp (hF _ (by omega)) (hF _ (by omega)) (hF _ (by omega)) (hF _ (by omega)) (hF _ (by omega)) (hF _ (by omega)), (g2 e).2.fr (hF _ (by omega)) (hF _ (by omega)) (hF _ (by omega)) (hF _ (by omega))⟩⟩
  · rw [hF 27 (by omega), hF 28 (by omega)]; exact h5
  · rw [hF 40 (by omega), hF 41 (by omega), hF 37 (by omega)]; exact h7
  · rw [hF 0 (by omega)]; exact h8
  · rw [hF _ (by omega), hF (65 + 2 * j + 1) (by omega)]; exact h9 j hj
theorem m_I.gen (h : m_I σ n k q s st kp ln tp ft tn la sz ce) (hF : ∀ c, (c = 0 ∨ (4 ≤ c ∧ c ≤ 17)) → σ' c = σ c) (h1 : ∀ j, j < 135 → σ' 1 j = nI (st' j)) (h3 : ∀ i, i < 2 → σ' 3 i = nI (kp' i)) (h6 : ∀ j, j < 4 → σ' 19 j = la' j ∧ σ' 20 j = nI (sz' j) ∧ ∀ c, c < 40 → σ' 21 (40 * j + c) = ce' j c) : m_I σ' n k q s st' kp' ln tp ft tn la' sz' ce' := by
  obtain ⟨g1, g2, g3, g4, g5, g6⟩ := h
  refine ⟨?_, h1, h3, ?_, ?_, h6⟩
  · unfold m_S
    rw [hF 0 (by omega), hF 4 (by omega), hF 5 (by omega), hF 6 (by omega), hF 7 (by omega), hF 8 (by omega), hF 9 (by omega)]; exact g1
  · rw [hF 0 (by omega), hF 17 (by omega)]; exact g4
  · rw [hF 0 (by omega)]; exact g5
theorem sim_note (h : z_Rel σX σM) (x y z : Int32) : z_Sim (f_X6_note x y z σX) (f_X7_note x y z σM) := by
  have h0 := h
  obtain ⟨n, k, q, s, st, kp, ln, tp, ft, tn, la, sz, ce, hv, hx, hm⟩ := h
  have hn := hv.1.1
  have hk := hv.1.2.1
  have hG := hv.2.1
  have h6 := hG.2.2.2.1
  have h99 := hG.2.1
  unfold f_X6_note f_X7_note
  rcases zn_rng x (m := n) (by omega) with ⟨p, hp, rfl⟩ | ho
  · rw [x_one_in hx.2.1.1 hn hp, m_one_in hm.1.1 hn hp, z_be, z_be]
    dsimp only
    rw [z_f1, z_f1]
    rcases zn_rng y (m := 10) (by omega) with ⟨w, hw, rfl⟩ | ho
    · rw [show f_X6_isWithin (nI w) 9 σX = _ from x_with_in (m := 9) (by omega) (by omega), m_lit_in (m := 9) (by omega) (by omega) (by decide), z_be, z_be]
      dsimp only
      rw [z_f1, z_f1]
      by_cases hw2 : st 25 ≤ w
      · rw [if_pos (show σX 11 9 ≤ nI w by rw [hx.2.1.2.2.2.2.2.2]; exact nI_le (by omega) (by omega)), if_pos (show σM 1 25 ≤ nI w by rw [hm.2.1 25 (by omega)]; exact nI_le (by omega) (by omega)), z_bind_id]
        unfold f_X2_append
        by_cases hc : st 26 = 6
        · rw [if_neg (show ¬ σX 23 0 < 6 by rw [hx.2.2.1.1, hc]; decide), if_pos (show σM 1 26 = 6 by rw [hm.2.1 26 (by omega), hc]; rfl)]
          exact z_Sim.same h0 rfl rfl
        · rw [if_pos (show σX 23 0 < 6 by rw [hx.2.2.1.1]; exact nI_lt (b := 6) (by omega) (by omega)), if_neg (show ¬ σM 1 26 = 6 by rw [hm.2.1 26 (by omega), show (6 : Int32) = nI 6 from rfl, zn_eq (by omega) (by omega)]; exact hc)]
          obtain ⟨f, hf, ef⟩ : ∃ f : Nat, f ≤ 1 ∧ (if z = 0 then (0 : Int32) else 1) = nI f := by
            by_cases e : z = 0
            · rw [if_pos e]; exact ⟨0, by omega, rfl⟩
            · rw [if_neg e]; exact ⟨1, by omega, rfl⟩
          have eX : ∀ τ : z_St, (if z = 0 then f_X2_append_49 23 0 (τ 23 0) τ else f_X2_append_49 23 1 (τ 23 0) τ) = f_X2_append_49 23 (nI f) (τ 23 0) τ := by
            intro τ; rw [← ef]; split <;> rfl
          have eM : ∀ τ : z_St, f_X7_flag z τ = some (nI f, τ) := by
            intro τ; rw [← ef]; unfold f_X7_flag; split <;> rfl
          have e26 := hm.2.1 26 (by omega)
          have e23 := hx.2.2.1.1
          simp only [z_bst_eq, z_bi_eq, eX, eM]
          unfold f_X2_append_49
          simp (disch := omega) only [z_be, z_bst_eq, e23, e26, zn_lit, zn_mul, zn_add, z_gd_nI, zn_cl, z_put_eq, z_put_ne, z_upd_eq, z_upd_ne]
          rw [show 27 + 3 * st 26 + 1 = 28 + 3 * st 26 by omega, show 27 + 3 * st 26 + 2 = 29 + 3 * st 26 by omega]
          refine ⟨_, _, _, rfl, rfl, n, k, q, s, z_nu (z_nu (z_nu (z_nu st (27 + 3 * st 26) p) (28 + 3 * st 26) w) (29 + 3 * st 26) f) 26 (st 26 + 1), kp, ln, tp, ft, tn, la, sz, ce, ?_, ?_, ?_⟩
          · have lo : ∀ j, j < 26 → z_nu (z_nu (z_nu (z_nu st (27 + 3 * st 26) p) (28 + 3 * st 26) w) (29 + 3 * st 26) f) 26 (st 26 + 1) j = st j := fun j hj => by
              rw [z_nu_ne (by omega), z_nu_ne (by omega), z_nu_ne (by omega), z_nu_ne (by omega)]
            refine hv.core ⟨?_, ?_, ?_, ?_⟩ (fun j hj => by rw [z_nu_ne (by omega), z_nu_ne (by omega), z_nu_ne (by omega), z_nu_ne (by omega)])
            · rw [lo 25 (by omega)]; exact hG.1.cong hn hk lo
            · rw [lo 25 (by omega)]; exact h99
            · rw [lo 22 (by omega)]; exact hG.2.2.1
            · refine ⟨by rw [z_nu_eq]; omega, fun j hj => ?_⟩
              rw [z_nu_eq] at hj
              by_cases e : j = st 26
              · subst e
                rw [z_nu_ne (by omega), z_nu_ne (by omega), z_nu_ne (by omega), z_nu_eq, z_nu_ne (by omega), z_nu_ne (by omega), z_nu_eq, z_nu_ne (by omega), z_nu_eq]
                omega
              · have g := hG.2.2.2.2 j (by omega)
                rw [z_nu_ne (by omega), z_nu_ne (by omega), z_nu_ne (by omega), z_nu_ne (by omega), z_nu_ne (by omega), z_nu_ne (by omega), z_nu_ne (by omega), z_nu_ne (by omega), z_nu_ne (by omega), z_nu_ne (by omega), z_nu_ne (by omega), z_nu_ne (by omega)]
                exact g
          · refine hx.core (fun c hc => by rw [z_put_ne (by omega), z_put_ne (by omega), z_put_ne (by omega), z_put_ne (by omega)]) ?_ ⟨?_, fun j hj => ?_⟩ (fun j hj => by rw [z_nu_ne (by omega), z_nu_ne (by omega), z_nu_ne (by omega), z_nu_ne (by omega)])
            · have g := hx.2.1
              refine (g.cp ?_ ?_ ?_ ?_ ?_ ?_).cong hn hk (fun j hj => by rw [z_nu_ne (by omega), z_nu_ne (by omega), z_nu_ne (by omega), z_nu_ne (by omega)])
              all_goals rw [z_put_ne (by omega), z_put_ne (by omega), z_put_ne (by omega), z_put_ne (by omega)]
            · rw [z_put_eq, z_upd_eq, z_nu_eq]
            · rw [z_nu_eq] at hj
              by_cases e : j = st 26
              · subst e
                rw [z_nu_ne (by omega), z_nu_ne (by omega), z_nu_ne (by omega), z_nu_eq, z_nu_ne (by omega), z_nu_ne (by omega), z_nu_eq, z_nu_ne (by omega), z_nu_eq]
                refine ⟨?_, ?_, ?_⟩
                · rw [z_put_ne (by omega), z_put_ne (by omega), z_put_ne (by omega), z_put_eq, z_upd_eq]
                · rw [z_put_ne (by omega), z_put_ne (by omega), z_put_eq, z_upd_eq]
                · rw [z_put_ne (by omega), z_put_eq, z_upd_eq]
              · have g := hx.2.2.1.2 j (by omega)
                rw [z_nu_ne (by omega), z_nu_ne (by omega), z_nu_ne (by omega), z_nu_ne (by omega), z_nu_ne (by omega), z_nu_ne (by omega), z_nu_ne (by omega), z_nu_ne (by omega), z_nu_ne (by omega), z_nu_ne (by omega), z_nu_ne (by omega), z_nu_ne (by omega)]
                refine ⟨?_, ?_, ?_⟩
                · rw [z_put_ne (by omega), z_put_ne (by omega), z_put_ne (by omega), z_put_eq, z_upd_ne e]; exact g.1
                · rw [z_put_ne (by omega), z_put_ne (by omega), z_put_eq, z_upd_ne e, z_put_ne (by omega)]; exact g.2.1
                · rw [z_put_ne (by omega), z_put_eq, z_upd_ne e, z_put_ne (by omega), z_put_ne (by omega)]; exact g.2.2
          · exact (((hm.stp _ _).stp _ _).stp _ _).stp _ _
      · rw [if_neg (show ¬ σX 11 9 ≤ nI w by rw [hx.2.1.2.2.2.2.2.2]; exact nI_ge (by omega) (by omega)), if_neg (show ¬ σM 1 25 ≤ nI w by rw [hm.2.1 25 (by omega)]; exact nI_ge (by omega) (by omega))]
        exact z_Sim.same h0 rfl rfl
    · rw [show f_X6_isWithin y 9 σX = _ from x_with_out (m := 9) (by omega) ho, m_lit_out (m := 9) (by omega) (by decide) ho]
      exact z_Sim.same h0 rfl rfl
  · rw [x_one_out hx.2.1.1 ho, m_one_out hm.1.1 hn ho]
    exact z_Sim.same h0 rfl rfl
theorem sim_forget (h : z_Rel σX σM) (x : Int32) : z_Sim (f_X6_forget x σX) (f_X7_forget x σM) := by
  have h0 := h
  obtain ⟨n, k, q, s, st, kp, ln, tp, ft, tn, la, sz, ce, hv, hx, hm⟩ := h
  have hn := hv.1.1
  have hk := hv.1.2.1
  have hG := hv.2.1
  have h6 := hG.2.2.2.1
  unfold f_X6_forget f_X7_forget
  have e26 := hm.2.1 26 (by omega)
  rw [hx.2.2.1.1, e26]
  rcases zn_rng x (m := st 26 + 1) (by omega) with ⟨c, hc, rfl⟩ | ho
  · rw [x_with_in (m := st 26) (by omega) (by omega), m_in_in (by rw [nI_toInt (by omega)]; show (0 : Int) ≤ _; omega) (by rw [Int32.toInt_toInt64, nI_toInt (by omega), nI_toInt (by omega)]; omega), z_be, z_be]
    dsimp only
    rw [z_f1, z_f1, z_bst_eq, z_bind_id, hx.2.2.1.1]
    unfold f_X7_becomes
    rw [show (26 : Int32) = nI 26 from rfl, z_gd_nI (by omega) (by omega), z_gd_nI (by omega) (by omega), zn_cl (by omega), z_bst_eq, e26]
    refine ⟨_, _, _, rfl, rfl, n, k, q, s, z_nu st 26 c, kp, ln, tp, ft, tn, la, sz, ce, ?_, ?_, hm.stp _ _⟩
    · refine hv.core ⟨?_, ?_, ?_, ?_⟩ (fun j hj => z_nu_ne (by omega))
      · rw [z_nu_ne (by omega)]; exact hG.1.cong hn hk (fun j hj => z_nu_ne (by omega))
      · rw [z_nu_ne (by omega)]; exact hG.2.1
      · rw [z_nu_ne (by omega)]; exact hG.2.2.1
      · refine ⟨by rw [z_nu_eq]; omega, fun j hj => ?_⟩
        rw [z_nu_eq] at hj
        rw [z_nu_ne (by omega), z_nu_ne (by omega), z_nu_ne (by omega)]
        exact hG.2.2.2.2 j (by omega)
    · refine hx.core (fun c hc => z_put_ne (by omega)) ?_ ⟨?_, fun j hj => ?_⟩ (fun j hj => z_nu_ne (by omega))
      · exact (hx.2.1.cp (z_put_ne (by omega)) (z_put_ne (by omega)) (z_put_ne (by omega)) (z_put_ne (by omega)) (z_put_ne (by omega)) (z_put_ne (by omega))).cong hn hk (fun j hj => z_nu_ne (by omega))
      · rw [z_put_eq, z_upd_eq, z_nu_eq]
      · rw [z_nu_eq] at hj
        rw [z_nu_ne (by omega), z_nu_ne (by omega), z_nu_ne (by omega), z_put_ne (by omega), z_put_ne (by omega), z_put_ne (by omega)]
        exact hx.2.2.1.2 j (by omega)
  · rw [x_with_out (m := st 26) (by omega) ho]
    have h' := zn_out (by omega) ho
    rw [m_in_out (by rw [Int32.toInt_toInt64, nI_toInt (by omega)]; rcases h' with h' | h'
                     · exact Or.inl h'
                     · right; omega)]
    exact z_Sim.same h0 rfl rfl
/-- an image is kept -/
def w_kp (st : Nat → Nat) (i : Nat) : Nat → Nat := fun j => if 45 * (i + 1) ≤ j ∧ j < 45 * (i + 1) + 45 then st (j - 45 * (i + 1)) else st j
theorem w_kp_in {i j : Nat} (h : j < 45) : w_kp st i (45 * (i + 1) + j) = st j := by
  unfold w_kp
  rw [if_pos (by omega), show 45 * (i + 1) + j - 45 * (i + 1) = j by omega]
theorem w_kp_out {i j : Nat} (h : j < 45 * (i + 1) ∨ 45 * (i + 1) + 45 ≤ j) : w_kp st i j = st j := by
  unfold w_kp
  rw [if_neg (by omega)]
theorem sim_keep (h : z_Rel σX σM) (x : Int32) : z_Sim (f_X6_keep x σX) (f_X7_keep x σM) := by
  have h0 := h
  obtain ⟨n, k, q, s, st, kp, ln, tp, ft, tn, la, sz, ce, hv, hx, hm⟩ := h
  have hn := hv.1.1
  have hk := hv.1.2.1
  have hG := hv.2.1
  have h6 := hG.2.2.2.1
  unfold f_X6_keep f_X7_keep
  rcases zn_rng x (m := 2) (by omega) with ⟨i, hi, rfl⟩ | ho
  · rw [show f_X6_isWithin (nI i) 1 σX = _ from x_with_in (m := 1) (by omega) (by omega), m_lit_in (m := 1) (by omega) (by omega) (by decide), z_be, z_be]
    dsimp only
    rw [z_f1, z_f1, z_gd_nI (by omega) (by omega), z_gd_nI (by omega) (by omega), zn_cl (by omega), hm.2.2.1 i hi, m_flag_nI (hv.2.2.1 i hi).1, z_be]
    dsimp only
    rw [z_gd_nI (by omega) (by omega), show vp_nar .boolean (1 : Int32) = 1 from rfl, z_bst_eq]
    have hkp := (hv.2.2.1 i hi).1
    have eX : (if σX (43 + 11 * i) 0 = 0 then f_X6_keep_29 (43 + 11 * i) 0 σX else f_X6_keep_29 (43 + 11 * i) 1 σX) = f_X6_keep_29 (43 + 11 * i) (nI (kp i)) σX := by
      by_cases e : kp i = 0
      · rw [if_pos (by rw [(hx.2.2.2.1 i hi).1, e]; rfl), e]; rfl
      · rw [if_neg (by rw [(hx.2.2.2.1 i hi).1]; exact nI_ne0 (by omega) (by omega)), show kp i = 1 by omega]; rfl
    rw [eX]
    unfold f_X6_keep_29
    obtain ⟨σ1, g1, g2, g3⟩ := x_copy (b := 43 + 11 * i + 1) hx.2.1 hn hk (by omega)
    have hN1 : x_N σ1 23 st := hx.2.2.1.fr (g3 _ (by omega)) (g3 _ (by omega)) (g3 _ (by omega)) (g3 _ (by omega))
    obtain ⟨σ2, i1, i2, i3⟩ := x_ncopy (b := 43 + 11 * i + 7) hN1 h6 (by omega)
    rw [g1]
    simp only [z_be]
    rw [i1]
    simp only [z_be, z_bst_eq]
    obtain ⟨σ3, j1, j2, j3, j4⟩ := m_copies (σ := z_put σM 3 i 1) (st := st) (to := 45 * (i + 1)) (fr := 0) (fun j hj => by rw [z_put_ne (by omega)]; exact hm.2.1 j hj) (by omega) (by omega) (by omega)
    rw [show (45 : Int32) * (nI i + 1) = nI (45 * (i + 1)) by rw [show (45 : Int32) = nI 45 from rfl, show (1 : Int32) = nI 1 from rfl, zn_add, zn_mul], show f_X7_copies (nI (45 * (i + 1))) 0 (z_put σM 3 i 1) = _ from j1]
    simp only [z_be]
    have fr : ∀ c, (c < 43 + 11 * i ∨ 43 + 11 * i + 11 ≤ c) → z_put σ2 (43 + 11 * i) 0 1 c = σX c := fun c hc => by
      rw [z_put_ne (by omega), i3 c (by omega), g3 c (by omega)]
    refine ⟨_, _, _, rfl, rfl, n, k, q, s, w_kp st i, z_nu kp i 1, ln, tp, ft, tn, la, sz, ce, ?_, ?_, ?_⟩
    · obtain ⟨v1, v2, v3, v4, v5, v6⟩ := hv
      refine ⟨v1, v2.cong' hn hk (fun j hj => w_kp_out (by omega)), fun t ht => ?_, v4, v5, v6⟩
      by_cases e : t = i
      · subst e
        rw [z_nu_eq]
        exact ⟨by omega, fun _ => v2.cong' hn hk (fun j hj => w_kp_in hj)⟩
      · rw [z_nu_ne e]
        exact ⟨(v3 t ht).1, fun e1 => ((v3 t ht).2 e1).cong' hn hk (fun j hj => w_kp_out (by omega))⟩
    · obtain ⟨q1, q2, q3, q4, q5, q7, q8, q9⟩ := hx
      refine ⟨?_, ?_, ?_, fun t ht => ?_, ?_, ?_, ?_, fun j hj => ?_⟩
      · unfold x_S
        rw [fr 4 (by omega), fr (4 + 1) (by omega), fr (4 + 2) (by omega), fr (4 + 3) (by omega), fr (4 + 4) (by omega), fr (4 + 5) (by omega), fr (4 + 6) (by omega)]
        exact q1
      · exact (q2.cp (fr _ (by omega)) (fr _ (by omega)) (fr _ (by omega)) (fr _ (by omega)) (fr _ (by omega)) (fr _ (by omega))).cong hn hk (fun j hj => w_kp_out (by omega))
      · exact (q3.fr (fr _ (by omega)) (fr _ (by omega)) (fr _ (by omega)) (fr _ (by omega))).cong (fun j _ hj => w_kp_out (by omega)) h6
      · by_cases e : t = i
        · subst e
          rw [z_nu_eq]
          refine ⟨by rw [z_put_eq, z_upd_eq]; rfl, fun _ => ⟨?_, ?_⟩⟩
          · have g2' := g2.cp (σ' := z_put σ2 (43 + 11 * t) 0 1) (by rw [z_put_ne (by omega), i3 _ (by omega)]) (by rw [z_put_ne (by omega), i3 _ (by omega)]) (by rw [z_put_ne (by omega), i3 _ (by omega)]) (by rw [z_put_ne (by omega), i3 _ (by omega)]) (by rw [z_put_ne (by omega), i3 _ (by omega)]) (by rw [z_put_ne (by omega), i3 _ (by omega)])
            exact g2'.cong hn hk (fun j hj => w_kp_in (by omega))
          · exact (i2.fr (σ' := z_put σ2 (43 + 11 * t) 0 1) (z_put_ne (by omega)) (z_put_ne (by omega)) (z_put_ne (by omega)) (z_put_ne (by omega))).cong (fun j _ hj => w_kp_in hj) h6
        · rw [z_nu_ne e, fr _ (by omega)]
          obtain ⟨g1', g2'⟩ := q4 t ht
          refine ⟨g1', fun e1 => ?_⟩
          obtain ⟨u1, u2⟩ := g2' e1
          have u3 := ((hv.2.2.1 t ht).2 e1).2.2.2.1
          exact ⟨(u1.cp (fr _ (by omega)) (fr _ (by omega)) (fr _ (by omega)) (fr _ (by omega)) (fr _ (by omega)) (fr _ (by omega))).cong hn hk (fun j hj => w_kp_out (by omega)), (u2.fr (fr _ (by omega)) (fr _ (by omega)) (fr _ (by omega)) (fr _ (by omega))).cong (fun j _ hj => w_kp_out (by omega)) u3⟩
      · rw [fr 27 (by omega), fr 28 (by omega)]; exact q5
      · rw [fr 40 (by omega), fr 41 (by omega), fr 37 (by omega)]; exact q7
      · rw [fr 0 (by omega)]; exact q8
      · rw [fr _ (by omega), fr (65 + 2 * j + 1) (by omega)]; exact q9 j hj
    · refine hm.gen (fun c hc => by rw [j2 c (by omega), z_put_ne (by omega)]) (fun j hj => ?_) (fun t ht => ?_) ?_
      · by_cases e : 45 * (i + 1) ≤ j ∧ j < 45 * (i + 1) + 45
        · obtain ⟨d, hd, rfl⟩ : ∃ d, d < 45 ∧ j = 45 * (i + 1) + d := ⟨j - 45 * (i + 1), by omega, by omega⟩
          rw [j3 d hd, w_kp_in hd, show 0 + d = d by omega]
        · rw [j4 j (by omega), z_put_ne (by omega), w_kp_out (by omega)]; exact hm.2.1 j hj
      · rw [j2 3 (by omega), z_put_eq]
        by_cases e : t = i
        · subst e; rw [z_upd_eq, z_nu_eq]; rfl
        · rw [z_upd_ne e, z_nu_ne e]; exact hm.2.2.1 t ht
      · rw [j2 19 (by omega), j2 20 (by omega), j2 21 (by omega), z_put_ne (by omega), z_put_ne (by omega), z_put_ne (by omega)]
        exact hm.2.2.2.2.2
  · rw [show f_X6_isWithin x 1 σX = _ from x_with_out (m := 1) (by omega) ho, m_lit_out (m := 1) (by omega) (by decide) ho]
    exact z_Sim.same h0 rfl rfl
def w_bk (st : Nat → Nat) (i : Nat) : Nat → Nat := fun j => if j < 45 then st (45 * (i + 1) + j) else st j
theorem sim_back (h : z_Rel σX σM) (x : Int32) : z_Sim (f_X6_back x σX) (f_X7_back x σM) := by
  have h0 := h
  obtain ⟨n, k, q, s, st, kp, ln, tp, ft, tn, la, sz, ce, hv, hx, hm⟩ := h
  have hn := hv.1.1
  have hk := hv.1.2.1
  unfold f_X6_back f_X7_back
  rcases zn_rng x (m := 2) (by omega) with ⟨i, hi, rfl⟩ | ho
  · rw [show f_X6_isWithin (nI i) 1 σX = _ from x_with_in (m := 1) (by omega) (by omega), m_lit_in (m := 1) (by omega) (by omega) (by decide), z_be, z_be]
    dsimp only
    rw [z_f1, z_f1, z_gd_nI (by omega) (by omega), z_gd_nI (by omega) (by omega), zn_cl (by omega)]
    obtain ⟨hkp, hkw⟩ := hv.2.2.1 i hi
    obtain ⟨c1, c2⟩ := hx.2.2.2.1 i hi
    by_cases e : kp i = 0
    · rw [if_pos (by rw [c1, e]; rfl), if_pos (by rw [hm.2.2.1 i hi, e]; rfl)]
      exact z_Sim.same h0 rfl rfl
    rw [if_neg (by rw [c1]; exact nI_ne0 (by omega) (by omega)), if_neg (by rw [hm.2.2.1 i hi]; exact nI_ne0 (by omega) (by omega))]
    obtain ⟨hL, hN⟩ := c2 (by omega)
    have hG := hkw (by omega)
    obtain ⟨σ1, g1, g2, g3⟩ := x_copy (b := 11) hL hn hk (by omega)
    have hN1 : x_N σ1 (43 + 11 * i + 7) (w_im st i) := hN.fr (g3 _ (by omega)) (g3 _ (by omega)) (g3 _ (by omega)) (g3 _ (by omega))
    obtain ⟨σ2, i1, i2, i3⟩ := x_ncopy (b := 23) hN1 hG.2.2.2.1 (by omega)
    rw [g1]
    simp only [z_be]
    rw [i1]
    simp only [z_be]
    obtain ⟨σ3, j1, j2, j3, j4⟩ := m_copies (σ := σM) (st := st) (to := 0) (fr := 45 * (i + 1)) hm.2.1 (by omega) (by omega) (by omega)
    rw [show (45 : Int32) * (nI i + 1) = nI (45 * (i + 1)) by rw [show (45 : Int32) = nI 45 from rfl, show (1 : Int32) = nI 1 from rfl, zn_add, zn_mul], show f_X7_copies 0 (nI (45 * (i + 1))) σM = _ from j1]
    simp only [z_be]
    have bk : ∀ j, j < 45 → w_bk st i j = w_im st i j := fun j hj => by unfold w_bk w_im; rw [if_pos hj]
    have bo : ∀ j, 45 ≤ j → w_bk st i j = st j := fun j hj => by unfold w_bk; rw [if_neg (by omega)]
    refine ⟨nI (w_bk st i 25), σ2, σ3, ?_, ?_, n, k, q, s, w_bk st i, kp, ln, tp, ft, tn, la, sz, ce, ?_, ?_, ?_⟩
    · rw [i3 11 (by omega), g2.2.2.2.2.2.2, bk 25 (by omega)]
    · rw [show σ3 1 25 = _ from j3 25 (by omega)]; rfl
    · exact hv.core (hG.cong' hn hk bk) bo
    · refine hx.core (fun c hc => by rw [i3 c (by omega), g3 c (by omega)]) ?_ (i2.cong (fun j _ hj => bk j hj) hG.2.2.2.1) bo
      exact (g2.cp (i3 _ (by omega)) (i3 _ (by omega)) (i3 _ (by omega)) (i3 _ (by omega)) (i3 _ (by omega)) (i3 _ (by omega))).cong hn hk (fun j hj => bk j (by omega))
    · refine hm.gen (fun c hc => j2 c (by omega)) (fun j hj => ?_) ?_ ?_
      · by_cases e : j < 45
        · rw [bk j e]
          have := j3 j e
          rw [Nat.zero_add] at this
          exact this
        · rw [j4 j (by omega), bo j (by omega)]; exact hm.2.1 j hj
      · rw [j2 3 (by omega)]; exact hm.2.2.1
      · rw [j2 19 (by omega), j2 20 (by omega), j2 21 (by omega)]; exact hm.2.2.2.2.2
  · rw [show f_X6_isWithin x 1 σX = _ from x_with_out (m := 1) (by omega) ho, m_lit_out (m := 1) (by omega) (by decide) ho]
    exact z_Sim.same h0 rfl rfl
/-! sheets -/
theorem x_I.sht (h : x_I σ n k q s st kp ln tp ft tn la sz ce) (hF : ∀ c, c < 65 → σ' c = σ c) (h9 : ∀ j, j < 4 → σ' (65 + 2 * j) 0 = (if la' j = -4 then -1 else la' j) ∧ σ' (65 + 2 * j) 1 = nI (sz' j) ∧ ∀ c, c < 40 → σ' (65 + 2 * j + 1) c = ce' j c) : x_I σ' n k q s st kp ln tp ft tn la' sz' ce' := by
  obtain ⟨q1, q2, q3, q4, q5, q7, q8, q9⟩ := h
  refine ⟨?_, ?_, ?_, fun t ht => ?_, ?_, ?_, ?_, h9⟩
  · unfold x_S
    rw [hF 4 (by omega), hF (4 + 1) (by omega), hF (4 + 2) (by omega), hF (4 + 3) (by omega), hF (4 + 4) (by omega), hF (4 + 5) (by omega), hF (4 + 6) (by omega)]
    exact q1
  · exact q2.cp (hF _ (by omega)) (hF _ (by omega)) (hF _ (by omega)) (hF _ (by omega)) (hF _ (by omega)) (hF _ (by omega))
  · exact q3.fr (hF _ (by omega)) (hF _ (by omega)) (hF _ (by omega)) (hF _ (by omega))
  · rw [hF _ (by omega)]
    obtain ⟨g1', g2'⟩ := q4 t ht
    refine ⟨g1', fun e1 => ?_⟩
    obtain ⟨u1, u2⟩ := g2' e1
    exact ⟨u1.cp (hF _ (by omega)) (hF _ (by omega)) (hF _ (by omega)) (hF _ (by omega)) (hF _ (by omega)) (hF _ (by omega)), u2.fr (hF _ (by omega)) (hF _ (by omega)) (hF _ (by omega)) (hF _ (by omega))⟩
  · rw [hF 27 (by omega), hF 28 (by omega)]; exact q5
  · rw [hF 40 (by omega), hF 41 (by omega), hF 37 (by omega)]; exact q7
  · rw [hF 0 (by omega)]; exact q8
theorem x_fill_loop {c : Nat} : ∀ (m i F : Nat) (σ : z_St), 40 = i + m → m < F → (∀ j, j < i → σ c j = 0) → ∃ σ', f_J7_fill_53178_5 c 40 F 0 (nI i) (nI 40) σ = some (0, σ') ∧ (∀ d, d ≠ c → σ' d = σ d) ∧ (∀ j, j < 40 → σ' c j = 0) := by
  intro m
  induction m with
  | zero =>
    intro i F σ hm hF h1
    obtain ⟨F, rfl⟩ : ∃ F', F = F' + 1 := ⟨F - 1, by omega⟩
    refine ⟨σ, ?_, fun _ _ => rfl, fun j hj => h1 j (by omega)⟩
    rw [f_J7_fill_53178_5, if_pos (show nI 40 ≤ nI i from nI_le (by omega) (by omega))]
  | succ m ih =>
    intro i F σ hm hF h1
    obtain ⟨F, rfl⟩ : ∃ F', F = F' + 1 := ⟨F - 1, by omega⟩
    have ei : nI i + 1 = nI (i + 1) := nI_1 i
    obtain ⟨σ', g1, g2, g3⟩ := ih (i + 1) F (z_put σ c i 0) (by omega) (by omega) (fun j hj => by
      rw [z_put_eq]
      by_cases e : j = i
      · subst e; rw [z_upd_eq]
      · rw [z_upd_ne e]; exact h1 j (by omega))
    refine ⟨σ', ?_, fun d hd => by rw [g2 d hd, z_put_ne hd], g3⟩
    rw [f_J7_fill_53178_5, if_neg (show ¬ nI 40 ≤ nI i from nI_ge (by omega) (by omega)), z_gd_nI (by omega) (by omega), zn_cl (by omega), z_bst_eq, ei]
    exact g1
theorem m_fill_loop {d : Nat} (hd : d < 4) : ∀ (m i F : Nat) (σ : z_St), 40 = i + m → m < F → (∀ j, j < i → σ 21 (40 * d + j) = 0) → ∃ σ', f_X7_sheet_40 F (nI d) (nI i) σ = some (1, σ') ∧ (∀ c, c ≠ 21 → σ' c = σ c) ∧ (∀ j, j < 40 → σ' 21 (40 * d + j) = 0) ∧ (∀ j, (j < 40 * d ∨ 40 * d + 40 ≤ j) → σ' 21 j = σ 21 j) := by
  intro m
  induction m with
  | zero =>
    intro i F σ hm hF h1
    obtain ⟨F, rfl⟩ : ∃ F', F = F' + 1 := ⟨F - 1, by omega⟩
    refine ⟨σ, ?_, fun _ _ => rfl, fun j hj => h1 j (by omega), fun _ _ => rfl⟩
    rw [f_X7_sheet_40, if_pos (show (40 : Int32) ≤ nI i from nI_le (a := 40) (by omega) (by omega))]
  | succ m ih =>
    intro i F σ hm hF h1
    obtain ⟨F, rfl⟩ : ∃ F', F = F' + 1 := ⟨F - 1, by omega⟩
    have ei : nI i + 1 = nI (i + 1) := nI_1 i
    obtain ⟨σ', g1, g2, g3, g4⟩ := ih (i + 1) F (z_put σ 21 (40 * d + i) 0) (by omega) (by omega) (fun j hj => by
      rw [z_put_eq]
      by_cases e : j = i
      · subst e; rw [z_upd_eq]
      · rw [z_upd_ne (by omega)]; exact h1 j (by omega))
    refine ⟨σ', ?_, fun d hd => by rw [g2 d hd, z_put_ne hd], g3, fun j hj => by rw [g4 j hj, z_put_eq, z_upd_ne (by omega)]⟩
    rw [f_X7_sheet_40, if_neg (show ¬ (40 : Int32) ≤ nI i from nI_ge (b := 40) (by omega) (by omega)), show (40 : Int32) * nI d + nI i = nI (40 * d + i) by rw [show (40 : Int32) = nI 40 from rfl, zn_mul, zn_add], z_gd_nI (by omega) (by omega), zn_cl (by omega), z_bst_eq, ei]
    exact g1
def z_fu {α : Type} (f : Nat → α) (j : Nat) (v : α) : Nat → α := fun i => if i = j then v else f i
theorem z_fu_eq {α : Type} (f : Nat → α) (j : Nat) (v : α) : z_fu f j v j = v := by rw [z_fu, if_pos rfl]
theorem z_fu_ne {α : Type} {f : Nat → α} {j : Nat} {v : α} {i : Nat} (h : i ≠ j) : z_fu f j v i = f i := by rw [z_fu, if_neg h]
theorem m_sheet_in {j w : Nat} (hj : j ≤ 3) (hw : w ≤ 2) : f_X7_isSheet (nI j) (nI w) σ = some (1, σ) := by
  unfold f_X7_isSheet
  rw [m_lit_in (m := 3) hj (by omega) (by decide), z_be]
  dsimp only
  rw [z_f1, m_lit_in (m := 2) hw (by omega) (by decide), z_be]
  dsimp only
  rw [z_f1]
theorem m_sheet_out1 {x y : Int32} (h : x < 0 ∨ nI 4 ≤ x) : f_X7_isSheet x y σ = some (0, σ) := by
  unfold f_X7_isSheet
  rw [m_lit_out (m := 3) (by omega) (by decide) h]; rfl
theorem m_sheet_out2 {j : Nat} {y : Int32} (hj : j ≤ 3) (h : y < 0 ∨ nI 3 ≤ y) : f_X7_isSheet (nI j) y σ = some (0, σ) := by
  unfold f_X7_isSheet
  rw [m_lit_in (m := 3) hj (by omega) (by decide), z_be]
  dsimp only
  rw [z_f1, m_lit_out (m := 2) (by omega) (by decide) h]; rfl
theorem sim_sheet (h : z_Rel σX σM) (x y z : Int32) : z_Sim (f_X6_sheet x y z σX) (f_X7_sheet x y z σM) := by
  have h0 := h
  obtain ⟨n, k, q, s, st, kp, ln, tp, ft, tn, la, sz, ce, hv, hx, hm⟩ := h
  unfold f_X6_sheet f_X7_sheet
  rcases zn_rng x (m := 4) (by omega) with ⟨j, hj, rfl⟩ | ho
  · rw [show f_X6_isWithin (nI j) 3 σX = _ from x_with_in (m := 3) (by omega) (by omega), z_be]
    dsimp only
    rw [z_f1]
    rcases zn_rng y (m := 3) (by omega) with ⟨w, hw, rfl⟩ | ho
    · rw [show f_X6_isWithin (nI w) 2 σX = _ from x_with_in (m := 2) (by omega) (by omega), m_sheet_in (by omega) (by omega), z_be, z_be]
      dsimp only
      rw [z_f1, z_f1]
      refine z_Sim.ite (fun hz1 => ?_) (fun _ => z_Sim.same h0 rfl rfl)
      refine z_Sim.ite (fun hz2 => ?_) (fun _ => z_Sim.same h0 rfl rfl)
      obtain ⟨m, hm40, rfl⟩ : ∃ m, m ≤ 40 ∧ z = nI m := by
        rcases zn_rng z (m := 41) (by omega) with ⟨m, hm', e⟩ | ho
        · exact ⟨m, by omega, e⟩
        · have h1 := zn_out (m := 41) (by omega) ho
          have h2 := (fa_le _ _).mp hz1
          have h3 := (fa_le _ _).mp hz2
          rw [show (40 : Int32).toInt = 40 from rfl] at h2
          rw [show (0 : Int32).toInt = 0 from rfl] at h3
          omega
      simp (disch := omega) only [z_gd_nI, zn_cl, z_bst_eq]
      unfold f_X4_renew f_J7_fill_53178
      simp only [z_bst_eq]
      obtain ⟨σ1, g1, g2, g3⟩ := x_fill_loop (c := 65 + 2 * j + 1) 40 0 200 (z_put (z_put σX (65 + 2 * j) 0 (nI w)) (65 + 2 * j) 1 (nI m)) (by omega) (by omega) (fun i hi => absurd hi (by omega))
      obtain ⟨σ2, i1, i2, i3, i4⟩ := m_fill_loop (d := j) hj 40 0 200 (z_put (z_put σM 19 j (nI w)) 20 j (nI m)) (by omega) (by omega) (fun i hi => absurd hi (by omega))
      rw [show f_J7_fill_53178_5 (65 + 2 * j + 1) 40 200 0 0 (nI 40) (z_put (z_put σX (65 + 2 * j) 0 (nI w)) (65 + 2 * j) 1 (nI m)) = _ from g1, show f_X7_sheet_40 200 (nI j) 0 (z_put (z_put σM 19 j (nI w)) 20 j (nI m)) = _ from i1]
      simp only [z_be]
      have e4 : ¬ nI w = (-4 : Int32) := fun e => by
        have := congrArg Int32.toInt e
        rw [nI_toInt (by omega), show (-4 : Int32).toInt = -4 from rfl] at this; omega
      refine ⟨_, _, _, rfl, rfl, n, k, q, s, st, kp, ln, tp, ft, tn, z_fu la j (nI w), z_fu sz j m, z_fu ce j (fun _ => 0), ?_, ?_, ?_⟩
      · obtain ⟨v1, v2, v3, v4, v5, v6⟩ := hv
        refine ⟨v1, v2, v3, v4, v5, fun t ht => ?_⟩
        by_cases e : t = j
        · subst e
          rw [z_fu_eq, z_fu_eq]
          refine ⟨?_, hm40⟩
          have : w = 0 ∨ w = 1 ∨ w = 2 := by omega
          rcases this with rfl | rfl | rfl
          · exact Or.inr (Or.inl rfl)
          · exact Or.inr (Or.inr (Or.inl rfl))
          · exact Or.inr (Or.inr (Or.inr rfl))
        · rw [z_fu_ne e, z_fu_ne e]; exact v6 t ht
      · refine hx.sht (fun c hc => by rw [g2 c (by omega), z_put_ne (by omega), z_put_ne (by omega)]) (fun t ht => ?_)
        by_cases e : t = j
        · subst e
          rw [z_fu_eq, z_fu_eq, z_fu_eq, g2 _ (by omega), if_neg e4]
          refine ⟨?_, ?_, fun c hc => g3 c hc⟩
          · rw [z_put_eq, z_upd_ne (by omega), z_put_eq, z_upd_eq]
          · rw [z_put_eq, z_upd_eq]
        · rw [z_fu_ne e, z_fu_ne e, z_fu_ne e, g2 _ (by omega), g2 _ (by omega), z_put_ne (by omega), z_put_ne (by omega), z_put_ne (by omega), z_put_ne (by omega)]
          exact hx.2.2.2.2.2.2.2 t ht
      · refine hm.gen (fun c hc => by rw [i2 c (by omega), z_put_ne (by omega), z_put_ne (by omega)]) ?_ ?_ (fun t ht => ?_)
        · rw [i2 1 (by omega), z_put_ne (by omega), z_put_ne (by omega)]; exact hm.2.1
        · rw [i2 3 (by omega), z_put_ne (by omega), z_put_ne (by omega)]; exact hm.2.2.1
        · obtain ⟨u1, u2, u3⟩ := hm.2.2.2.2.2 t ht
          rw [i2 19 (by omega), i2 20 (by omega), z_put_ne (show (19 : Nat) ≠ 20 by omega), z_put_eq, z_put_eq]
          by_cases e : t = j
          · subst e
            rw [z_fu_eq, z_fu_eq, z_fu_eq, z_upd_eq, z_upd_eq]
            exact ⟨rfl, rfl, fun c hc => i3 c hc⟩
          · rw [z_fu_ne e, z_fu_ne e, z_fu_ne e, z_upd_ne e, z_upd_ne e, z_put_ne (by omega)]
            refine ⟨u1, u2, fun c hc => ?_⟩
            rw [i4 _ (by omega), z_put_ne (by omega), z_put_ne (by omega)]
            exact u3 c hc
    · rw [show f_X6_isWithin y 2 σX = _ from x_with_out (m := 2) (by omega) ho, m_sheet_out2 (by omega) ho]
      exact z_Sim.same h0 rfl rfl
  · rw [show f_X6_isWithin x 3 σX = _ from x_with_out (m := 3) (by omega) ho, m_sheet_out1 ho]
    exact z_Sim.same h0 rfl rfl
theorem sim_lay (h : z_Rel σX σM) (x y z : Int32) : z_Sim (f_X6_lay x y z σX) (f_X7_lay x y z σM) := by
  have h0 := h
  obtain ⟨n, k, q, s, st, kp, ln, tp, ft, tn, la, sz, ce, hv, hx, hm⟩ := h
  unfold f_X6_lay f_X7_lay
  rcases zn_rng x (m := 4) (by omega) with ⟨j, hj, rfl⟩ | ho
  · rw [show f_X6_isWithin (nI j) 3 σX = _ from x_with_in (m := 3) (by omega) (by omega), show f_X7_isSheet (nI j) 0 σM = _ from m_sheet_in (w := 0) (by omega) (by omega), z_be, z_be]
    dsimp only
    obtain ⟨x1, x2, x3⟩ := hx.2.2.2.2.2.2.2 j hj
    obtain ⟨m1, m2, m3⟩ := hm.2.2.2.2.2 j hj
    obtain ⟨l1, l2⟩ := hv.2.2.2.2.2 j hj
    rw [z_f1, z_f1]
    simp (disch := omega) only [z_gd_nI, zn_cl, m1, m2]
    unfold f_X4_faultAt
    rw [x1, x2]
    by_cases e4 : la j = -4
    · simp only [if_pos e4]
      rw [if_pos trivial, z_be]
      dsimp only
      rw [z_f1, show (-10 : Int32) - 1 = -11 from rfl]
      exact z_Sim.same h0 rfl rfl
    · simp only [if_neg e4]
      have e1 : ¬ la j = -1 := by rcases l1 with e | e | e | e <;> rw [e] <;> decide
      rw [if_neg e1, if_pos trivial]
      rcases zn_rng y (m := sz j) (by omega) with ⟨c, hc, rfl⟩ | ho
      · rw [if_neg (nI_pos (by omega) : ¬ nI c < 0), if_pos (nI_lt hc (by omega)), m_in_in (by rw [nI_toInt (by omega)]; show (0 : Int) ≤ _; omega) (by rw [Int32.toInt_toInt64, show (1 : Int32) = nI 1 from rfl, zn_sub (by omega), nI_toInt (by omega), nI_toInt (by omega)]; omega)]
        simp only [z_be]
        rw [if_pos trivial, if_neg (show ¬ (1 : Int32) = 0 by decide)]
        have ei : (40 : Int32) * nI j + nI c = nI (40 * j + c) := by rw [show (40 : Int32) = nI 40 from rfl, zn_mul, zn_add]
        rw [ei]
        unfold f_X4_put
        rw [x1, if_neg e4]
        simp (disch := omega) only [z_gd_nI, zn_cl, z_bst_eq]
        have put : ∀ v : Int32, z_Rel (z_put σX (65 + 2 * j + 1) c v) (z_put σM 21 (40 * j + c) v) := by
          intro v
          refine ⟨n, k, q, s, st, kp, ln, tp, ft, tn, la, sz, z_fu ce j (z_fu (ce j) c v), hv, ?_, ?_⟩
          · refine hx.sht (fun d hd => z_put_ne (by omega)) (fun t ht => ?_)
            obtain ⟨u1, u2, u3⟩ := hx.2.2.2.2.2.2.2 t ht
            rw [z_put_ne (by omega)]
            refine ⟨u1, u2, fun d hd => ?_⟩
            by_cases e : t = j
            · subst e
              rw [z_fu_eq, z_put_eq]
              by_cases e' : d = c
              · subst e'; rw [z_upd_eq, z_fu_eq]
              · rw [z_upd_ne e', z_fu_ne e']; exact u3 d hd
            · rw [z_fu_ne e, z_put_ne (by omega)]; exact u3 d hd
          · refine hm.gen (fun d hd => z_put_ne (by omega)) ?_ ?_ (fun t ht => ?_)
            · rw [z_put_ne (by omega)]; exact hm.2.1
            · rw [z_put_ne (by omega)]; exact hm.2.2.1
            · obtain ⟨u1, u2, u3⟩ := hm.2.2.2.2.2 t ht
              rw [z_put_ne (by omega), z_put_ne (by omega)]
              refine ⟨u1, u2, fun d hd => ?_⟩
              rw [z_put_eq]
              by_cases e : t = j
              · subst e
                rw [z_fu_eq]
                by_cases e' : d = c
                · subst e'; rw [z_upd_eq, z_fu_eq]
                · rw [z_upd_ne (by omega), z_fu_ne e']; exact u3 d hd
              · rw [z_fu_ne e, z_upd_ne (by omega)]; exact u3 d hd
        rcases l1 with e | e | e | e
        · exact absurd e e4
        · rw [e, if_pos rfl, if_pos (show σM 19 j = 0 by rw [m1, e])]; exact z_Sim.same (put _) rfl rfl
        · rw [e, if_neg (by decide), if_pos rfl, if_neg (show ¬ σM 19 j = 0 by rw [m1, e]; decide), if_pos (show σM 19 j = 1 by rw [m1, e])]; exact z_Sim.same (put _) rfl rfl
        · rw [e, if_neg (by decide), if_neg (by decide), if_neg (show ¬ σM 19 j = 0 by rw [m1, e]; decide), if_neg (show ¬ σM 19 j = 1 by rw [m1, e]; decide)]; exact z_Sim.same (put _) rfl rfl
      · have h' := zn_out (by omega) ho
        rw [m_in_out (by
          rw [Int32.toInt_toInt64, show (1 : Int32) = nI 1 from rfl, pk_sub_toInt (by omega) (by omega)]
          rcases h' with h' | h'
          · exact Or.inl h'
          · right; omega), z_be]
        have eX : (if y < 0 then some ((2 : Int32), σX) else if y < nI (sz j) then some (0, σX) else some (2, σX)) = some (2, σX) := by
          by_cases hy : y < 0
          · rw [if_pos hy]
          · rw [if_neg hy, if_neg]
            intro hy2
            have a1 := (fa_lt _ _).mp hy2
            rw [nI_toInt (by omega)] at a1
            rcases h' with h' | h'
            · exact hy ((fa_lt _ _).mpr h')
            · omega
        rw [eX, z_be]
        dsimp only
        rw [if_neg (show ¬ (2 : Int32) = 0 by decide), show (-10 : Int32) - 2 = -12 from rfl, if_pos rfl]
        exact z_Sim.same h0 rfl rfl
  · rw [show f_X6_isWithin x 3 σX = _ from x_with_out (m := 3) (by omega) ho, m_sheet_out1 ho]
    exact z_Sim.same h0 rfl rfl
end SI
