/-! ===== text ===== -/
section ST
variable {σ σ' σX σM : z_St} {n k q : Nat} {s sy : z_Sy} {st kp : Nat → Nat} {ln : Nat} {tp : Nat → Nat} {ft tn : Int32} {la : Nat → Int32} {sz : Nat → Nat} {ce : Nat → Nat → Int32} {a : Nat → Nat}
theorem x_I.txt (h : x_I σ n k q s st kp ln tp ft tn la sz ce) (hQ : x_Q σ σ') (h2 : σ' 27 2 = 0) : x_I σ' n k q s st kp 0 tp (σ' 27 3) tn la sz ce := by
  obtain ⟨q1, q2, q3, q4, q5, q7, q8, q9⟩ := h
  have hF := hQ.1
  refine ⟨?_, ?_, ?_, fun t ht => ?_, ⟨h2, fun j hj => absurd hj (by omega), rfl⟩, ?_, ?_, fun t ht => ?_⟩
  · unfold x_S
    rw [hF 4 (by omega), hF (4 + 1) (by omega), hF (4 + 2) (by omega), hF (4 + 3) (by omega), hF (4 + 4) (by omega), hF (4 + 5) (by omega), hF (4 + 6) (by omega)]
    exact q1
  · exact q2.cp (hF _ (by omega)) (hF _ (by omega)) (hF _ (by omega)) (hF _ (by omega)) (hF _ (by omega)) (hF _ (by omega))
  · exact q3.fr (hF _ (by omega)) (hF _ (by omega)) (hF _ (by omega)) (hF _ (by omega))
  · rw [hF _ (by omega)]
    obtain ⟨g1', g2'⟩ := q4 t ht
    refine ⟨g1', fun e1 => ?_⟩
    obtain ⟨u1, u2⟩ := g2' e1
    exact ⟨u1.cp (hF _ (by omega)) (hF _ (by omega)) (hF _ (by omega)) (hF _ (by omega)) (hF _ (by omega)) (hF _ (by omega)), u2.fr (hF _ (by omega)) (hF _ (by omega)) (hF _ (by omega)) (hF _ (by omega))⟩
  · rw [hF 40 (by omega), hF 41 (by omega), hQ.2 6 (by omega), hQ.2 9 (by omega)]; exact q7
  · rw [hF 0 (by omega)]; exact q8
  · rw [hF _ (by omega), hF (65 + 2 * t + 1) (by omega)]; exact q9 t ht
theorem m_I.txt (h : m_I σ n k q s st kp ln tp ft tn la sz ce) (hF : ∀ c, ((1 ≤ c ∧ c < 10) ∨ 17 ≤ c) → σ' c = σ c) (h0 : ∀ j, (j < 13 ∨ 31 < j) → σ' 0 j = σ 0 j) (h25 : σ' 0 25 = 0) : m_I σ' n k q s st kp 0 tp (σ' 0 30) tn la sz ce := by
  obtain ⟨g1, g2, g3, g4, g5, g6⟩ := h
  refine ⟨?_, ?_, ?_, ⟨h25, fun j hj => absurd hj (by omega), rfl⟩, ?_, ?_⟩
  · unfold m_S
    rw [h0 3 (by omega), h0 4 (by omega), h0 5 (by omega), hF 4 (by omega), hF 5 (by omega), hF 6 (by omega), hF 7 (by omega), hF 8 (by omega), hF 9 (by omega)]; exact g1
  · rw [hF 1 (by omega)]; exact g2
  · rw [hF 3 (by omega)]; exact g3
  · rw [h0 37 (by omega)]; exact g5
  · rw [hF 19 (by omega), hF 20 (by omega), hF 21 (by omega)]; exact g6
theorem x_copyS (hS : x_S σ 30 k q sy) (hk : k ≤ 6) (hq : q ≤ 6) : ∃ σ', f_X5_copyFrom 4 30 σ = some (0, σ') ∧ x_S σ' 4 k q sy ∧ (∀ c, (c < 4 ∨ 11 ≤ c) → σ' c = σ c) := by
  unfold f_X5_copyFrom
  simp only [z_bst_eq]
  refine ⟨_, rfl, ⟨?_, ?_, fun i hi => ?_, fun i hi => ?_⟩, ?_⟩
  · simp (disch := omega) only [z_put_eq, z_put_ne, z_row_ne, z_upd_eq, z_upd_ne]; exact hS.1
  · simp (disch := omega) only [z_put_eq, z_put_ne, z_row_ne, z_upd_eq, z_upd_ne]; exact hS.2.1
  · simp (disch := omega) only [z_put_ne, z_row_ne, z_row_eq, zc_in]; exact hS.2.2.1 i hi
  · simp (disch := omega) only [z_put_ne, z_row_ne, z_row_eq, zc_in]; exact hS.2.2.2 i hi
  · intro c hc
    simp (disch := omega) only [z_put_ne, z_row_ne]
theorem x_imgs (x1 : Int32) : f_X6_text_56 200 x1 0 σ = some (x1, z_put (z_put σ 43 0 0) 54 0 0) := by
  rw [show (200 : Nat) = 199 + 1 from rfl, f_X6_text_56, if_neg (by decide), show (0 : Int32) = nI 0 from rfl, z_gd_nI (by omega) (by omega), zn_cl (by omega), z_bst_eq, show nI 0 + 1 = nI 1 from rfl, show (199 : Nat) = 198 + 1 from rfl, f_X6_text_56, if_neg (by decide), z_gd_nI (by omega) (by omega), zn_cl (by omega), z_bst_eq, show nI 1 + 1 = nI 2 from rfl, show (198 : Nat) = 197 + 1 from rfl, f_X6_text_56, if_pos (by decide)]
  rfl
theorem sim_text (h : z_Rel σX σM) : z_Sim (f_X6_text σX) (f_X7_text σM) := by
  obtain ⟨n, k, q, s, st, kp, ln, tp, ft, tn, la, sz, ce, hv, hx, hm⟩ := h
  have hln : ln ≤ 160 := hv.2.2.2.1
  have htp := hv.2.2.2.2.1
  -- the class begins
  obtain ⟨σ0, b1, b2, b3, b4, b5, b6⟩ : ∃ σ0, f_X3_begin σX = some (0, σ0) ∧ x_Q σX σ0 ∧ σ0 27 2 = σX 27 2 ∧ σ0 27 3 = 0 ∧ σ0 27 7 = nI 0 ∧ d_X 0 0 0 s d_a0 0 0 σ0 := by
    unfold f_X3_begin
    simp only [z_bst_eq]
    refine ⟨_, rfl, ?_, ?_, ?_, ?_, ⟨?_, ?_, fun i hi => absurd hi (by omega), fun i hi => absurd hi (by omega)⟩, ⟨?_, fun i hi => absurd hi (by omega), fun i hi => absurd hi (by omega), ?_, ?_, ?_, ?_⟩, fun p hp => ?_, ?_, ?_⟩
    · exact ((((((((x_Q.rf.put (by omega) (by omega)).put (by omega) (by omega)).put (by omega) (by omega)).put (by omega) (by omega)).put (by omega) (by omega)).put (by omega) (by omega)).put (by omega) (by omega)).put (by omega) (by omega)).put (by omega) (by omega)
    · simp (disch := omega) only [z_put_eq, z_put_ne, z_upd_ne, z_upd_eq]
    · simp (disch := omega) only [z_put_eq, z_put_ne, z_upd_ne, z_upd_eq]
    · simp (disch := omega) only [z_put_eq, z_put_ne, z_upd_ne, z_upd_eq]; rfl
    · simp (disch := omega) only [z_put_eq, z_put_ne, z_upd_ne, z_upd_eq]; rfl
    · simp (disch := omega) only [z_put_eq, z_put_ne, z_upd_ne, z_upd_eq]; rfl
    · simp (disch := omega) only [z_put_eq, z_put_ne, z_upd_ne, z_upd_eq]; rfl
    · simp (disch := omega) only [z_put_eq, z_put_ne, z_upd_ne, z_upd_eq]; exact hx.2.2.2.2.2.1.2.1
    · simp (disch := omega) only [z_put_eq, z_put_ne, z_upd_ne, z_upd_eq]; rfl
    · simp (disch := omega) only [z_put_eq, z_put_ne, z_upd_ne, z_upd_eq]; rfl
    · simp (disch := omega) only [z_put_eq, z_put_ne, z_upd_ne, z_upd_eq]; exact hx.2.2.2.2.2.1.2.2
    · simp (disch := omega) only [z_put_ne]; exact hx.2.2.2.2.2.1.1 p hp
    · simp (disch := omega) only [z_put_eq, z_put_ne, z_upd_ne, z_upd_eq]; rfl
    · simp (disch := omega) only [z_put_eq, z_put_ne, z_upd_ne, z_upd_eq]; rfl
  have hTX : x_T σ0 tp ln := ⟨hln, htp, by rw [b3]; exact hx.2.2.2.2.1.1, fun j hj => by rw [b2.1 28 (by omega)]; exact hx.2.2.2.2.1.2.1 j hj⟩
  -- the reference begins
  obtain ⟨τ1, m1, m2, m3, m4, m5⟩ := m_fd 45 0 200 (z_put (z_put σM 0 30 0) 0 26 0) (by omega) (by omega) (fun j hj => absurd hj (by omega))
  have Q1 : m_Q σM τ1 := ⟨fun c hc => by rw [m2 c (by omega) (by omega), z_put_ne (by omega), z_put_ne (by omega)], fun j hj => by rw [m5 j (by omega), z_put_eq, z_upd_ne (by omega), z_put_eq, z_upd_ne (by omega)]⟩
  have hTM : m_T τ1 tp ln := ⟨hln, htp, by rw [Q1.2 25 (by omega)]; exact hm.2.2.2.1.1, fun j hj => by rw [Q1.1 17 (by omega)]; exact hm.2.2.2.1.2.1 j hj⟩
  have t26 : τ1 0 26 = nI 0 := by rw [m5 26 (by omega), z_put_eq, z_upd_eq]; rfl
  have t30 : τ1 0 30 = 0 := by rw [m5 30 (by omega), z_put_eq, z_upd_ne (by omega), z_put_eq, z_upd_eq]
  obtain ⟨τ2, n1, n2, n3⟩ := m_next hTM (Nat.zero_le ln) t26 t30
  have dM1 : d_M 0 0 0 s d_a0 0 0 (-4) τ1 := ⟨m4.1, m4.2.1, m4.2.2.1, m4.2.2.2.1, by rw [m4.2.2.2.2]; rfl, m3, fun i hi => absurd hi (by omega), fun i hi => absurd hi (by omega)⟩
  have dV1 : d_V 0 0 0 s d_a0 0 0 (-4) := by
    refine ⟨by omega, by omega, by omega, by omega, by omega, fun i hi => absurd hi (by omega), fun i hi => absurd hi (by omega), fun i hi => absurd hi (by omega), fun p hp => ?_, by decide, by omega, fun i hi => absurd hi (by omega), fun i hi => absurd hi (by omega), Or.inl (by omega)⟩
    unfold d_a0
    rw [if_neg (by omega), if_neg (by omega), if_neg (by omega), if_neg (by omega)]
    exact ⟨rfl, rfl⟩
  obtain ⟨f, pl, l, l', σX', σM', r1, r2, r3, r4, r5, r6, r7, r8, r9, r10⟩ := z_tloop (tp := tp) (ln := ln) (ln + 1) 0 200 200 0 0 σ0 τ2 0 0 0 s d_a0 0 0 (-4) (by omega) (by omega) (by omega) (by omega) (by omega) hTX (hTM.fr n2) b4 b5 n3 dV1 b6 (dM1.fr n2)
  have QX : x_Q σX σX' := b2.tr r3
  have QM : m_Q σM σM' := (Q1.tr n2.qq).tr r5
  unfold f_X6_text f_X3_readTape f_X7_text f_X7_firstDraft
  rw [b1, z_be, z_bst_eq, z_bst_eq, show f_X7_firstDraft_2 200 0 (z_put (z_put σM 0 30 0) 0 26 0) = _ from m1, z_be]
  dsimp only
  rw [n1, z_be]
  dsimp only
  rw [show f_X3_readTape_8 200 0 0 σ0 = _ from r1, show f_X7_text_20 200 0 τ2 = _ from r2]
  -- a text that is refused
  have refuse : ∀ (f pl : Nat) (τX τM : z_St) (L L' : Int32), f ≠ 0 → f ≤ 6 → x_Q σX τX → m_Q σM τM → τX 27 3 = nI f → τM 0 30 = nI f → τX 27 6 = nI pl → τM 0 31 = nI pl → z_Sim ((f_X3_readTape_103 L τX).bind fun r1 => (if (r1.2 27 3) = (0 : Int32) then (f_X5_copyFrom 4 30 r1.2).bind fun r2 => (f_X1_copyFrom 11 37 r2.2).bind fun r3 => z_bst (z_put r3.2 23 0 (0 : Int32)) fun s4 => f_X6_text_56 200 r1.1 (0 : Int32) s4 else some (r1.1, r1.2))) (f_X7_text_73 L' τM) := by
    intro f pl τX τM L L' hf hf6 hQX hQM e3 e30 e6 e31
    unfold f_X3_readTape_103 f_X7_text_73
    rw [z_bst_eq, z_bst_eq]
    have c3 : z_put τX 27 2 0 27 3 = nI f := by rw [z_put_eq, z_upd_ne (by omega), e3]
    have c30 : z_put τM 0 25 0 0 30 = nI f := by rw [z_put_eq, z_upd_ne (by omega), e30]
    have n3 : ¬ z_put τX 27 2 0 27 3 = 0 := by rw [c3]; exact nI_ne0 (by omega) (by omega)
    rw [if_neg n3, z_be]
    dsimp only
    rw [if_neg n3, if_neg (show ¬ z_put τM 0 25 0 0 30 ≤ 0 by rw [c30]; exact nI_ge (a := 0) (by omega) (by omega))]
    refine z_Sim.same (r := -10 - nI pl) ?_ (by rw [z_put_eq, z_upd_ne (by omega), e6]) (by rw [z_put_eq, z_upd_ne (by omega), e31])
    refine ⟨n, k, q, s, st, kp, 0, tp, nI f, tn, la, sz, ce, ?_, ?_, ?_⟩
    · obtain ⟨v1, v2, v3, v4, v5, v6⟩ := hv
      exact ⟨v1, v2, v3, by omega, fun j hj => absurd hj (by omega), v6⟩
    · have := hx.txt (σ' := z_put τX 27 2 0) (hQX.put (by omega) (by omega)) (by rw [z_put_eq, z_upd_eq])
      rw [c3] at this; exact this
    · have := hm.txt (σ' := z_put τM 0 25 0) (fun c hc => by rw [z_put_ne (by omega)]; exact hQM.1 c hc) (fun j hj => by rw [z_put_eq, z_upd_ne (by omega)]; exact hQM.2 j (by omega)) (by rw [z_put_eq, z_upd_eq])
      rw [c30] at this; exact this
  unfold f_X3_readTape_65 f_X7_text_44
  by_cases hf : f = 0
  · subst hf
    obtain ⟨el, e27, n', k', q', sy, a, hI, hC, H, dV, dX, dM⟩ := r10 rfl
    subst el
    have e3 : σX' 27 3 = 0 := r7
    have e30 : σM' 0 30 = 0 := r8
    obtain ⟨v1, v2, v3, v4, v5, v6, v7, v8, v9, v10, v11, v12, v13, v14⟩ := dV
    rw [if_pos e3, if_pos e30, dX.2.1.1, dM.1]
    obtain ⟨kn1, kn0⟩ := x_kn2 dX.1 v2 v3 (fun j hj => (v6 j hj).1) (fun j hj => (v7 j hj).1) v1 k' 0 200 (by omega) (by omega)
    have kn1' : (∀ i, 0 ≤ i → i < k' → sy 0 i < n') ∧ (∀ i, 0 ≤ i → i < q' → sy 3 i < n') → f_X5_knowsAllOf 30 (nI n') σX' = some (1, σX') := kn1
    have kn0' : ¬ ((∀ i, 0 ≤ i → i < k' → sy 0 i < n') ∧ (∀ i, 0 ≤ i → i < q' → sy 3 i < n')) → f_X5_knowsAllOf 30 (nI n') σX' = some (0, σX') := kn0
    by_cases c : (∀ i, 0 ≤ i → i < k' → sy 0 i < n') ∧ (∀ i, 0 ≤ i → i < q' → sy 3 i < n')
    · have hH : H < n' := by
        rcases v14 with h | ⟨i, hi, h⟩ | ⟨j, hj, h⟩
        · omega
        · have := c.1 i (by omega) hi; omega
        · have := c.2 j (by omega) hj; omega
      have nH : ¬ nI n' ≤ σM' 0 23 := fun q => by
        have := (fa_le _ _).mp q
        rw [nI_toInt (by omega), dM.2.2.2.2.1] at this; omega
      rw [kn1' c, if_neg nH, m_needs1, z_be]
      simp only [z_be]
      rw [if_neg (show ¬ (1 : Int32) = 0 by decide)]
      unfold f_X3_readTape_103 f_X7_text_73
      rw [z_bst_eq, z_bst_eq]
      have c3 : z_put σX' 27 2 0 27 3 = 0 := by rw [z_put_eq, z_upd_ne (by omega), e3]
      have c30 : z_put σM' 0 25 0 0 30 = 0 := by rw [z_put_eq, z_upd_ne (by omega), e30]
      rw [if_pos c3, z_be]
      dsimp only
      rw [if_pos c3, if_pos (show z_put σM' 0 25 0 0 30 ≤ 0 by rw [c30]; decide)]
      have dX2 : x_S (z_put σX' 27 2 0) 30 k' q' sy := by
        unfold x_S; simp (disch := omega) only [z_put_ne]; exact dX.1
      have dX3 : x_L (z_put σX' 27 2 0) 37 n' k' a := by
        unfold x_L; simp (disch := omega) only [z_put_ne]; exact dX.2.1
      have dM2 : d_M n' k' q' sy a hI hC H (z_put σM' 0 25 0) := by
        obtain ⟨w1, w2, w3, w4, w5, w6, w7, w8⟩ := dM
        refine ⟨?_, ?_, ?_, ?_, ?_, ?_, ?_, ?_⟩
        · rw [z_put_eq, z_upd_ne (by omega)]; exact w1
        · rw [z_put_eq, z_upd_ne (by omega)]; exact w2
        · rw [z_put_eq, z_upd_ne (by omega)]; exact w3
        · rw [z_put_eq, z_upd_ne (by omega)]; exact w4
        · rw [z_put_eq, z_upd_ne (by omega)]; exact w5
        · rw [z_put_ne (by omega)]; exact w6
        · rw [z_put_ne (by omega), z_put_ne (by omega), z_put_ne (by omega)]; exact w7
        · rw [z_put_ne (by omega), z_put_ne (by omega), z_put_ne (by omega)]; exact w8
      obtain ⟨σ2, i1, i2, i3⟩ := x_copyS dX2 v2 v3
      have dX4 : x_L σ2 37 n' k' a := dX3.cp (i3 _ (by omega)) (i3 _ (by omega)) (i3 _ (by omega)) (i3 _ (by omega)) (i3 _ (by omega)) (i3 _ (by omega))
      obtain ⟨σ3, j1, j2, j3⟩ := x_copy (b := 11) dX4 v1 v2 (by omega)
      obtain ⟨σ4, o1, o2, o3, o4, o5, o6, o7⟩ := m_keep v2 v3 dM2
      rw [i1, z_be]
      dsimp only
      rw [j1, z_be]
      dsimp only
      rw [z_bst_eq, x_imgs, o1, z_be]
      dsimp only
      have fr : ∀ c, (c < 4 ∨ (17 ≤ c ∧ c ≠ 23 ∧ c ≠ 43 ∧ c ≠ 54)) → z_put (z_put (z_put σ3 23 0 0) 43 0 0) 54 0 0 c = z_put σX' 27 2 0 c := fun c hc => by
        rw [z_put_ne (by omega), z_put_ne (by omega), z_put_ne (by omega), j3 c (by omega), i3 c (by omega)]
      have stl : ∀ j, j < 45 → (fun j => if j < 45 then a j else st j) j = a j := fun j hj => by show (if j < 45 then a j else st j) = a j; rw [if_pos hj]
      refine ⟨_, _, _, rfl, rfl, n', k', q', sy, (fun j => if j < 45 then a j else st j), (fun _ => 0), 0, tp, 0, tn, la, sz, ce, ?_, ?_, ?_⟩
      · refine ⟨⟨v1, v2, v3, fun i hi => ⟨c.1 i (by omega) hi, (v6 i hi).2.1, (v6 i hi).2.2.1⟩, fun j hj => ⟨c.2 j (by omega) hj, (v7 j hj).2⟩⟩, ?_, fun i hi => ⟨Nat.zero_le _, fun h => absurd (show (0 : Nat) = 1 from h) (by omega)⟩, by omega, fun j hj => absurd hj (by omega), hv.2.2.2.2.2⟩
        obtain ⟨y1, y2, y3, y4, y5⟩ := v10
        have hG : w_G n' k' a := by
          refine ⟨⟨fun p hp => ?_, fun i hi => (v6 i hi).2.2.2, by omega, y2, y3, by omega⟩, by omega, by rw [y1]; exact Nat.two_pow_pos k', by omega, fun j hj => absurd hj (by omega)⟩
          have g1 := v8 p hp
          have g2 := v9 p (by omega)
          omega
        exact hG.cong' v1 v2 stl
      · refine ⟨?_, ?_, ⟨?_, fun j hj => ?_⟩, fun i hi => ⟨?_, fun h => absurd (show (0 : Nat) = 1 from h) (by omega)⟩, ⟨?_, fun j hj => absurd hj (by omega), ?_⟩, ⟨fun p hp => ?_, ?_, ?_⟩, ?_, fun j hj => ?_⟩
        · unfold x_S
          simp (disch := omega) only [z_put_ne]
          rw [j3 4 (by omega), j3 (4 + 1) (by omega), j3 (4 + 2) (by omega), j3 (4 + 3) (by omega), j3 (4 + 4) (by omega), j3 (4 + 5) (by omega), j3 (4 + 6) (by omega)]
          exact i2
        · refine (j2.cp ?_ ?_ ?_ ?_ ?_ ?_).cong v1 v2 (fun j hj => stl j (by omega))
          all_goals simp (disch := omega) only [z_put_ne]
        · simp (disch := omega) only [z_put_ne, z_put_eq, z_upd_eq]
          rw [if_pos (show 26 < 45 by omega), v10.2.2.2.2]; rfl
        · rw [stl 26 (by omega), v10.2.2.2.2] at hj; exact absurd hj (by omega)
        · have : i = 0 ∨ i = 1 := by omega
          rcases this with rfl | rfl
          · simp (disch := omega) only [z_put_ne, z_put_eq, z_upd_eq]; rfl
          · simp (disch := omega) only [z_put_ne, z_put_eq, z_upd_eq]; rfl
        · rw [fr 27 (by omega), z_put_eq, z_upd_eq]; rfl
        · rw [fr 27 (by omega)]; exact c3
        · rw [fr 40 (by omega), fr 41 (by omega), z_put_ne (by omega), z_put_ne (by omega), QX.1 40 (by omega), QX.1 41 (by omega)]
          exact hx.2.2.2.2.2.1.1 p hp
        · rw [fr 37 (by omega), z_put_ne (by omega), QX.2 6 (by omega)]; exact hx.2.2.2.2.2.1.2.1
        · rw [fr 37 (by omega), z_put_ne (by omega), QX.2 9 (by omega)]; exact hx.2.2.2.2.2.1.2.2
        · rw [fr 0 (by omega), z_put_ne (by omega), QX.1 0 (by omega)]; exact hx.2.2.2.2.2.2.1
        · rw [fr _ (by omega), fr (65 + 2 * j + 1) (by omega), z_put_ne (by omega), z_put_ne (by omega), QX.1 _ (by omega), QX.1 (65 + 2 * j + 1) (by omega)]
          exact hx.2.2.2.2.2.2.2 j hj
      · refine ⟨o2, fun j hj => ?_, fun i hi => ?_, ⟨?_, fun j hj => absurd hj (by omega), ?_⟩, ?_, ?_⟩
        · by_cases e : j < 45
          · rw [o3 j e, stl j e]
          · rw [o4 j (by omega), z_put_ne (by omega), QM.1 1 (by omega)]
            show _ = nI (if j < 45 then a j else st j)
            rw [if_neg e]; exact hm.2.1 j hj
        · have : i = 0 ∨ i = 1 := by omega
          rcases this with rfl | rfl
          · exact o5.1
          · exact o5.2
        · rw [o7 25 (by omega), z_put_eq, z_upd_eq]; rfl
        · rw [o7 30 (by omega)]; exact c30
        · rw [o7 37 (by omega), z_put_eq, z_upd_ne (by omega), QM.2 37 (by omega)]; exact hm.2.2.2.2.1
        · rw [o6 19 (by omega), o6 20 (by omega), o6 21 (by omega), z_put_ne (by omega), z_put_ne (by omega), z_put_ne (by omega), QM.1 19 (by omega), QM.1 20 (by omega), QM.1 21 (by omega)]
          exact hm.2.2.2.2.2
    · have hH : (n' : Int) ≤ H := by
        by_cases h : (n' : Int) ≤ H
        · exact h
        · refine absurd ⟨fun i _ hi => ?_, fun j _ hj => ?_⟩ c
          · have := v12 i hi; omega
          · have := v13 j hj; omega
      have nH : nI n' ≤ σM' 0 23 := (fa_le _ _).mpr (by rw [nI_toInt (by omega), dM.2.2.2.2.1]; exact hH)
      rw [kn0' c, if_pos nH, m_needs0 6 e30, z_be]
      simp only [z_be]
      rw [if_pos trivial, z_bst_eq, z_bst_eq]
      refine refuse 6 ln _ _ l l (by omega) (by omega) ((QX.put (by omega) (by omega)).put (by omega) (by omega)) (QM.tr ((m_N.rf.put (by omega) (by omega)).put (by omega) (by omega)).qq) ?_ ?_ ?_ ?_
      · rw [z_put_eq, z_upd_ne (by omega), z_put_eq, z_upd_eq]; rfl
      · rw [z_put_eq, z_upd_ne (by omega), z_put_eq, z_upd_eq]; rfl
      · rw [z_put_eq, z_upd_eq, z_put_eq, z_upd_ne (by omega), r4]; exact hTX.2.2.1
      · rw [z_put_eq, z_upd_eq]; exact e27
  · rw [if_neg (show ¬ σX' 27 3 = 0 by rw [r7]; exact nI_ne0 (by omega) (by omega)), if_neg (show ¬ σM' 0 30 = 0 by rw [r8]; exact nI_ne0 (by omega) (by omega))]
    exact refuse f pl σX' σM' l l' hf r6 QX QM r7 r8 (r9 hf).1 (r9 hf).2
end ST
