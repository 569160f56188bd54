/-! ===== save, fits ===== -/
section SF
variable {σ σX σM : z_St} {n k q B : Nat} {s : z_Sy} {st kp : Nat → Nat} {ln : Nat} {tp : Nat → Nat} {ft tn : Int32} {la : Nat → Int32} {sz : Nat → Nat} {ce : Nat → Nat → Int32} {a : Nat → Nat}
theorem z_save (hv : v_I n k q s st kp ln tp la sz) {p : Nat} (hp : p < n) : ∀ (m d F F' l : Nat) (fd : Int32) (σX σM : z_St), 2 ^ k = d + m → m < F → m < F' → x_I σX n k q s st kp ln tp ft tn la sz ce → m_I σM n k q s st kp ln tp ft tn la sz ce → ((fd = -4 ∧ l = 1000000) ∨ ∃ f, fd = nI f ∧ f < d ∧ l = w_bc f) → z_Sim (f_X6_save_15 F (nI p) fd (nI d) σX) (f_X7_save_20 F' (nI p) (nI l) fd (nI d) σM) := by
  have hk := hv.1.2.1
  have hn := hv.1.1
  have hG := hv.2.1
  have h99 := hG.2.1
  have h64 : 2 ^ k ≤ 2 ^ 6 := Nat.pow_le_pow_right (by omega) hk
  have h1 : 1 ≤ 2 ^ k := Nat.one_le_two_pow
  have hb6 : ∀ d, w_bc d ≤ 6 := fun d => w_br_le d 0 6
  intro m
  induction m with
  | zero =>
    intro d F F' l fd σX σM hmm hF hF' hx hm iv
    obtain ⟨F, rfl⟩ : ∃ G, F = G + 1 := ⟨F - 1, by omega⟩
    obtain ⟨F', rfl⟩ : ∃ G, F' = G + 1 := ⟨F' - 1, by omega⟩
    have h0 : z_Rel σX σM := ⟨n, k, q, s, st, kp, ln, tp, ft, tn, la, sz, ce, hv, hx, hm⟩
    rw [f_X6_save_15, f_X7_save_20, x_all hk hx.1.1, hm.1.2.1, z_shl1 k (by omega)]
    simp only [z_be]
    rw [if_pos (show nI (2 ^ k - 1) < nI d from nI_lt (by omega) (by omega)), if_pos (show nI (2 ^ k) ≤ nI d from nI_le (by omega) (by omega))]
    exact z_Sim.same h0 rfl rfl
  | succ m ih =>
    intro d F F' l fd σX σM hmm hF hF' hx hm iv
    obtain ⟨F, rfl⟩ : ∃ G, F = G + 1 := ⟨F - 1, by omega⟩
    obtain ⟨F', rfl⟩ : ∃ G, F' = G + 1 := ⟨F' - 1, by omega⟩
    have ed : nI d + 1 = nI (d + 1) := nI_1 d
    have c3 := hb6 d
    rw [f_X6_save_15, f_X7_save_20, x_all hk hx.1.1, hm.1.2.1, z_shl1 k (by omega)]
    simp only [z_be]
    rw [if_neg (show ¬ nI (2 ^ k - 1) < nI d from nI_nlt (by omega) (by omega)), if_neg (show ¬ nI (2 ^ k) ≤ nI d from nI_ge (by omega) (by omega)), ed, x_past hv.1 hG.1 hx.1 hx.2.1.2.2.2.2.2.2 hx.2.1.2.2.2.1 (by omega), m_plan hv.1 hG.1 hm.1 hm.2.1 (by omega)]
    simp only [z_be]
    have iv' : (fd = -4 ∧ l = 1000000) ∨ ∃ f, fd = nI f ∧ f < d + 1 ∧ l = w_bc f := by
      rcases iv with h | ⟨f, e1, e2, e3⟩
      · exact Or.inl h
      · exact Or.inr ⟨f, e1, by omega, e3⟩
    by_cases hpl : w_pq s st d 0 k = true
    · rw [if_pos hpl, z_f1, z_f1, m_cnt (by omega)]
      simp only [z_be, z_t1, if_false, if_true]
      -- both try the plan
      have go : w_bc d < l → z_Sim (f_X6_save_45 (fun x1 x2 x3 σ => f_X6_save_15 F x1 x2 x3 σ) (nI p) fd (nI d) σX) (if nI l ≤ nI (w_bc d) then f_X7_save_20 F' (nI p) (nI l) fd (nI (d + 1)) σM else (f_X7_startsBy (nI d) σM).bind fun r4 => (f_X7_weeksLeft r4.2).bind fun r5 => (f_X7_weeksGo r5.1 r5.2).bind fun r6 => (f_X7_of (nI p) (3 : Int32) r6.2).bind fun r7 => z_gd (((4 : Int32) * nI p) + (3 : Int32)) 135 ((if r7.1 = (r7.2 1 (((4 : Int32) * nI p) + (3 : Int32)).toNatClampNeg) then f_X7_save_100 (fun x1 x2 x3 x4 σ => f_X7_save_20 F' x1 x2 x3 x4 σ) (nI p) (nI l) (nI d) (1 : Int32) (nI d) r7.2 else f_X7_save_100 (fun x1 x2 x3 x4 σ => f_X7_save_20 F' x1 x2 x3 x4 σ) (nI p) (nI l) (nI d) (0 : Int32) fd r7.2))) := by
        intro hlt
        have hl : l ≤ 1000000 := by
          rcases iv with ⟨-, e⟩ | ⟨f, -, -, e⟩
          · omega
          · have := hb6 f; omega
        rw [if_neg (show ¬ nI l ≤ nI (w_bc d) from nI_ge hlt (by omega))]
        obtain ⟨σ1, σ2, σ3, g1, g2, g3, -, g5, hT⟩ := z_plan hv hx hm (d := d) (by omega)
        obtain ⟨hx1, hm1, hL1, hA1⟩ := hT
        unfold f_X6_save_45
        rw [g1, g2]
        simp only [z_be]
        rw [g3]
        simp only [z_be]
        rw [g5]
        simp only [z_be]
        rw [show f_X7_of (nI p) 3 σ3 = _ from m_of (w := 3) hA1 (by omega)]
        simp only [z_be]
        have e4 := (hL1.2.1 p hp).2.2.2
        have f4 := (hx1.2.1.2.1 p hp).2.2.2
        rw [show ((4 : Int32) * nI p) + (3 : Int32) = nI (4 * p + 3) by rw [show (4 : Int32) = nI 4 from rfl, show (3 : Int32) = nI 3 from rfl, zn_mul, zn_add]]
        simp (disch := omega) only [z_gd_nI, zn_cl, e4, f4, hm1.2.1, ed]
        refine z_Sim.ite (fun _ => ?_) (fun _ => ?_)
        · unfold f_X7_save_100
          rw [if_neg (by decide), m_cnt (by omega)]
          simp only [z_be, ed]
          exact ih (d + 1) F F' (w_bc d) (nI d) σ1 σ3 (by omega) (by omega) (by omega) hx1 hm1 (Or.inr ⟨d, rfl, by omega, rfl⟩)
        · unfold f_X7_save_100
          rw [if_pos rfl, ed]
          exact ih (d + 1) F F' l fd σ1 σ3 (by omega) (by omega) (by omega) hx1 hm1 iv'
      rcases iv with ⟨e1, e2⟩ | ⟨f, e1, e2, e3⟩
      · rw [if_pos e1]
        exact go (by omega)
      · have c4 := hb6 f
        rw [if_neg (show ¬ fd = -4 by rw [e1]; intro e; have := congrArg Int32.toInt e; rw [nI_toInt (by omega), show (-4 : Int32).toInt = -4 from rfl] at this; omega)]
        have hsm : f_X6_isSmaller (nI d) fd σX = some (if w_bc d < w_bc f ∨ (w_bc d = w_bc f ∧ d < f) then 1 else 0, σX) := by rw [e1]; exact x_smaller (by omega) (by omega)
        rw [hsm]
        simp only [z_be]
        by_cases hc : w_bc d < w_bc f ∨ (w_bc d = w_bc f ∧ d < f)
        · rw [if_pos hc, if_neg (by decide)]
          exact go (by omega)
        · rw [if_neg hc, if_pos rfl, if_pos (show nI l ≤ nI (w_bc d) from nI_le (by omega) (by omega))]
          exact ih (d + 1) F F' l fd σX σM (by omega) (by omega) (by omega) hx hm (Or.inr ⟨f, e1, by omega, e3⟩)
    · rw [if_neg hpl, if_pos rfl, if_pos rfl]
      exact ih (d + 1) F F' l fd σX σM (by omega) (by omega) (by omega) hx hm iv'
theorem sim_save (h : z_Rel σX σM) (x : Int32) : z_Sim (f_X6_save x σX) (f_X7_save x σM) := by
  have h0 := h
  obtain ⟨n, k, q, s, st, kp, ln, tp, ft, tn, la, sz, ce, hv, hx, hm⟩ := h
  have hn := hv.1.1
  have hk := hv.1.2.1
  have h64 : 2 ^ k ≤ 2 ^ 6 := Nat.pow_le_pow_right (by omega) hk
  unfold f_X6_save f_X7_save
  rcases zn_rng x (m := n) (by omega) with ⟨p, hp, rfl⟩ | ho
  · rw [x_one_in hx.2.1.1 hn hp, m_one_in hm.1.1 hn hp, z_be, z_be]
    dsimp only
    rw [z_f1, z_f1, show (0 : Int32) = nI 0 from rfl, show (1000000 : Int32) = nI 1000000 from rfl]
    exact z_save hv hp (2 ^ k) 0 200 200 1000000 (-4) σX σM (by omega) (by omega) (by omega) hx hm (Or.inl ⟨rfl, rfl⟩)
  · rw [x_one_out hx.2.1.1 ho, m_one_out hm.1.1 hn ho]
    exact z_Sim.same h0 rfl rfl
/-! what was noted -/
def w_ag (st : Nat → Nat) (wk f : Nat) : Nat → Nat → Bool
  | _, 0 => true
  | j, m + 1 => (!decide (st (28 + 3 * j) = wk) || decide (f / 2 ^ st (27 + 3 * j) % 2 = st (29 + 3 * j))) && w_ag st wk f (j + 1) m
theorem x_agree_loop (hn : n ≤ 4) (hN : w_N n st) (h : x_N σ 23 st) {wk f : Nat} (hw : wk ≤ 200) (hf : f < 64) : ∀ (m j F : Nat), st 26 = j + m → m < F → f_X2_agree_2 23 F (nI wk) (nI f) (nI j) σ = some (if w_ag st wk f j m = true then 1 else 0, σ) := by
  have h6 := hN.1
  intro m
  induction m with
  | zero =>
    intro j F hm hF
    obtain ⟨F, rfl⟩ : ∃ G, F = G + 1 := ⟨F - 1, by omega⟩
    rw [f_X2_agree_2, h.1, if_pos (show nI (st 26) ≤ nI j from nI_le (by omega) (by omega))]; rfl
  | succ m ih =>
    intro j F hm hF
    obtain ⟨F, rfl⟩ : ∃ G, F = G + 1 := ⟨F - 1, by omega⟩
    obtain ⟨e1, e2, e3⟩ := h.2 j (by omega)
    obtain ⟨t1, t2, t3⟩ := hN.2 j (by omega)
    have ej : nI j + 1 = nI (j + 1) := nI_1 j
    rw [f_X2_agree_2, h.1, if_neg (show ¬ nI (st 26) ≤ nI j from nI_ge (by omega) (by omega))]
    simp (disch := omega) only [z_gd_nI, zn_cl, e1, e2, e3]
    rw [z_bit f hf _ (by omega), ej, ih (j + 1) F (by omega) (by omega), w_ag]
    simp (disch := omega) only [zn_eq]
    by_cases h1 : st (28 + 3 * j) = wk
    · rw [if_pos h1]
      by_cases h2 : f / 2 ^ st (27 + 3 * j) % 2 = st (29 + 3 * j)
      · rw [if_pos h2]; simp only [h1, h2, decide_true, Bool.or_true, Bool.true_and]
      · rw [if_neg h2]; simp only [h1, h2, decide_true, Bool.not_true, decide_false, Bool.or_self, Bool.false_and, Bool.false_eq_true, if_false]
    · rw [if_neg h1]; simp only [h1, decide_false, Bool.not_false, Bool.true_or, Bool.true_and]
theorem m_agree_loop (hn : n ≤ 4) (hN : w_N n st) (hst : ∀ j, j < 135 → σ 1 j = nI (st j)) {wk f t : Nat} (hw : wk ≤ 200) (hf : f < 64) (h32 : σ 0 32 = nI f) (K : Int32 → Int32 → z_St → Option (Int32 × z_St)) : ∀ (m j F : Nat) (c : Bool), st 26 = j + m → m < F → f_X7_fitsTo_41 K F (if c = true then 1 else 0) (nI t) (nI wk) (nI j) σ = K (if (c && w_ag st wk f j m) = true then 1 else 0) (nI (t + 1)) σ := by
  have h6 := hN.1
  intro m
  induction m with
  | zero =>
    intro j F c hm hF
    obtain ⟨F, rfl⟩ : ∃ G, F = G + 1 := ⟨F - 1, by omega⟩
    rw [f_X7_fitsTo_41, hst 26 (by omega), if_pos (show nI (st 26) ≤ nI j from nI_le (by omega) (by omega)), show nI t + 1 = nI (t + 1) from nI_1 t]
    cases c <;> rfl
  | succ m ih =>
    intro j F c hm hF
    obtain ⟨F, rfl⟩ : ∃ G, F = G + 1 := ⟨F - 1, by omega⟩
    obtain ⟨t1, t2, t3⟩ := hN.2 j (by omega)
    have ej : nI j + 1 = nI (j + 1) := nI_1 j
    have h0 := ih (j + 1) F false (by omega) (by omega)
    have h1 := ih (j + 1) F true (by omega) (by omega)
    rw [if_neg (by decide)] at h0
    rw [if_pos rfl] at h1
    rw [f_X7_fitsTo_41, hst 26 (by omega), if_neg (show ¬ nI (st 26) ≤ nI j from nI_ge (by omega) (by omega)), z_bi_eq]
    rw [show (27 : Int32) + (3 : Int32) * nI j = nI (27 + 3 * j) by rw [show (27 : Int32) = nI 27 from rfl, show (3 : Int32) = nI 3 from rfl, zn_mul, zn_add], show nI (27 + 3 * j) + (1 : Int32) = nI (28 + 3 * j) by rw [show (1 : Int32) = nI 1 from rfl, zn_add]; congr 1; omega, show nI (27 + 3 * j) + (2 : Int32) = nI (29 + 3 * j) by rw [show (2 : Int32) = nI 2 from rfl, zn_add]; congr 1; omega]
    simp (disch := omega) only [z_gd_nI, zn_cl, hst, h32]
    rw [z_bit f hf _ (by omega), ej, h0, h1, w_ag]
    simp (disch := omega) only [zn_eq]
    cases c with
    | false => rfl
    | true =>
      rw [if_neg (by decide)]
      by_cases h2 : st (28 + 3 * j) = wk
      · rw [if_pos h2]
        by_cases h3 : f / 2 ^ st (27 + 3 * j) % 2 = st (29 + 3 * j)
        · rw [if_pos h3]; simp only [h2, h3, decide_true, Bool.or_true, Bool.true_and]
        · rw [if_neg h3]; simp only [h2, h3, decide_true, Bool.not_true, decide_false, Bool.or_self, Bool.false_and, Bool.and_false]
      · rw [if_neg h2]; simp only [h2, decide_false, Bool.not_false, Bool.true_or, Bool.true_and]
theorem z_fit_loop (hv : v_I n k q s st kp ln tp la sz) {d : Nat} (hd : d < 64) : ∀ (m t F F' : Nat) (σX σM : z_St), 10 - st 25 = t + m → m < F → m + 1 < F' → z_Tr σX σM n k q s st kp ln tp ft tn la sz ce (w_ws s n k q (z_nu st 22 d) t) → ∃ (c : Bool) (σX' σM' : z_St), f_X6_isAsNoted_27 F (nI (st 25 + t)) σX = some (if c = true then 1 else 0, σX') ∧ f_X7_fitsTo_13 F' 1 (nI t) σM = some (if c = true then 1 else 0, σM') ∧ x_I σX' n k q s st kp ln tp ft tn la sz ce ∧ m_I σM' n k q s st kp ln tp ft tn la sz ce := by
  have wS := hv.1
  have hG := hv.2.1
  have h99 := hG.2.1
  have hn := hv.1.1
  have hk := hv.1.2.1
  have wR0 : w_R n k (6 * st 25) (z_nu st 22 d) := hG.1.fld hn hk (by omega) (by omega) (by omega) (by omega) (by omega)
  have e25 : z_nu st 22 d 25 = st 25 := z_nu_ne (by omega)
  intro m
  induction m with
  | zero =>
    intro t F F' σX σM hm hF hF' hT
    obtain ⟨F, rfl⟩ : ∃ G, F = G + 1 := ⟨F - 1, by omega⟩
    obtain ⟨F', rfl⟩ : ∃ G, F' = G + 1 := ⟨F' - 1, by omega⟩
    refine ⟨true, σX, σM, ?_, ?_, hT.1, hT.2.1⟩
    · rw [f_X6_isAsNoted_27, if_pos (show (9 : Int32) < nI (st 25 + t) from nI_lt (a := 9) (by omega) (by omega)), if_pos rfl]
    · rw [f_X7_fitsTo_13, m_left hT.2.1 h99]
      simp only [z_be]
      rw [if_pos (show nI (10 - st 25) ≤ nI t from nI_le (by omega) (by omega))]
      rfl
  | succ m ih =>
    intro t F F' σX σM hm hF hF' hT
    obtain ⟨F, rfl⟩ : ∃ G, F = G + 1 := ⟨F - 1, by omega⟩
    obtain ⟨F', rfl⟩ : ∃ G, F' = G + 1 := ⟨F' - 1, by omega⟩
    obtain ⟨σ1, σ2, g1, g2, hT2, g4, g5⟩ := z_week hv hT (w_R_ws wS wR0 t (by omega)) (by omega)
    have l2 : w_wf s k q (w_ws s n k q (z_nu st 22 d) t) < 2 ^ 4 := w_fc_lt wS (Nat.le_refl q)
    have ew : σM 2 25 = nI (st 25 + t) := by rw [hT.2.2.2 25 (by omega), w_ws_25 wS, e25]
    have ag := x_agree_loop (n := n) (σ := σ1) hn hG.2.2.2 hT2.1.2.2.1 (wk := st 25 + t) (f := w_wf s k q (w_ws s n k q (z_nu st 22 d) t)) (by omega) (by omega) (st 26) 0 200 (by omega) (by have := hG.2.2.2.1; omega)
    have am := m_agree_loop (n := n) (σ := σ2) (t := t) hn hG.2.2.2 hT2.2.1.2.1 (wk := st 25 + t) (f := w_wf s k q (w_ws s n k q (z_nu st 22 d) t)) (by omega) (by omega) g5 (fun x2 x3 σ => f_X7_fitsTo_13 F' x2 x3 σ) (st 26) 0 200 true (by omega) (by have := hG.2.2.2.1; omega)
    rw [if_pos rfl, Bool.true_and] at am
    have eX : f_X6_isAsNoted_27 (F + 1) (nI (st 25 + t)) σX = (if (if w_ag st (st 25 + t) (w_wf s k q (w_ws s n k q (z_nu st 22 d) t)) 0 (st 26) = true then (1 : Int32) else 0) = 0 then some (0, σ1) else f_X6_isAsNoted_27 F (nI (st 25 + (t + 1))) σ1) := by
      rw [f_X6_isAsNoted_27, if_neg (show ¬ (9 : Int32) < nI (st 25 + t) from nI_nlt (a := 9) (b := st 25 + t) (by omega) (by omega)), g1]
      simp only [z_be]
      rw [g4]
      unfold f_X2_agree
      rw [show (0 : Int32) = nI 0 from rfl, ag]
      simp only [z_be]
      rw [show nI (st 25 + t) + 1 = nI (st 25 + (t + 1)) from nI_1 _]
      rfl
    have eM : f_X7_fitsTo_13 (F' + 1) 1 (nI t) σM = f_X7_fitsTo_13 F' (if w_ag st (st 25 + t) (w_wf s k q (w_ws s n k q (z_nu st 22 d) t)) 0 (st 26) = true then 1 else 0) (nI (t + 1)) σ2 := by
      rw [f_X7_fitsTo_13, m_left hT.2.1 h99]
      simp only [z_be]
      rw [if_neg (show ¬ nI (10 - st 25) ≤ nI t from nI_ge (by omega) (by omega)), if_neg (by decide), g2]
      simp only [z_be]
      rw [ew, show (0 : Int32) = nI 0 from rfl]
      exact am
    rw [eX, eM]
    by_cases hc : w_ag st (st 25 + t) (w_wf s k q (w_ws s n k q (z_nu st 22 d) t)) 0 (st 26) = true
    · rw [if_pos hc, if_neg (by decide)]
      exact ih (t + 1) F F' σ1 σ2 (by omega) (by omega) (by omega) hT2
    · rw [if_neg hc, if_pos rfl]
      refine ⟨false, σ1, σ2, rfl, ?_, hT2.1, hT2.2.1⟩
      obtain ⟨F', rfl⟩ : ∃ G, F' = G + 1 := ⟨F' - 1, by omega⟩
      rw [f_X7_fitsTo_13, m_left hT2.2.1 h99]
      simp only [z_be]
      split
      · rfl
      · first | rfl | (rw [if_pos trivial]; rfl)
theorem z_fit (hv : v_I n k q s st kp ln tp la sz) (hx : x_I σX n k q s st kp ln tp ft tn la sz ce) (hm : m_I σM n k q s st kp ln tp ft tn la sz ce) {d : Nat} (hd : d < 64) : ∃ (c : Bool) (σX' σM' : z_St), (w_pq s st d 0 k = true → f_X6_isAsNoted (nI d) σX = some (if c = true then 1 else 0, σX')) ∧ f_X7_fitsTo (nI d) σM = some (if (w_pq s st d 0 k && c) = true then 1 else 0, σM') ∧ x_I σX' n k q s st kp ln tp ft tn la sz ce ∧ m_I σM' n k q s st kp ln tp ft tn la sz ce := by
  obtain ⟨σ1, σ2, g1, g2, hx1, hm1, hL1, hA1⟩ := z_start hv hx hm
  have hn := hv.1.1
  have hk := hv.1.2.1
  have hG := hv.2.1
  have h99 := hG.2.1
  have hT : z_Tr (z_put σ1 17 6 (nI d)) (z_put σ2 2 22 (nI d)) n k q s st kp ln tp ft tn la sz ce (z_nu st 22 d) := ⟨hx1.tri17 (x_F.rf.put (by omega) (by omega)) hG.2.2.2.1, hm1.at' (m_F.rf.put _ _), hL1.fld hn hk (j := 6) (by omega) (by omega), hA1.put _ _⟩
  have sb : f_X7_startsBy (nI d) σM = some (0, z_put σ2 2 22 (nI d)) := by
    unfold f_X7_startsBy
    rw [g2, z_be]
    dsimp only
    rw [z_bst_eq]
  by_cases hp : w_pq s st d 0 k = true
  · obtain ⟨c, σ3, σ4, i1, i2, i3, i4⟩ := z_fit_loop hv hd (10 - st 25) 0 200 200 _ _ (by omega) (by omega) (by omega) hT
    refine ⟨c, σ3, σ4, fun _ => ?_, ?_, i3, i4⟩
    · unfold f_X6_isAsNoted
      rw [g1, z_be]
      dsimp only
      rw [z_bst_eq, hT.1.2.1.2.2.2.2.2.2]
      exact i1
    · unfold f_X7_fitsTo
      rw [m_plan hv.1 hG.1 hm.1 hm.2.1 hd, if_pos hp, z_be]
      dsimp only
      rw [sb, z_be]
      dsimp only
      rw [show (0 : Int32) = nI 0 from rfl, i2, hp, Bool.true_and]
      rfl
  · have hpf : w_pq s st d 0 k = false := by cases h : w_pq s st d 0 k <;> simp_all
    refine ⟨true, σX, z_put σ2 2 22 (nI d), fun h => absurd h hp, ?_, hx, hT.2.1⟩
    unfold f_X7_fitsTo
    rw [m_plan hv.1 hG.1 hm.1 hm.2.1 hd, if_neg hp, z_be]
    dsimp only
    rw [sb, z_be]
    dsimp only
    rw [show (200 : Nat) = 199 + 1 from rfl, f_X7_fitsTo_13, m_left hT.2.1 h99, z_be]
    dsimp only
    rw [hpf]
    split
    · rfl
    · first | rfl | (rw [if_pos trivial]; rfl)
theorem z_fits (hv : v_I n k q s st kp ln tp la sz) {w : Nat} (hw : w ≤ 3) : ∀ (m d F F' c : Nat) (x3 x4 x5 : Int32) (σX σM : z_St), 2 ^ k = d + m → m < F → m < F' → c ≤ d → (c = 0 → x3 = -4) → x_I σX n k q s st kp ln tp ft tn la sz ce → m_I σM n k q s st kp ln tp ft tn la sz ce → z_Sim (f_X6_fits_27 F (nI w) (nI c) x3 x4 x5 (nI d) σX) (f_X7_fits_38 F' (nI w) (nI (2 ^ k - 1)) (nI c) x3 x4 x5 (nI d) σM) := by
  have hk := hv.1.2.1
  have hG := hv.2.1
  have h64 : 2 ^ k ≤ 2 ^ 6 := Nat.pow_le_pow_right (by omega) hk
  have h1 : 1 ≤ 2 ^ k := Nat.one_le_two_pow
  intro m
  induction m with
  | zero =>
    intro d F F' c x3 x4 x5 σX σM hmm hF hF' hc h3 hx hm
    obtain ⟨F, rfl⟩ : ∃ G, F = G + 1 := ⟨F - 1, by omega⟩
    obtain ⟨F', rfl⟩ : ∃ G, F' = G + 1 := ⟨F' - 1, by omega⟩
    have h0 : z_Rel σX σM := ⟨n, k, q, s, st, kp, ln, tp, ft, tn, la, sz, ce, hv, hx, hm⟩
    rw [f_X6_fits_27, f_X7_fits_38, x_all hk hx.1.1]
    simp only [z_be]
    rw [if_pos (show nI (2 ^ k - 1) < nI d from nI_lt (by omega) (by omega)), if_pos (show nI (2 ^ k - 1) < nI d from nI_lt (by omega) (by omega))]
    refine z_Sim.ite (fun hw0 => ?_) (fun hw0 => ?_)
    · rw [if_pos hw0]; exact z_Sim.same h0 rfl rfl
    · rw [if_neg hw0]
      by_cases hc0 : c = 0
      · rw [if_pos (show nI c = (0 : Int32) by rw [hc0]; rfl), if_pos (show nI c = (0 : Int32) by rw [hc0]; rfl), h3 hc0]
        split
        · exact z_Sim.same h0 rfl rfl
        · exact z_Sim.same h0 rfl rfl
      · rw [if_neg (show ¬ nI c = (0 : Int32) from nI_ne0 (by omega) (by omega)), if_neg (show ¬ nI c = (0 : Int32) from nI_ne0 (by omega) (by omega))]
        refine z_Sim.ite (fun _ => z_Sim.same h0 rfl rfl) (fun _ => ?_)
        refine z_Sim.ite (fun _ => z_Sim.same h0 rfl rfl) (fun _ => ?_)
        rw [x_all hk hx.1.1]
        exact z_Sim.same h0 rfl rfl
  | succ m ih =>
    intro d F F' c x3 x4 x5 σX σM hmm hF hF' hc h3 hx hm
    obtain ⟨F, rfl⟩ : ∃ G, F = G + 1 := ⟨F - 1, by omega⟩
    obtain ⟨F', rfl⟩ : ∃ G, F' = G + 1 := ⟨F' - 1, by omega⟩
    have ed : nI d + 1 = nI (d + 1) := nI_1 d
    have ec : nI c + 1 = nI (c + 1) := nI_1 c
    obtain ⟨b, σ1, σ2, g1, g2, hx1, hm1⟩ := z_fit hv hx hm (d := d) (by omega)
    rw [f_X6_fits_27, f_X7_fits_38, x_all hk hx.1.1]
    simp only [z_be]
    rw [if_neg (show ¬ nI (2 ^ k - 1) < nI d from nI_nlt (by omega) (by omega)), if_neg (show ¬ nI (2 ^ k - 1) < nI d from nI_nlt (by omega) (by omega)), ed, x_past hv.1 hG.1 hx.1 hx.2.1.2.2.2.2.2.2 hx.2.1.2.2.2.1 (by omega), g2]
    simp only [z_be]
    unfold f_X6_fits_64 f_X7_fits_64
    rw [ed, ec]
    by_cases hp : w_pq s st d 0 k = true
    · rw [if_pos hp, if_neg (by decide), g1 hp, hp, Bool.true_and]
      simp only [z_be]
      cases b with
      | false =>
        rw [if_neg (show ¬ false = true by decide), if_pos rfl, if_pos rfl]
        exact ih (d + 1) F F' c x3 x4 x5 σ1 σ2 (by omega) (by omega) (by omega) (by omega) h3 hx1 hm1
      | true =>
        rw [if_pos rfl, z_f1, z_f1]
        refine z_Sim.ite (fun _ => ?_) (fun _ => ?_)
        · exact ih (d + 1) F F' (c + 1) (nI d) _ _ σ1 σ2 (by omega) (by omega) (by omega) (by omega) (by omega) hx1 hm1
        · exact ih (d + 1) F F' (c + 1) x3 _ _ σ1 σ2 (by omega) (by omega) (by omega) (by omega) (by omega) hx1 hm1
    · have hpf : w_pq s st d 0 k = false := by cases h : w_pq s st d 0 k <;> simp_all
      rw [hpf, Bool.false_and, if_neg (show ¬ false = true by decide), if_pos rfl, if_pos rfl]
      exact ih (d + 1) F F' c x3 x4 x5 σX σ2 (by omega) (by omega) (by omega) (by omega) h3 hx hm1
theorem sim_fits (h : z_Rel σX σM) (x : Int32) : z_Sim (f_X6_fits x σX) (f_X7_fits x σM) := by
  have h0 := h
  obtain ⟨n, k, q, s, st, kp, ln, tp, ft, tn, la, sz, ce, hv, hx, hm⟩ := h
  have hk := hv.1.2.1
  have h64 : 2 ^ k ≤ 2 ^ 6 := Nat.pow_le_pow_right (by omega) hk
  have h1 : 1 ≤ 2 ^ k := Nat.one_le_two_pow
  unfold f_X6_fits f_X7_fits
  rcases zn_rng x (m := 4) (by omega) with ⟨w, hw, rfl⟩ | ho
  · rw [show f_X6_isWithin (nI w) 3 σX = _ from x_with_in (m := 3) (by omega) (by omega), m_lit_in (m := 3) (by omega) (by omega) (by decide), z_be, z_be]
    dsimp only
    rw [z_f1, z_f1, x_all hk hx.1.1, z_be, hm.1.2.1, z_shl1 k (by omega), show nI (2 ^ k) - 1 = nI (2 ^ k - 1) from zn_sub h1, z_bi_eq, show (0 : Int32) = nI 0 from rfl]
    exact z_fits hv (by omega) (2 ^ k) 0 200 200 0 (-4) _ _ σX σM (by omega) (by omega) (by omega) (by omega) (fun _ => rfl) hx hm
  · rw [show f_X6_isWithin x 3 σX = _ from x_with_out (m := 3) (by omega) ho, m_lit_out (m := 3) (by omega) (by decide) ho]
    exact z_Sim.same h0 rfl rfl
end SF
