/-! ===== gift, whisper, told, cover, rate ===== -/
section SG
variable {σ σ' σX σM : z_St} {n k q B : Nat} {s : z_Sy} {st kp : Nat → Nat} {ln : Nat} {tp : Nat → Nat} {ft tn : Int32} {la : Nat → Int32} {sz : Nat → Nat} {ce : Nat → Nat → Int32} {a : Nat → Nat}
theorem z_nu_self {i v : Nat} (h : a i = v) : z_nu a i v = a := by
  funext j
  by_cases e : j = i
  · subst e; rw [z_nu_eq, h]
  · rw [z_nu_ne e]
theorem z_wt60 (hq : q ≤ 6) : w_wts s n k q a (10 - st 25) ≤ 60 := by
  have := w_wts_le (s := s) (n := n) (k := k) (a := a) hq (10 - st 25)
  omega
/-- as z_last, with what stays -/
theorem z_lastF (hv : v_I n k q s st kp ln tp la sz) (h : z_Tr σX σM n k q s st kp ln tp ft tn la sz ce a) (wR : w_R n k (6 * st 25) a) (h25 : a 25 = st 25) (hb : ∀ p, p < n → a (4 * p + 3) = st (4 * p + 3)) : ∃ σX' σM', f_X1_passToLastWeek 17 4 σX = some (nI (w_wts s n k q a (10 - st 25)), σX') ∧ f_X7_weeksLeft σM = some (nI (10 - st 25), σM) ∧ f_X7_brazenIn (nI (10 - st 25)) σM = some (nI (w_wts s n k q a (10 - st 25)), σM') ∧ f_X7_weeksGo (nI (10 - st 25)) σM = some (0, σM') ∧ z_Tr σX' σM' n k q s st kp ln tp ft tn la sz ce (w_ws s n k q a (10 - st 25)) ∧ x_F σX σX' 17 ∧ m_F σM σM' := by
  have h99 := hv.2.1.2.1
  obtain ⟨σ1, σ2, g1, g2, g3, g4, g5⟩ := z_last hv h wR h25 hb
  obtain ⟨σ3, i1, -, i3⟩ := x_last (b := 17) (by omega) hv.1 wR (by omega) h.1.1 h.2.2.1
  obtain ⟨σ4, j1, -, j3⟩ := m_weeksGo hv.1 wR (N := 10 - st 25) (by omega) (by omega) (by omega) h.2.1.1 h.2.2.2
  rw [g1] at i1
  rw [g4] at j1
  have e1 : σ1 = σ3 := congrArg Prod.snd (Option.some.inj i1)
  have e2 : σ2 = σ4 := congrArg Prod.snd (Option.some.inj j1)
  subst e1 e2
  exact ⟨σ1, σ2, g1, g2, g3, g4, g5, i3, j3⟩
theorem z_startF (hv : v_I n k q s st kp ln tp la sz) (hx : x_I σX n k q s st kp ln tp ft tn la sz ce) (hm : m_I σM n k q s st kp ln tp ft tn la sz ce) : ∃ σX' σM', f_X1_copyFrom 17 11 σX = some (0, σX') ∧ f_X7_starts σM = some (0, σM') ∧ z_Tr σX' σM' n k q s st kp ln tp ft tn la sz ce st ∧ x_F σX σX' 17 ∧ m_F σM σM' := by
  obtain ⟨σ1, g1, g2, g3⟩ := x_copy (b := 17) hx.2.1 hv.1.1 hv.1.2.1 (by omega)
  obtain ⟨σ2, i1, i2, i3, -⟩ := m_starts (σ := σM) (a := st) (fun j hj => hm.2.1 j (by omega))
  exact ⟨σ1, σ2, g1, i1, ⟨hx.tri17 g3 hv.2.1.2.2.2.1, hm.at' i3, g2, i2⟩, g3, i3⟩
theorem z_now (hv : v_I n k q s st kp ln tp la sz) (hx : x_I σX n k q s st kp ln tp ft tn la sz ce) (hm : m_I σM n k q s st kp ln tp ft tn la sz ce) : ∃ T σX' σM', T ≤ 60 ∧ f_X6_timesByPlan (σX 11 6) σX = some (nI T, σX') ∧ f_X7_brazenAsNow σM = some (nI T, σM') ∧ x_I σX' n k q s st kp ln tp ft tn la sz ce ∧ m_I σM' n k q s st kp ln tp ft tn la sz ce := by
  have h64 : 2 ^ k ≤ 2 ^ 6 := Nat.pow_le_pow_right (by omega) hv.1.2.1
  have h22 := hv.2.1.2.2.1
  obtain ⟨σ1, σ2, σ3, g1, -, -, -, -, hT⟩ := z_plan hv hx hm (d := st 22) (by omega)
  obtain ⟨σ4, σ5, i1, i2, hT2⟩ := z_start hv hx hm
  obtain ⟨σ6, σ7, j1, j2, j3, j4, hT3⟩ := z_last hv hT2 hv.2.1.1 rfl (fun _ _ => rfl)
  refine ⟨w_T s n k q st (st 22), σ1, σ7, w_T_le hv.1.2.2.1 _, ?_, ?_, hT.1, hT3.2.1⟩
  · rw [hx.2.1.2.2.2.1]; exact g1
  · unfold f_X7_brazenAsNow
    rw [i2, z_be]
    dsimp only
    rw [j2, z_be]
    dsimp only
    rw [j3, z_be]
    unfold w_T
    rw [z_nu_self rfl]
theorem z_gift (hv : v_I n k q s st kp ln tp la sz) {g : Nat} (hg : g ≤ 99) (x2 : Int32) : ∀ (m p F F' l : Nat) (x4 : Int32) (σX σM : z_St), n = p + m → m < F → m < F' → l ≤ 60 → x_I σX n k q s st kp ln tp ft tn la sz ce → m_I σM n k q s st kp ln tp ft tn la sz ce → z_Sim (f_X6_gift_38 F (nI g) x2 (nI l) x4 (nI p) σX) (f_X7_gift_33 F' (nI g) x2 (nI l) x4 (nI p) σM) := by
  have hn := hv.1.1
  have hk := hv.1.2.1
  have hG := hv.2.1
  have h99 := hG.2.1
  intro m
  induction m with
  | zero =>
    intro p F F' l x4 σX σM hmm hF hF' hl hx hm
    obtain ⟨F, rfl⟩ : ∃ G, F = G + 1 := ⟨F - 1, by omega⟩
    obtain ⟨F', rfl⟩ : ∃ G, F' = G + 1 := ⟨F' - 1, by omega⟩
    have h0 : z_Rel σX σM := ⟨n, k, q, s, st, kp, ln, tp, ft, tn, la, sz, ce, hv, hx, hm⟩
    rw [f_X6_gift_38, f_X7_gift_33, hx.2.1.1, hm.1.1, if_pos (show nI n ≤ nI p from nI_le (by omega) (by omega)), if_pos (show nI n ≤ nI p from nI_le (by omega) (by omega))]
    refine z_Sim.ite (fun e => by rw [e]; exact z_Sim.same h0 rfl rfl) (fun _ => ?_)
    exact z_Sim.ite (fun _ => z_Sim.same h0 rfl rfl) (fun _ => z_Sim.same h0 rfl rfl)
  | succ m ih =>
    intro p F F' l x4 σX σM hmm hF hF' hl hx hm
    obtain ⟨F, rfl⟩ : ∃ G, F = G + 1 := ⟨F - 1, by omega⟩
    obtain ⟨F', rfl⟩ : ∃ G, F' = G + 1 := ⟨F' - 1, by omega⟩
    have ep : nI p + 1 = nI (p + 1) := nI_1 p
    obtain ⟨σ1, σ2, g1, g2, hT⟩ := z_start hv hx hm
    have hR := (hG.1.1 p (by omega)).2.1
    have i1 := x_putInHand (p := p) (v := g) hn hG.1 hT.2.2.1 (by omega) (by omega)
    have i2 := m_more (σ := σ2) (p := p) (w := 1) (x3 := nI g) (t := st (4 * p + 1) + g) (by omega) (by rw [hT.2.2.2 _ (by omega), zn_add]) (by omega)
    have hT2 : z_Tr (z_put σ1 (17 + 2) p (nI (min 999 (st (4 * p + 1) + g)))) (z_put σ2 2 (4 * p + 1) (nI (min 999 (st (4 * p + 1) + g)))) n k q s st kp ln tp ft tn la sz ce (z_nu st (4 * p + 1) (min 999 (st (4 * p + 1) + g))) := ⟨hT.1.tri17 (x_F.rf.put (by omega) (by omega)) hG.2.2.2.1, hT.2.1.at' (m_F.rf.put _ _), hT.2.2.1.hand hn (by omega), hT.2.2.2.put _ _⟩
    obtain ⟨σ3, σ4, j1, j2, j3, -, hT3⟩ := z_last hv hT2 (hG.1.hand hn (by omega) (by omega)) (z_nu_ne (by omega)) (fun p' hp' => z_nu_ne (by omega))
    have h60 := z_wt60 (s := s) (n := n) (k := k) (st := st) (a := z_nu st (4 * p + 1) (min 999 (st (4 * p + 1) + g))) hv.1.2.2.1
    generalize hTT : w_wts s n k q (z_nu st (4 * p + 1) (min 999 (st (4 * p + 1) + g))) (10 - st 25) = T at j1 j3 h60
    rw [f_X6_gift_38, f_X7_gift_33, hx.2.1.1, hm.1.1, if_neg (show ¬ nI n ≤ nI p from nI_ge (by omega) (by omega)), if_neg (show ¬ nI n ≤ nI p from nI_ge (by omega) (by omega)), g1, g2]
    simp only [z_be]
    rw [i1, show f_X7_more (nI p) 1 (nI g) σ2 = _ from i2]
    simp only [z_be]
    rw [j1, j2]
    simp only [z_be]
    rw [j3]
    simp only [z_be]
    unfold f_X7_gift_77
    rw [ep]
    refine z_Sim.ite (fun h => ?_) (fun h => ?_)
    · rw [if_pos h]
      exact ih (p + 1) F F' l x4 σ3 σ4 (by omega) (by omega) (by omega) hl hT3.1 hT3.2.1
    · rw [if_neg h]
      exact ih (p + 1) F F' T (nI p) σ3 σ4 (by omega) (by omega) (by omega) h60 hT3.1 hT3.2.1
theorem sim_gift (h : z_Rel σX σM) (x y : Int32) : z_Sim (f_X6_gift x y σX) (f_X7_gift x y σM) := by
  have h0 := h
  obtain ⟨n, k, q, s, st, kp, ln, tp, ft, tn, la, sz, ce, hv, hx, hm⟩ := h
  have hn := hv.1.1
  unfold f_X6_gift f_X7_gift
  rcases zn_rng x (m := 100) (by omega) with ⟨g, hg, rfl⟩ | ho
  · rw [show f_X6_isWithin (nI g) 99 σX = _ from x_with_in (m := 99) (by omega) (by omega), m_lit_in (m := 99) (by omega) (by omega) (by decide), z_be, z_be]
    dsimp only
    rw [z_f1, z_f1]
    rcases zn_rng y (m := 2) (by omega) with ⟨w, hw, rfl⟩ | ho
    · rw [show f_X6_isWithin (nI w) 1 σX = _ from x_with_in (m := 1) (by omega) (by omega), m_part_in (by omega), z_be, z_be]
      dsimp only
      obtain ⟨T, σ1, σ2, hT, g1, g2, hx1, hm1⟩ := z_now hv hx hm
      rw [z_f1, z_f1, g1, g2, z_be, z_be, show (0 : Int32) = nI 0 from rfl]
      exact z_gift hv (by omega) (nI w) n 0 200 200 T (-4) σ1 σ2 (by omega) (by omega) (by omega) hT hx1 hm1
    · rw [show f_X6_isWithin y 1 σX = _ from x_with_out (m := 1) (by omega) ho, m_part_out ho]
      exact z_Sim.same h0 rfl rfl
  · rw [show f_X6_isWithin x 99 σX = _ from x_with_out (m := 99) (by omega) ho, m_lit_out (m := 99) (by omega) (by decide) ho]
    exact z_Sim.same h0 rfl rfl
theorem z_rum (hv : v_I n k q s st kp ln tp la sz) (hx : x_I σX n k q s st kp ln tp ft tn la sz ce) (hm : m_I σM n k q s st kp ln tp ft tn la sz ce) {p : Nat} (hp : p < n) : ∃ T c σX' σ1 σ2 σM', T ≤ 60 ∧ f_X6_timesByRumour (nI p) σX = some (nI T, σX') ∧ f_X7_starts σM = some (0, σ1) ∧ f_X7_rumoured (nI p) σ1 = some (c, σ2) ∧ f_X7_weeksLeft σ2 = some (nI (10 - st 25), σ2) ∧ f_X7_brazenIn (nI (10 - st 25)) σ2 = some (nI T, σM') ∧ f_X7_weeksGo (nI (10 - st 25)) σ2 = some (0, σM') ∧ z_Tr σX' σM' n k q s st kp ln tp ft tn la sz ce (w_ws s n k q (w_rus s p st k) (10 - st 25)) ∧ x_F σX σX' 17 ∧ m_F σM σM' := by
  have wS := hv.1
  have hn := hv.1.1
  have hk := hv.1.2.1
  have hG := hv.2.1
  obtain ⟨σ1, σ2, g1, g2, hT, fx, fm⟩ := z_startF hv hx hm
  obtain ⟨σ3, l1, l2, l3⟩ := x_rumour (b := 17) (by omega) wS hG.1 hp k 0 200 σ1 (by omega) (by omega) hT.1.1 hT.2.2.1
  obtain ⟨σ4, i1, i2, i3⟩ := m_rumour wS hG.1 hp k 0 200 σ2 (by omega) (by omega) hT.2.1.1 hT.2.2.2
  have hT2 : z_Tr σ3 σ4 n k q s st kp ln tp ft tn la sz ce (w_rus s p st k) := ⟨hT.1.tri17 l3 hG.2.2.2.1, hT.2.1.at' i3, l2, i2⟩
  obtain ⟨σ5, σ6, j1, j2, j3, j4, hT3, fx3, fm3⟩ := z_lastF hv hT2 (w_R_rus hn hk hG.1 (Nat.le_refl k)) (w_rus_k hk (by omega) (Nat.le_refl k)) (fun p' hp' => w_rus_k hk (by omega) (Nat.le_refl k))
  refine ⟨_, nI (w_rct s p st k), σ5, σ2, σ4, σ6, z_wt60 (st := st) hv.1.2.2.1, ?_, g2, i1, j2, j3, j4, hT3, (fx.tr l3).tr fx3, (fm.tr i3).tr fm3⟩
  unfold f_X6_timesByRumour
  rw [g1, z_be]
  dsimp only
  rw [show f_X1_spreadRumour 17 4 (nI p) σ1 = some (nI (w_rct s p st k), σ3) from l1, z_be]
  dsimp only
  rw [j1, z_be]
theorem z_whisper (hv : v_I n k q s st kp ln tp la sz) (x1 : Int32) : ∀ (m p F F' l : Nat) (x4 : Int32) (σX σM : z_St), n = p + m → m < F → m < F' → l ≤ 60 → x_I σX n k q s st kp ln tp ft tn la sz ce → m_I σM n k q s st kp ln tp ft tn la sz ce → z_Sim (f_X6_whisper_28 F x1 (nI l) x4 (nI p) σX) (f_X7_whisper_20 F' x1 (nI l) x4 (nI p) σM) := by
  have hn := hv.1.1
  intro m
  induction m with
  | zero =>
    intro p F F' l x4 σX σM hmm hF hF' hl hx hm
    obtain ⟨F, rfl⟩ : ∃ G, F = G + 1 := ⟨F - 1, by omega⟩
    obtain ⟨F', rfl⟩ : ∃ G, F' = G + 1 := ⟨F' - 1, by omega⟩
    have h0 : z_Rel σX σM := ⟨n, k, q, s, st, kp, ln, tp, ft, tn, la, sz, ce, hv, hx, hm⟩
    rw [f_X6_whisper_28, f_X7_whisper_20, hx.2.1.1, hm.1.1, if_pos (show nI n ≤ nI p from nI_le (by omega) (by omega)), if_pos (show nI n ≤ nI p from nI_le (by omega) (by omega))]
    refine z_Sim.ite (fun e => by rw [e]; exact z_Sim.same h0 rfl rfl) (fun _ => ?_)
    exact z_Sim.ite (fun _ => z_Sim.same h0 rfl rfl) (fun _ => z_Sim.same h0 rfl rfl)
  | succ m ih =>
    intro p F F' l x4 σX σM hmm hF hF' hl hx hm
    obtain ⟨F, rfl⟩ : ∃ G, F = G + 1 := ⟨F - 1, by omega⟩
    obtain ⟨F', rfl⟩ : ∃ G, F' = G + 1 := ⟨F' - 1, by omega⟩
    have ep : nI p + 1 = nI (p + 1) := nI_1 p
    obtain ⟨T, c, σ1, σ2, σ3, σ4, hT, g1, g2, g3, g4, g5, -, hTr, -, -⟩ := z_rum hv hx hm (p := p) (by omega)
    rw [f_X6_whisper_28, f_X7_whisper_20, hx.2.1.1, hm.1.1, if_neg (show ¬ nI n ≤ nI p from nI_ge (by omega) (by omega)), if_neg (show ¬ nI n ≤ nI p from nI_ge (by omega) (by omega)), g1, g2]
    simp only [z_be]
    rw [g3]
    simp only [z_be]
    rw [g4]
    simp only [z_be]
    rw [g5]
    simp only [z_be]
    unfold f_X7_whisper_62
    rw [ep]
    refine z_Sim.ite (fun h => ?_) (fun h => ?_)
    · rw [if_pos h]
      exact ih (p + 1) F F' l x4 σ1 σ4 (by omega) (by omega) (by omega) hl hTr.1 hTr.2.1
    · rw [if_neg h]
      exact ih (p + 1) F F' T (nI p) σ1 σ4 (by omega) (by omega) (by omega) hT hTr.1 hTr.2.1
theorem sim_whisper (h : z_Rel σX σM) (y : Int32) : z_Sim (f_X6_whisper y σX) (f_X7_whisper y σM) := by
  have h0 := h
  obtain ⟨n, k, q, s, st, kp, ln, tp, ft, tn, la, sz, ce, hv, hx, hm⟩ := h
  have hn := hv.1.1
  unfold f_X6_whisper f_X7_whisper
  rcases zn_rng y (m := 2) (by omega) with ⟨w, hw, rfl⟩ | ho
  · rw [show f_X6_isWithin (nI w) 1 σX = _ from x_with_in (m := 1) (by omega) (by omega), m_part_in (by omega), z_be, z_be]
    dsimp only
    obtain ⟨T, σ1, σ2, hT, g1, g2, hx1, hm1⟩ := z_now hv hx hm
    rw [z_f1, z_f1, g1, g2, z_be, z_be, show (0 : Int32) = nI 0 from rfl]
    exact z_whisper hv (nI w) n 0 200 200 T (-4) σ1 σ2 (by omega) (by omega) (by omega) hT hx1 hm1
  · rw [show f_X6_isWithin y 1 σX = _ from x_with_out (m := 1) (by omega) ho, m_part_out ho]
    exact z_Sim.same h0 rfl rfl
/-! told -/
theorem m_I.oft (h : m_I σ n k q s st kp ln tp ft tn la sz ce) (hF : ∀ c, c ≠ 18 → σ' c = σ c) : m_I σ' n k q s st kp ln tp ft tn la sz ce := by
  obtain ⟨h1, h2, h3, h4, h5, h6⟩ := h
  refine ⟨?_, ?_, ?_, ?_, ?_, ?_⟩
  · unfold m_S
    rw [hF 0 (by omega), hF 4 (by omega), hF 5 (by omega), hF 6 (by omega), hF 7 (by omega), hF 8 (by omega), hF 9 (by omega)]; exact h1
  · rw [hF 1 (by omega)]; exact h2
  · rw [hF 3 (by omega)]; exact h3
  · rw [hF 0 (by omega), hF 17 (by omega)]; exact h4
  · rw [hF 0 (by omega)]; exact h5
  · rw [hF 19 (by omega), hF 20 (by omega), hF 21 (by omega)]; exact h6
theorem m_oft_loop (hn : n ≤ 4) (x1 x2 : Int32) : ∀ (m p F : Nat) (σ : z_St), n = p + m → m < F → σ 0 3 = nI n → m_A σ a → (∀ j, j < p → σ 18 j = nI (a (4 * j + 3))) → ∃ σ' F', f_X7_told_24 F x1 x2 (nI p) σ = f_X7_told_24 (F' + 1) x1 x2 (nI n) σ' ∧ (∀ c, c ≠ 18 → σ' c = σ c) ∧ (∀ j, j < n → σ' 18 j = nI (a (4 * j + 3))) := by
  intro m
  induction m with
  | zero =>
    intro p F σ hm hF h3 hA ho
    obtain ⟨F, rfl⟩ : ∃ G, F = G + 1 := ⟨F - 1, by omega⟩
    have e : p = n := by omega
    subst e
    exact ⟨σ, F, rfl, fun _ _ => rfl, ho⟩
  | succ m ih =>
    intro p F σ hm hF h3 hA ho
    obtain ⟨F, rfl⟩ : ∃ G, F = G + 1 := ⟨F - 1, by omega⟩
    have ep : nI p + 1 = nI (p + 1) := nI_1 p
    obtain ⟨σ', F', i1, i2, i3⟩ := ih (p + 1) F (z_put σ 18 p (nI (a (4 * p + 3)))) (by omega) (by omega) (by rw [z_put_ne (by omega)]; exact h3) (fun j hj => by rw [z_put_ne (by omega)]; exact hA j hj) (fun j hj => by
      rw [z_put_eq]
      by_cases e : j = p
      · subst e; rw [z_upd_eq]
      · rw [z_upd_ne e]; exact ho j (by omega))
    refine ⟨σ', F', ?_, fun c hc => by rw [i2 c hc, z_put_ne hc], i3⟩
    rw [f_X7_told_24, h3, if_neg (show ¬ nI n ≤ nI p from nI_ge (by omega) (by omega)), show f_X7_of (nI p) 3 σ = _ from m_of (w := 3) hA (by omega)]
    simp only [z_be]
    rw [z_gd_nI (by omega) (by omega), z_bst_eq, zn_cl (by omega), ep]
    exact i1
theorem zs_0 : ∀ p, p < 6 → (0 : Int32) <<< (nI p &&& 31) = 0 := by decide +kernel
theorem zn_dle {A B : Nat} (hA : A < 1000000) (hB : B < 1000000) : (nI A - nI B ≤ 0) = (A ≤ B) := by
  apply propext
  rw [fa_le, pk_sub_toInt (by omega) (by omega)]
  show (A : Int) - B ≤ 0 ↔ _
  omega
theorem zn_dge {A B : Nat} (hA : A < 1000000) (hB : B < 1000000) : (0 ≤ nI A - nI B) = (B ≤ A) := by
  apply propext
  rw [fa_le, pk_sub_toInt (by omega) (by omega)]
  show (0 : Int) ≤ (A : Int) - B ↔ _
  omega
theorem z_told_loop (hn : n ≤ 4) (w : Nat) (hw : w ≤ 1) {o : Nat → Nat} (h1 : σX 11 0 = nI n) (h2 : σM 0 3 = nI n) (hA : m_A σM a) (hX : ∀ p, p < n → σX 21 p = nI (a (4 * p + 3)) ∧ σX 1 p = nI (o p) ∧ σM 18 p = nI (o p) ∧ a (4 * p + 3) < 1000000 ∧ o p < 1000000) : ∀ (m p F F' : Nat) (x3 : Int32), n = p + m → m < F → m < F' → ∃ r, f_X6_told_69 F (nI w) x3 (nI p) σX = some (r, σX) ∧ f_X7_told_73 F' (nI w) x3 (nI p) σM = some (r, σM) := by
  intro m
  induction m with
  | zero =>
    intro p F F' x3 hm hF hF'
    obtain ⟨F, rfl⟩ : ∃ G, F = G + 1 := ⟨F - 1, by omega⟩
    obtain ⟨F', rfl⟩ : ∃ G, F' = G + 1 := ⟨F' - 1, by omega⟩
    refine ⟨x3, ?_, ?_⟩
    · rw [f_X6_told_69, h1, if_pos (show nI n ≤ nI p from nI_le (by omega) (by omega))]
    · rw [f_X7_told_73, h2, if_pos (show nI n ≤ nI p from nI_le (by omega) (by omega))]
  | succ m ih =>
    intro p F F' x3 hm hF hF'
    obtain ⟨F, rfl⟩ : ∃ G, F = G + 1 := ⟨F - 1, by omega⟩
    obtain ⟨F', rfl⟩ : ∃ G, F' = G + 1 := ⟨F' - 1, by omega⟩
    have ep : nI p + 1 = nI (p + 1) := nI_1 p
    obtain ⟨c1, c2, c3, c4, c5⟩ := hX p (by omega)
    obtain ⟨r0, i1, i2⟩ := ih (p + 1) F F' x3 (by omega) (by omega) (by omega)
    obtain ⟨r1, j1, j2⟩ := ih (p + 1) F F' (x3 ||| ((1 : Int32) <<< (nI p &&& 31))) (by omega) (by omega) (by omega)
    have k0 : f_X7_told_133 (fun x2 x3 x4 σ => f_X7_told_73 F' x2 x3 x4 σ) (nI w) x3 (nI p) 0 σM = some (r0, σM) := by
      unfold f_X7_told_133
      rw [show f_X7_flag 0 σM = some (0, σM) from rfl, z_be]
      dsimp only
      rw [z_bi_eq, zs_0 p (by omega), Int32.or_zero, ep]; exact i2
    have k1 : f_X7_told_133 (fun x2 x3 x4 σ => f_X7_told_73 F' x2 x3 x4 σ) (nI w) x3 (nI p) 1 σM = some (r1, σM) := by
      unfold f_X7_told_133
      rw [show f_X7_flag 1 σM = some (1, σM) from rfl, z_be]
      dsimp only
      rw [z_bi_eq, ep]; exact j2
    have k2 : f_X6_told_118 (fun x2 x3 x4 σ => f_X6_told_69 F x2 x3 x4 σ) (nI w) x3 (nI p) σX = some (r1, σX) := by
      unfold f_X6_told_118
      rw [z_bi_eq, ep]; exact j1
    rw [f_X6_told_69, f_X7_told_73, h1, h2, if_neg (show ¬ nI n ≤ nI p from nI_ge (by omega) (by omega)), if_neg (show ¬ nI n ≤ nI p from nI_ge (by omega) (by omega)), show f_X7_of (nI p) 3 σM = _ from m_of (w := 3) hA (by omega)]
    simp only [z_be]
    simp (disch := omega) only [z_gd_nI, zn_cl, z_bi_eq, c1, c2, c3, ep, k0, k1, k2, i1]
    simp (disch := omega) only [zn_dle, zn_dge, zn_le]
    by_cases hw0 : nI w = (0 : Int32)
    · rw [if_pos hw0, if_pos hw0]
      by_cases hc : a (4 * p + 3) ≤ o p
      · rw [if_pos hc, if_pos hc]; exact ⟨r0, rfl, rfl⟩
      · rw [if_neg hc, if_neg hc]; exact ⟨r1, rfl, rfl⟩
    · rw [if_neg hw0, if_neg hw0]
      by_cases hc : o p ≤ a (4 * p + 3)
      · rw [if_pos hc, if_pos hc]; exact ⟨r0, rfl, rfl⟩
      · rw [if_neg hc, if_neg hc]; exact ⟨r1, rfl, rfl⟩
theorem sim_told (h : z_Rel σX σM) (x y : Int32) : z_Sim (f_X6_told x y σX) (f_X7_told x y σM) := by
  have h0 := h
  obtain ⟨n, k, q, s, st, kp, ln, tp, ft, tn, la, sz, ce, hv, hx, hm⟩ := h
  have hn := hv.1.1
  have hk := hv.1.2.1
  have hG := hv.2.1
  have h99 := hG.2.1
  unfold f_X6_told f_X7_told
  rcases zn_rng x (m := n) (by omega) with ⟨p, hp, rfl⟩ | ho
  · rw [x_one_in hx.2.1.1 hn hp, m_one_in hm.1.1 hn hp, z_be, z_be]
    dsimp only
    rw [z_f1, z_f1]
    rcases zn_rng y (m := 2) (by omega) with ⟨w, hw, rfl⟩ | ho
    · rw [show f_X6_isWithin (nI w) 1 σX = _ from x_with_in (m := 1) (by omega) (by omega), m_part_in (by omega), z_be, z_be]
      dsimp only
      obtain ⟨σ1, σ2, g1, g2, hT⟩ := z_start hv hx hm
      obtain ⟨σ3, σ4, j1, j2, j3, -, hT2⟩ := z_last hv hT hG.1 rfl (fun _ _ => rfl)
      have eb : f_X7_brazenAsNow σM = some (nI (w_wts s n k q st (10 - st 25)), σ4) := by
        unfold f_X7_brazenAsNow
        rw [g2, z_be]
        dsimp only
        rw [j2, z_be]
        dsimp only
        rw [j3, z_be]
      rw [z_f1, z_f1, g1, eb]
      simp only [z_be]
      rw [j1]
      simp only [z_be, z_bst_eq]
      have hx5 : x_I (z_row σ3 1 (va_cpy (σ3 (17 + 4)) (σ3 1) 0 0 4)) n k q s st kp ln tp ft tn la sz ce := hT2.1.tri (fun c hc _ => z_row_ne hc) hG.2.2.2.1
      obtain ⟨σ5, F', o1, o2, o3⟩ := m_oft_loop (a := w_ws s n k q st (10 - st 25)) hn (nI p) (nI w) n 0 200 σ4 (by omega) (by omega) hT2.2.1.1.1 hT2.2.2.2 (fun j hj => absurd hj (by omega))
      have hm5 := hT2.2.1.oft o2
      obtain ⟨T, c, σ6, σ7, σ8, σ9, -, r1, r2, r3, r4, -, r5, hT6, fx, fm⟩ := z_rum hv hx5 hm5 hp
      rw [r1, show (0 : Int32) = nI 0 from rfl, o1, f_X7_told_24, hm5.1.1, if_pos (show nI n ≤ nI n from nI_le (by omega) (by omega)), r2]
      simp only [z_be]
      rw [r3]
      simp only [z_be]
      rw [r4]
      simp only [z_be]
      rw [r5]
      simp only [z_be]
      have wR2 := w_R_ws (n := n) (k := k) (a := w_rus s p st k) hv.1 (w_R_rus hn hk hG.1 (Nat.le_refl k)) (10 - st 25) (by rw [w_rus_k hk (by omega) (Nat.le_refl k)]; omega)
      have wR3 := w_R_ws hv.1 hG.1 (10 - st 25) (by omega)
      obtain ⟨r, q1, q2⟩ := z_told_loop (σX := σ6) (σM := σ9) (a := w_ws s n k q (w_rus s p st k) (10 - st 25)) (o := fun j => w_ws s n k q st (10 - st 25) (4 * j + 3)) hn w (by omega) hT6.1.2.1.1 hT6.2.1.1.1 hT6.2.2.2 (fun j hj => by
        refine ⟨(hT6.2.2.1.2.1 j hj).2.2.2, ?_, ?_, ?_, ?_⟩
        · rw [fx 1 (by omega), z_row_eq, zc_in (by omega)]; exact (hT2.2.2.1.2.1 j hj).2.2.2
        · rw [fm.1 18 (by omega) (by omega)]; exact o3 j hj
        · have := (wR2.1 j hj).2.2.2; omega
        · have := (wR3.1 j hj).2.2.2; show w_ws s n k q st (10 - st 25) (4 * j + 3) < 1000000; omega) n 0 200 200 (nI 0) (by omega) (by omega) (by omega)
      rw [q1, show (0 : Int32) = nI 0 from rfl, q2]
      exact z_Sim.same (z_Tr.rel hv hT6) rfl rfl
    · rw [show f_X6_isWithin y 1 σX = _ from x_with_out (m := 1) (by omega) ho, m_part_out ho]
      exact z_Sim.same h0 rfl rfl
  · rw [x_one_out hx.2.1.1 ho, m_one_out hm.1.1 hn ho]
    exact z_Sim.same h0 rfl rfl
/-! cover, rate -/
theorem w_tm_late (wS : w_S n k q s) (h : 10 ≤ a 25) : ∀ {j : Nat}, j ≤ q → w_tm s a j = 0
  | 0, _ => rfl
  | j + 1, hj => by
    have t := wS.2.2.2.2 j (by omega)
    have e : w_asks s a j 25 = a 25 := w_asks_k wS (Or.inr rfl) (by omega)
    rw [w_tm, w_tm_late wS h (by omega), w_bz, e]
    rw [if_neg (by simp only [Bool.and_eq_true, decide_eq_true_eq]; omega)]
theorem w_wt_late (wS : w_S n k q s) (h : 10 ≤ a 25) : w_wt s k q a = 0 := w_tm_late wS (by rw [w_ins_k wS (Or.inr (Or.inr rfl)) (Nat.le_refl k)]; exact h) (Nat.le_refl q)
theorem w_wts_late (wS : w_S n k q s) (N : Nat) : w_wts s n k q a N = w_wts s n k q a (min N (10 - a 25)) := by
  induction N with
  | zero => rw [Nat.zero_min]
  | succ N ih =>
    by_cases h : N < 10 - a 25
    · rw [show min (N + 1) (10 - a 25) = N + 1 by omega]
    · rw [w_wts, ih, w_wt_late wS (by rw [w_ws_25 wS]; omega), show min (N + 1) (10 - a 25) = min N (10 - a 25) by omega]; rfl
theorem w_wts_mono {t N : Nat} (h : t ≤ N) : w_wts s n k q a t ≤ w_wts s n k q a N := by
  induction N with
  | zero => rw [show t = 0 by omega]; exact Nat.le_refl _
  | succ N ih =>
    by_cases e : t = N + 1
    · rw [e]; exact Nat.le_refl _
    · rw [w_wts]; have := ih (by omega); omega
theorem x_modest_loop (wS : w_S n k q s) (wR : w_R n k B a) (N : Nat) (hN : a 25 + N ≤ 200) (hB : B + 6 * N ≤ 90000) : ∀ (m t F : Nat) (σ : z_St), N = t + m → m < F → x_S σ 4 k q s → x_L σ 17 n k (w_ws s n k q a t) → ∃ σ', f_X6_staysModest_17 F (nI N) (nI t) σ = some (if w_wts s n k q a N = w_wts s n k q a t then 1 else 0, σ') ∧ x_F σ σ' 17 := by
  have hq := wS.2.2.1
  intro m
  induction m with
  | zero =>
    intro t F σ hm hF hS hL
    obtain ⟨F, rfl⟩ : ∃ F', F = F' + 1 := ⟨F - 1, by omega⟩
    have e : t = N := by omega
    subst e
    refine ⟨σ, ?_, x_F.rf⟩
    rw [f_X6_staysModest_17, if_pos (show nI t ≤ nI t from nI_le (by omega) (by omega)), if_pos rfl]
  | succ m ih =>
    intro t F σ hm hF hS hL
    obtain ⟨F, rfl⟩ : ∃ F', F = F' + 1 := ⟨F - 1, by omega⟩
    have et : nI t + 1 = nI (t + 1) := nI_1 t
    have wRt := w_R_ws wS wR t (by omega)
    have l1 : w_wt s k q (w_ws s n k q a t) ≤ 6 := w_wt_le hq
    obtain ⟨σ1, g1, g2, g3, g4⟩ := x_week (b := 17) (by omega) (by omega) wS wRt hS hL
    rw [f_X6_staysModest_17, if_neg (show ¬ nI N ≤ nI t from nI_ge (by omega) (by omega)), g1]
    simp only [z_be]
    have hmo := w_wts_mono (s := s) (n := n) (k := k) (q := q) (a := a) (t := t + 1) (N := N) (by omega)
    have hst : w_wts s n k q a (t + 1) = w_wts s n k q a t + w_wt s k q (w_ws s n k q a t) := rfl
    by_cases hc : w_wt s k q (w_ws s n k q a t) = 0
    · rw [if_pos (show nI (w_wt s k q (w_ws s n k q a t)) ≤ (0 : Int32) by rw [hc]; decide), et]
      obtain ⟨σ2, i1, i2⟩ := ih (t + 1) F σ1 (by omega) (by omega) (hS.fr (by omega) g3) g2
      refine ⟨σ2, ?_, g3.tr i2⟩
      rw [i1, hst, hc]; rfl
    · refine ⟨σ1, ?_, g3⟩
      rw [if_neg (show ¬ nI (w_wt s k q (w_ws s n k q a t)) ≤ (0 : Int32) from nI_ge (a := 0) (by omega) (by omega)), if_neg (by omega)]
theorem x_modest (wS : w_S n k q s) (wR : w_R n k B a) {N : Nat} (hN : N ≤ 20) (hB : B ≤ 80000) (h25 : a 25 ≤ 100) (hS : x_S σ 4 k q s) (hL : x_L σ 17 n k a) : ∃ σ', f_X6_staysModest (nI N) σ = some (if w_wts s n k q a N = 0 then 1 else 0, σ') ∧ x_F σ σ' 17 := by
  unfold f_X6_staysModest
  rw [hL.2.2.2.2.2.2, w_wts_late wS N]
  by_cases h : a 25 ≤ 10
  · rw [show (10 : Int32) = nI 10 from rfl, zn_sub h, z_min_nI (by omega) (by omega), z_bi_eq, show (0 : Int32) = nI 0 from rfl]
    exact x_modest_loop wS wR (min N (10 - a 25)) (by omega) (by omega) (min N (10 - a 25)) 0 200 σ (by omega) (by omega) hS hL
  · have e : (z_min (nI N) ((10 : Int32) - nI (a 25))).toInt ≤ 0 := by
      have e1 : ((10 : Int32) - nI (a 25)).toInt = 10 - (a 25 : Int) := pk_sub_toInt (a := 10) (by omega) (by omega)
      rw [z_min, if_pos ((fa_lt _ _).mpr (by rw [e1, nI_toInt (by omega)]; omega)), e1]
      omega
    refine ⟨σ, ?_, x_F.rf⟩
    rw [z_bi_eq, show (200 : Nat) = 199 + 1 from rfl, f_X6_staysModest_17, if_pos ((fa_le _ _).mpr e), show min N (10 - a 25) = 0 by omega, if_pos (show w_wts s n k q a 0 = 0 from rfl)]
theorem z_try (hv : v_I n k q s st kp ln tp la sz) (hx : x_I σX n k q s st kp ln tp ft tn la sz ce) (hm : m_I σM n k q s st kp ln tp ft tn la sz ce) {j c N : Nat} (hj : j = 7 ∧ c ≤ 9 ∨ j = 8 ∧ c ≤ 99) (hN : N ≤ 20) : ∃ T σ1 σX' σ2 σM', T ≤ 120 ∧ f_X1_copyFrom 17 11 σX = some (0, σ1) ∧ f_X6_staysModest (nI N) (z_put σ1 17 j (nI c)) = some (if T = 0 then 1 else 0, σX') ∧ f_X7_starts σM = some (0, σ2) ∧ f_X7_brazenIn (nI N) (z_put σ2 2 (16 + j) (nI c)) = some (nI T, σM') ∧ x_I σX' n k q s st kp ln tp ft tn la sz ce ∧ m_I σM' n k q s st kp ln tp ft tn la sz ce := by
  have wS := hv.1
  have hn := hv.1.1
  have hk := hv.1.2.1
  have hG := hv.2.1
  have h99 := hG.2.1
  obtain ⟨σ1, σ2, g1, g2, hT⟩ := z_start hv hx hm
  have wR : w_R n k (6 * st 25) (z_nu st (16 + j) c) := hG.1.fld hn hk (by omega) (by omega) (by omega) (by omega) (by omega)
  have hT2 : z_Tr (z_put σ1 17 j (nI c)) (z_put σ2 2 (16 + j) (nI c)) n k q s st kp ln tp ft tn la sz ce (z_nu st (16 + j) c) := ⟨hT.1.tri17 (x_F.rf.put (by omega) (by omega)) hG.2.2.2.1, hT.2.1.at' (m_F.rf.put _ _), hT.2.2.1.fld hn hk (by omega) (by omega), hT.2.2.2.put _ _⟩
  have e25 : z_nu st (16 + j) c 25 = st 25 := z_nu_ne (by omega)
  obtain ⟨σ3, i1, i2⟩ := x_modest (σ := z_put σ1 17 j (nI c)) wS wR hN (by omega) (by omega) hT2.1.1 hT2.2.2.1
  obtain ⟨σ4, j1, j2, j3⟩ := m_brazenIn (st := st) wS wR (N := N) (by omega) (by omega) (by omega) hT2.2.1.1 hT2.2.2.2 hT2.2.1.2.1 (fun p hp => z_nu_ne (by omega))
  have hle := w_wts_le (s := s) (n := n) (k := k) (a := z_nu st (16 + j) c) wS.2.2.1 N
  exact ⟨_, σ1, σ3, σ2, σ4, by omega, g1, i1, g2, j1, hT2.1.tri17 i2 hG.2.2.2.1, hT2.2.1.at' j3⟩
theorem z_cover (hv : v_I n k q s st kp ln tp la sz) {N : Nat} (hN : N ≤ 20) : ∀ (m c F F' : Nat) (σX σM : z_St), 100 = c + m → m < F → m < F' → x_I σX n k q s st kp ln tp ft tn la sz ce → m_I σM n k q s st kp ln tp ft tn la sz ce → z_Sim (f_X6_cover_13 F (nI N) (nI c) σX) (f_X7_leastOf_17 F' 24 99 (nI N) (nI c) σM) := by
  intro m
  induction m with
  | zero =>
    intro c F F' σX σM hmm hF hF' hx hm
    obtain ⟨F, rfl⟩ : ∃ G, F = G + 1 := ⟨F - 1, by omega⟩
    obtain ⟨F', rfl⟩ : ∃ G, F' = G + 1 := ⟨F' - 1, by omega⟩
    have h0 : z_Rel σX σM := ⟨n, k, q, s, st, kp, ln, tp, ft, tn, la, sz, ce, hv, hx, hm⟩
    rw [f_X6_cover_13, f_X7_leastOf_17, if_pos (show (99 : Int32) < nI c from nI_lt (a := 99) (by omega) (by omega)), if_pos (show (99 : Int32) < nI c from nI_lt (a := 99) (by omega) (by omega))]
    exact z_Sim.same h0 rfl rfl
  | succ m ih =>
    intro c F F' σX σM hmm hF hF' hx hm
    obtain ⟨F, rfl⟩ : ∃ G, F = G + 1 := ⟨F - 1, by omega⟩
    obtain ⟨F', rfl⟩ : ∃ G, F' = G + 1 := ⟨F' - 1, by omega⟩
    have ec : nI c + 1 = nI (c + 1) := nI_1 c
    obtain ⟨T, σ1, σ2, σ3, σ4, hT, g1, g2, g3, g4, hx1, hm1⟩ := z_try hv hx hm (j := 8) (c := c) (N := N) (by omega) hN
    rw [f_X6_cover_13, f_X7_leastOf_17, if_neg (show ¬ (99 : Int32) < nI c from nI_nlt (a := 99) (b := c) (by omega) (by omega)), if_neg (show ¬ (99 : Int32) < nI c from nI_nlt (a := 99) (b := c) (by omega) (by omega)), g1, g3]
    simp only [z_be, z_bst_eq]
    rw [g2, show (24 : Int32) = nI 24 from rfl, z_gd_nI (by omega) (by omega), zn_cl (by omega), show f_X7_brazenIn (nI N) (z_put σ3 2 24 (nI c)) = _ from g4]
    simp only [z_be]
    rw [ec]
    by_cases h : T = 0
    · rw [if_pos h, z_f1, if_pos (show nI T = (0 : Int32) by rw [h]; rfl)]
      exact z_Sim.same ⟨n, k, q, s, st, kp, ln, tp, ft, tn, la, sz, ce, hv, hx1, hm1⟩ rfl rfl
    · rw [if_neg h, if_pos rfl, if_neg (show ¬ nI T = (0 : Int32) from nI_ne0 (by omega) (by omega))]
      exact ih (c + 1) F F' σ2 σ4 (by omega) (by omega) (by omega) hx1 hm1
theorem z_rate (hv : v_I n k q s st kp ln tp la sz) {N : Nat} (hN : N ≤ 20) : ∀ (m c F F' : Nat) (σX σM : z_St), 10 = c + m → m < F → m < F' → x_I σX n k q s st kp ln tp ft tn la sz ce → m_I σM n k q s st kp ln tp ft tn la sz ce → z_Sim (f_X6_rate_13 F (nI N) (nI c) σX) (f_X7_leastOf_17 F' 23 9 (nI N) (nI c) σM) := by
  intro m
  induction m with
  | zero =>
    intro c F F' σX σM hmm hF hF' hx hm
    obtain ⟨F, rfl⟩ : ∃ G, F = G + 1 := ⟨F - 1, by omega⟩
    obtain ⟨F', rfl⟩ : ∃ G, F' = G + 1 := ⟨F' - 1, by omega⟩
    have h0 : z_Rel σX σM := ⟨n, k, q, s, st, kp, ln, tp, ft, tn, la, sz, ce, hv, hx, hm⟩
    rw [f_X6_rate_13, f_X7_leastOf_17, if_pos (show (9 : Int32) < nI c from nI_lt (a := 9) (by omega) (by omega)), if_pos (show (9 : Int32) < nI c from nI_lt (a := 9) (by omega) (by omega))]
    exact z_Sim.same h0 rfl rfl
  | succ m ih =>
    intro c F F' σX σM hmm hF hF' hx hm
    obtain ⟨F, rfl⟩ : ∃ G, F = G + 1 := ⟨F - 1, by omega⟩
    obtain ⟨F', rfl⟩ : ∃ G, F' = G + 1 := ⟨F' - 1, by omega⟩
    have ec : nI c + 1 = nI (c + 1) := nI_1 c
    obtain ⟨T, σ1, σ2, σ3, σ4, hT, g1, g2, g3, g4, hx1, hm1⟩ := z_try hv hx hm (j := 7) (c := c) (N := N) (by omega) hN
    rw [f_X6_rate_13, f_X7_leastOf_17, if_neg (show ¬ (9 : Int32) < nI c from nI_nlt (a := 9) (b := c) (by omega) (by omega)), if_neg (show ¬ (9 : Int32) < nI c from nI_nlt (a := 9) (b := c) (by omega) (by omega)), g1, g3]
    simp only [z_be, z_bst_eq]
    rw [g2, show (23 : Int32) = nI 23 from rfl, z_gd_nI (by omega) (by omega), zn_cl (by omega), show f_X7_brazenIn (nI N) (z_put σ3 2 23 (nI c)) = _ from g4]
    simp only [z_be]
    rw [ec]
    by_cases h : T = 0
    · rw [if_pos h, z_f1, if_pos (show nI T = (0 : Int32) by rw [h]; rfl)]
      exact z_Sim.same ⟨n, k, q, s, st, kp, ln, tp, ft, tn, la, sz, ce, hv, hx1, hm1⟩ rfl rfl
    · rw [if_neg h, if_pos rfl, if_neg (show ¬ nI T = (0 : Int32) from nI_ne0 (by omega) (by omega))]
      exact ih (c + 1) F F' σ2 σ4 (by omega) (by omega) (by omega) hx1 hm1
theorem z_bind_id (T : Option (Int32 × z_St)) : (T.bind fun r => some (r.1, r.2)) = T := by cases T <;> rfl
theorem sim_cover (h : z_Rel σX σM) (x : Int32) : z_Sim (f_X6_cover x σX) (f_X7_cover x σM) := by
  have h0 := h
  obtain ⟨n, k, q, s, st, kp, ln, tp, ft, tn, la, sz, ce, hv, hx, hm⟩ := h
  unfold f_X6_cover f_X7_cover f_X7_leastOf
  rw [z_bind_id]
  rcases zn_rng x (m := 21) (by omega) with ⟨N, hN, rfl⟩ | ho
  · rw [show f_X6_isWithin (nI N) 20 σX = _ from x_with_in (m := 20) (by omega) (by omega), m_lit_in (m := 20) (by omega) (by omega) (by decide), z_be, z_be]
    dsimp only
    rw [z_f1, z_f1, show (0 : Int32) = nI 0 from rfl]
    exact z_cover hv (by omega) 100 0 200 200 σX σM (by omega) (by omega) (by omega) hx hm
  · rw [show f_X6_isWithin x 20 σX = _ from x_with_out (m := 20) (by omega) ho, m_lit_out (m := 20) (by omega) (by decide) ho]
    exact z_Sim.same h0 rfl rfl
theorem sim_rate (h : z_Rel σX σM) (x : Int32) : z_Sim (f_X6_rate x σX) (f_X7_rate x σM) := by
  have h0 := h
  obtain ⟨n, k, q, s, st, kp, ln, tp, ft, tn, la, sz, ce, hv, hx, hm⟩ := h
  unfold f_X6_rate f_X7_rate f_X7_leastOf
  rw [z_bind_id]
  rcases zn_rng x (m := 21) (by omega) with ⟨N, hN, rfl⟩ | ho
  · rw [show f_X6_isWithin (nI N) 20 σX = _ from x_with_in (m := 20) (by omega) (by omega), m_lit_in (m := 20) (by omega) (by omega) (by decide), z_be, z_be]
    dsimp only
    rw [z_f1, z_f1, show (0 : Int32) = nI 0 from rfl]
    exact z_rate hv (by omega) 10 0 200 200 σX σM (by omega) (by omega) (by omega) hx hm
  · rw [show f_X6_isWithin x 20 σX = _ from x_with_out (m := 20) (by omega) ho, m_lit_out (m := 20) (by omega) (by decide) ho]
    exact z_Sim.same h0 rfl rfl
end SG
