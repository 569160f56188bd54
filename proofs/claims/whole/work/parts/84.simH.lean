/-! ===== run, holds, drift ===== -/
def w_r1 (a : Nat → Nat) (p : Nat) : Nat → Nat := if a (4 * p + 2) ≤ a 24 then z_nu (z_nu (z_nu a 24 (a 24 - a (4 * p + 2))) (4 * p + 1) (min 999 (a (4 * p + 1) + a (4 * p + 2)))) (4 * p + 2) 0 else a
def w_rr (a : Nat → Nat) : Nat → Nat → Nat
  | 0 => a
  | p + 1 => w_r1 (w_rr a p) p
def w_nt (a : Nat → Nat) : Nat → Nat
  | 0 => 0
  | p + 1 => if a (4 * p + 2) = 0 then w_nt a p ||| 2 ^ p else w_nt a p
section SH
variable {σ σ' σX σM : z_St} {b n k q B : Nat} {s : z_Sy} {st kp : Nat → Nat} {ln : Nat} {tp : Nat → Nat} {ft tn : Int32} {la : Nat → Int32} {sz : Nat → Nat} {ce : Nat → Nat → Int32} {a : Nat → Nat}
theorem w_R_r1 (hn : n ≤ 4) (hk : k ≤ 6) (wR : w_R n k B a) {p : Nat} (hp : p < n) : w_R n k B (w_r1 a p) := by
  rw [w_r1]
  split
  · have := wR.2.2.2.2.1
    exact ((wR.fld hn hk (by omega) (by omega) (by omega) (by omega) (by omega)).hand hn hp (by omega)).bank hn hp (by omega)
  · exact wR
theorem w_R_rr (hn : n ≤ 4) (hk : k ≤ 6) (wR : w_R n k B a) : ∀ {p : Nat}, p ≤ n → w_R n k B (w_rr a p)
  | 0, _ => wR
  | p + 1, h => w_R_r1 hn hk (w_R_rr hn hk wR (by omega)) (by omega)
theorem w_rr_no : ∀ {p : Nat}, p ≤ 4 → ∀ j, j < p → w_rr a p (4 * j + 2) = 0 ∨ w_rr a p 24 < w_rr a p (4 * j + 2)
  | 0, _, j, hj => absurd hj (by omega)
  | p + 1, h, j, hj => by
    have ih := w_rr_no (p := p) (by omega)
    rw [w_rr, w_r1]
    by_cases hc : w_rr a p (4 * p + 2) ≤ w_rr a p 24
    · rw [if_pos hc]
      by_cases e : j = p
      · subst e; rw [z_nu_eq]; exact Or.inl rfl
      · rw [z_nu_ne (by omega), z_nu_ne (by omega), z_nu_ne (by omega), z_nu_ne (by omega), z_nu_ne (by omega), z_nu_eq]
        rcases ih j (by omega) with h1 | h1
        · exact Or.inl h1
        · right; omega
    · rw [if_neg hc]
      by_cases e : j = p
      · subst e; right; omega
      · exact ih j (by omega)
theorem x_run_loop (hn : n ≤ 4) (hk : k ≤ 6) (wR : w_R n k B a) : ∀ (m p F : Nat) (σ : z_St), n = p + m → m < F → x_L σ b n k (w_rr a p) → ∃ σ', f_X1_runToCounter_2 b F (nI p) σ = some (0, σ') ∧ x_L σ' b n k (w_rr a n) ∧ x_F σ σ' b := by
  intro m
  induction m with
  | zero =>
    intro p F σ hm hF hL
    obtain ⟨F, rfl⟩ : ∃ F', F = F' + 1 := ⟨F - 1, by omega⟩
    have e : p = n := by omega
    subst e
    refine ⟨σ, ?_, hL, x_F.rf⟩
    rw [f_X1_runToCounter_2, hL.1, if_pos (show nI p ≤ nI p from nI_le (by omega) (by omega))]
  | succ m ih =>
    intro p F σ hm hF hL
    obtain ⟨F, rfl⟩ : ∃ F', F = F' + 1 := ⟨F - 1, by omega⟩
    have ep : nI p + 1 = nI (p + 1) := nI_1 p
    have wRp := w_R_rr hn hk wR (p := p) (by omega)
    have r1 := wRp.1 p (by omega)
    have r2 := wRp.2.2.2.2.1
    obtain ⟨c1, c2, c3, c4⟩ := hL.2.1 p (by omega)
    have c8 := hL.2.2.2.2.2.1
    rw [f_X1_runToCounter_2, hL.1, if_neg (show ¬ nI n ≤ nI p from nI_ge (by omega) (by omega))]
    simp (disch := omega) only [z_gd_nI, zn_cl, c3, c8, z_bst_eq]
    rw [ep]
    have step : w_rr a (p + 1) = w_r1 (w_rr a p) p := rfl
    by_cases hc : w_rr a p (4 * p + 2) ≤ w_rr a p 24
    · rw [if_neg (nI_nlt (by omega) (by omega)), zn_sub hc]
      have hL1 : x_L (z_put σ b 8 (nI (w_rr a p 24 - w_rr a p (4 * p + 2)))) b n k (z_nu (w_rr a p) 24 (w_rr a p 24 - w_rr a p (4 * p + 2))) := hL.fld hn hk (j := 8) (by omega) (by omega)
      have wR1 : w_R n k B (z_nu (w_rr a p) 24 (w_rr a p 24 - w_rr a p (4 * p + 2))) := wRp.fld hn hk (by omega) (by omega) (by omega) (by omega) (by omega)
      have i1 := x_putInHand (p := p) (v := w_rr a p (4 * p + 2)) hn wR1 hL1 (by omega) (by omega)
      rw [z_put_ne (by omega), c3, i1]
      simp only [z_be]
      have hL2 := (hL1.hand hn (p := p) (v := min 999 (z_nu (w_rr a p) 24 (w_rr a p 24 - w_rr a p (4 * p + 2)) (4 * p + 1) + w_rr a p (4 * p + 2))) (by omega)).bank hn (p := p) (v := 0) (by omega)
      obtain ⟨σ', j1, j2, j3⟩ := ih (p + 1) F _ (by omega) (by omega) (by
        rw [step, w_r1, if_pos hc]
        rw [z_nu_ne (a := w_rr a p) (by omega)] at hL2
        exact hL2)
      refine ⟨σ', ?_, j2, (((x_F.rf.put (by omega) (by omega)).put (by omega) (by omega)).put (by omega) (by omega)).tr j3⟩
      rw [show (0 : Int32) = nI 0 from rfl, z_nu_ne (a := w_rr a p) (by omega)]
      exact j1
    · rw [if_pos (nI_lt (by omega) (by omega))]
      exact ih (p + 1) F σ (by omega) (by omega) (by rw [step, w_r1, if_neg hc]; exact hL)
theorem x_run (hn : n ≤ 4) (hk : k ≤ 6) (wR : w_R n k B a) (hL : x_L σ b n k a) : ∃ σ', f_X1_runToCounter b σ = some (0, σ') ∧ x_L σ' b n k (w_rr a n) ∧ x_F σ σ' b := x_run_loop hn hk wR n 0 200 σ (by omega) (by omega) hL
theorem m_run_loop (hn : n ≤ 4) (hk : k ≤ 6) (wR : w_R n k B a) (K : Int32 → z_St → Option (Int32 × z_St)) : ∀ (m p F : Nat) (x1 : Int32) (σ : z_St), n = p + m → m < F → (x1 = 0 ∨ x1 = 1) → σ 0 3 = nI n → m_A σ (w_rr a p) → ∃ c σ', (c = 0 ∨ c = 1) ∧ f_X7_runs_10 K F x1 (nI p) σ = K c σ' ∧ m_A σ' (w_rr a n) ∧ m_F σ σ' := by
  intro m
  induction m with
  | zero =>
    intro p F x1 σ hm hF h1 h3 hA
    obtain ⟨F, rfl⟩ : ∃ F', F = F' + 1 := ⟨F - 1, by omega⟩
    have e : p = n := by omega
    subst e
    refine ⟨x1, σ, h1, ?_, hA, m_F.rf⟩
    rw [f_X7_runs_10, h3, if_pos (show nI p ≤ nI p from nI_le (by omega) (by omega))]
  | succ m ih =>
    intro p F x1 σ hm hF h1 h3 hA
    obtain ⟨F, rfl⟩ : ∃ F', F = F' + 1 := ⟨F - 1, by omega⟩
    have ep : nI p + 1 = nI (p + 1) := nI_1 p
    have wRp := w_R_rr hn hk wR (p := p) (by omega)
    have r1 := wRp.1 p (by omega)
    have r2 := wRp.2.2.2.2.1
    have step : w_rr a (p + 1) = w_r1 (w_rr a p) p := rfl
    rw [f_X7_runs_10, h3, if_neg (show ¬ nI n ≤ nI p from nI_ge (by omega) (by omega)), show f_X7_of (nI p) 2 σ = _ from m_of (w := 2) hA (by omega)]
    simp only [z_be]
    rw [ep, hA 24 (by omega)]
    by_cases h0 : w_rr a p (4 * p + 2) = 0
    · rw [if_pos (show nI (w_rr a p (4 * p + 2)) ≤ (0 : Int32) by rw [h0]; decide)]
      refine ih (p + 1) F x1 σ (by omega) (by omega) h1 h3 ?_
      have e : w_r1 (w_rr a p) p = w_rr a p := by
        rw [w_r1, if_pos (by omega), h0, z_nu_self (i := 24) (by omega), z_nu_self (i := 4 * p + 1) (by omega), z_nu_self h0]
      rw [step, e]; exact hA
    · rw [if_neg (show ¬ nI (w_rr a p (4 * p + 2)) ≤ (0 : Int32) from nI_ge (a := 0) (by omega) (by omega))]
      by_cases hc : w_rr a p (4 * p + 2) ≤ w_rr a p 24
      · rw [if_neg (nI_nlt (by omega) (by omega)), zn_sub hc, z_bst_eq]
        have hA1 := hA.put 24 (w_rr a p 24 - w_rr a p (4 * p + 2))
        have i1 := m_more (σ := z_put σ 2 24 (nI (w_rr a p 24 - w_rr a p (4 * p + 2)))) (p := p) (w := 1) (x3 := nI (w_rr a p (4 * p + 2))) (t := w_rr a p (4 * p + 1) + w_rr a p (4 * p + 2)) (by omega) (by rw [hA1 _ (by omega), z_nu_ne (by omega), zn_add]) (by omega)
        have hA2 := hA1.put (4 * p + 1) (min 999 (w_rr a p (4 * p + 1) + w_rr a p (4 * p + 2)))
        have i2 := m_more (σ := z_put (z_put σ 2 24 (nI (w_rr a p 24 - w_rr a p (4 * p + 2)))) 2 (4 * p + 1) (nI (min 999 (w_rr a p (4 * p + 1) + w_rr a p (4 * p + 2))))) (p := p) (w := 2) (x3 := -nI (w_rr a p (4 * p + 2))) (t := 0) (by omega) (by rw [hA2 _ (by omega), z_nu_ne (by omega), z_nu_ne (by omega), zn_addn (Nat.le_refl _), Nat.sub_self]) (by omega)
        have hA3 := hA2.put (4 * p + 2) 0
        rw [show f_X7_more (nI p) 1 (nI (w_rr a p (4 * p + 2))) (z_put σ 2 24 (nI (w_rr a p 24 - w_rr a p (4 * p + 2)))) = _ from i1]
        simp only [z_be]
        rw [show f_X7_more (nI p) 2 (-nI (w_rr a p (4 * p + 2))) _ = _ from i2]
        simp only [z_be]
        obtain ⟨c, σ', j0, j1, j2, j3⟩ := ih (p + 1) F 1 (z_put (z_put (z_put σ 2 24 (nI (w_rr a p 24 - w_rr a p (4 * p + 2)))) 2 (4 * p + 1) (nI (min 999 (w_rr a p (4 * p + 1) + w_rr a p (4 * p + 2))))) 2 (4 * p + 2) (nI 0)) (by omega) (by omega) (Or.inr rfl) (by rw [z_put_ne (by omega), z_put_ne (by omega), z_put_ne (by omega)]; exact h3) (by rw [step, w_r1, if_pos hc]; exact hA3)
        exact ⟨c, σ', j0, j1, j2, (((m_F.rf.put _ _).put _ _).put _ _).tr j3⟩
      · rw [if_pos (nI_lt (by omega) (by omega))]
        exact ih (p + 1) F x1 σ (by omega) (by omega) h1 h3 (by rw [step, w_r1, if_neg hc]; exact hA)
theorem m_run_no (hn : n ≤ 4) (wR : w_R n k B a) (hno : ∀ j, j < n → a (4 * j + 2) = 0 ∨ a 24 < a (4 * j + 2)) (h3 : σ 0 3 = nI n) (hA : m_A σ a) (K : Int32 → z_St → Option (Int32 × z_St)) (x1 : Int32) : ∀ (m p F : Nat), n = p + m → m < F → f_X7_runs_10 K F x1 (nI p) σ = K x1 σ := by
  intro m
  induction m with
  | zero =>
    intro p F hm hF
    obtain ⟨F, rfl⟩ : ∃ F', F = F' + 1 := ⟨F - 1, by omega⟩
    rw [f_X7_runs_10, h3, if_pos (show nI n ≤ nI p from nI_le (by omega) (by omega))]
  | succ m ih =>
    intro p F hm hF
    obtain ⟨F, rfl⟩ : ∃ F', F = F' + 1 := ⟨F - 1, by omega⟩
    have ep : nI p + 1 = nI (p + 1) := nI_1 p
    have r1 := wR.1 p (by omega)
    have r2 := wR.2.2.2.2.1
    rw [f_X7_runs_10, h3, if_neg (show ¬ nI n ≤ nI p from nI_ge (by omega) (by omega)), show f_X7_of (nI p) 2 σ = _ from m_of (w := 2) hA (by omega)]
    simp only [z_be]
    rw [ep, hA 24 (by omega), ih (p + 1) F (by omega) (by omega)]
    rcases hno p (by omega) with h0 | h0
    · rw [if_pos (show nI (a (4 * p + 2)) ≤ (0 : Int32) by rw [h0]; decide)]
    · rw [if_neg (show ¬ nI (a (4 * p + 2)) ≤ (0 : Int32) from nI_ge (a := 0) (by omega) (by omega)), if_pos (nI_lt h0 (by omega))]
theorem m_run (hn : n ≤ 4) (hk : k ≤ 6) (wR : w_R n k B a) (h3 : σ 0 3 = nI n) (hA : m_A σ a) : ∃ σ', f_X7_runs σ = some (0, σ') ∧ m_A σ' (w_rr a n) ∧ m_F σ σ' := by
  obtain ⟨c, σ1, h0, g1, g2, g3⟩ := m_run_loop hn hk wR (fun x1 σ => f_X7_runs_2 199 x1 σ) n 0 200 0 σ (by omega) (by omega) (Or.inl rfl) h3 hA
  refine ⟨σ1, ?_, g2, g3⟩
  unfold f_X7_runs
  rw [show f_X7_runs_2 200 1 σ = (if (1 : Int32) = 0 then some (0, σ) else f_X7_runs_10 (fun x1 σ => f_X7_runs_2 199 x1 σ) 200 0 0 σ) from by rw [f_X7_runs_2], z_f1, show (f_X7_runs_10 (fun x1 σ => f_X7_runs_2 199 x1 σ) 200 0 0 σ) = _ from g1]
  show f_X7_runs_2 199 c σ1 = _
  rcases h0 with rfl | rfl
  · rw [f_X7_runs_2, if_pos rfl]
  · rw [f_X7_runs_2, z_f1, show (f_X7_runs_10 (fun x1 σ => f_X7_runs_2 198 x1 σ) 200 0 0 σ1) = _ from m_run_no hn (w_R_rr hn hk wR (Nat.le_refl n)) (w_rr_no hn) (by rw [g3.2 3 (by omega)]; exact h3) g2 (fun x1 σ => f_X7_runs_2 198 x1 σ) 0 n 0 200 (by omega) (by omega)]
    show f_X7_runs_2 198 0 σ1 = _
    rw [f_X7_runs_2, if_pos rfl]
theorem x_who_loop (hL : x_L σ b n k a) (hn : n ≤ 4) (wR : w_R n k B a) : ∀ (m p F : Nat), n = p + m → m < F → f_X1_whoHasNothingThere_4 b F (nI (w_nt a p)) (nI p) σ = some (nI (w_nt a n), σ) := by
  intro m
  induction m with
  | zero =>
    intro p F hm hF
    obtain ⟨F, rfl⟩ : ∃ F', F = F' + 1 := ⟨F - 1, by omega⟩
    have e : p = n := by omega
    subst e
    rw [f_X1_whoHasNothingThere_4, hL.1, if_pos (show nI p ≤ nI p from nI_le (by omega) (by omega))]
  | succ m ih =>
    intro p F hm hF
    obtain ⟨F, rfl⟩ : ∃ F', F = F' + 1 := ⟨F - 1, by omega⟩
    have ep : nI p + 1 = nI (p + 1) := nI_1 p
    have r1 := wR.1 p (by omega)
    obtain ⟨c1, c2, c3, c4⟩ := hL.2.1 p (by omega)
    have ih' := ih (p + 1) F (by omega) (by omega)
    rw [w_nt] at ih'
    rw [f_X1_whoHasNothingThere_4, hL.1, if_neg (show ¬ nI n ≤ nI p from nI_ge (by omega) (by omega))]
    simp (disch := omega) only [z_gd_nI, zn_cl, c3, z_bi_eq]
    rw [ep, zb_set (by omega)]
    by_cases h : a (4 * p + 2) = 0
    · rw [if_pos (show nI (a (4 * p + 2)) = (0 : Int32) by rw [h]; rfl)]
      rw [if_pos h] at ih'; exact ih'
    · rw [if_neg (show ¬ nI (a (4 * p + 2)) = (0 : Int32) from nI_ne0 (by omega) (by omega))]
      rw [if_neg h] at ih'; exact ih'
theorem m_who_loop (hA : m_A σ a) (h3 : σ 0 3 = nI n) (hn : n ≤ 4) (wR : w_R n k B a) (x1 : Int32) : ∀ (m p F : Nat), n = p + m → m < F → ∃ F', f_X7_run_26 F x1 (nI (w_nt a p)) (nI p) σ = f_X7_run_26 (F' + 1) x1 (nI (w_nt a n)) (nI n) σ := by
  intro m
  induction m with
  | zero =>
    intro p F hm hF
    obtain ⟨F, rfl⟩ : ∃ F', F = F' + 1 := ⟨F - 1, by omega⟩
    have e : p = n := by omega
    subst e
    exact ⟨F, rfl⟩
  | succ m ih =>
    intro p F hm hF
    obtain ⟨F, rfl⟩ : ∃ F', F = F' + 1 := ⟨F - 1, by omega⟩
    have ep : nI p + 1 = nI (p + 1) := nI_1 p
    have r1 := wR.1 p (by omega)
    obtain ⟨F', ih'⟩ := ih (p + 1) F (by omega) (by omega)
    refine ⟨F', ?_⟩
    rw [w_nt] at ih'
    rw [f_X7_run_26, h3, if_neg (show ¬ nI n ≤ nI p from nI_ge (by omega) (by omega)), show f_X7_of (nI p) 2 σ = _ from m_of (w := 2) hA (by omega)]
    simp only [z_be]
    rw [show f_X7_flag 1 σ = some (1, σ) from rfl, show f_X7_flag 0 σ = some (0, σ) from rfl]
    simp only [z_be, z_bi_eq]
    rw [ep, zb_set (by omega), zs_0 p (by omega), Int32.or_zero]
    by_cases h : a (4 * p + 2) = 0
    · rw [if_pos (show nI (a (4 * p + 2)) = (0 : Int32) by rw [h]; rfl)]
      rw [if_pos h] at ih'; exact ih'
    · rw [if_neg (show ¬ nI (a (4 * p + 2)) = (0 : Int32) from nI_ne0 (by omega) (by omega))]
      rw [if_neg h] at ih'; exact ih'
theorem sim_run (h : z_Rel σX σM) (x : Int32) : z_Sim (f_X6_run x σX) (f_X7_run x σM) := by
  have h0 := h
  obtain ⟨n, k, q, s, st, kp, ln, tp, ft, tn, la, sz, ce, hv, hx, hm⟩ := h
  have hn := hv.1.1
  have hk := hv.1.2.1
  have hG := hv.2.1
  unfold f_X6_run f_X7_run
  rcases zn_rng x (m := 3) (by omega) with ⟨w, hw, rfl⟩ | ho
  · rw [show f_X6_isWithin (nI w) 2 σX = _ from x_with_in (m := 2) (by omega) (by omega), m_lit_in (m := 2) (by omega) (by omega) (by decide), z_be, z_be]
    dsimp only
    obtain ⟨σ1, σ2, g1, g2, hT⟩ := z_start hv hx hm
    obtain ⟨σ3, i1, i2, i3⟩ := x_run (b := 17) hn hk hG.1 hT.2.2.1
    obtain ⟨σ4, j1, j2, j3⟩ := m_run hn hk hG.1 hT.2.1.1.1 hT.2.2.2
    have wR := w_R_rr hn hk hG.1 (Nat.le_refl n)
    have hx3 := hT.1.tri17 i3 hG.2.2.2.1
    have hm4 := hT.2.1.at' j3
    have hr : z_Rel σ3 σ4 := ⟨n, k, q, s, st, kp, ln, tp, ft, tn, la, sz, ce, hv, hx3, hm4⟩
    rw [z_f1, z_f1, g1, g2]
    simp only [z_be]
    rw [i1, j1]
    simp only [z_be]
    obtain ⟨F', l1⟩ := m_who_loop j2 hm4.1.1 hn wR (nI w) n 0 200 (by omega) (by omega)
    rw [show f_X7_run_26 200 (nI w) 0 0 σ4 = _ from l1, f_X7_run_26, hm4.1.1, if_pos (show nI n ≤ nI n from nI_le (by omega) (by omega)), x_sumAtBank i2 hn, show f_X7_allOf 2 σ4 = _ from m_allOf (w := 2) j2 hm4.1.1 hn (by omega), show f_X1_whoHasNothingThere 17 σ3 = _ from x_who_loop i2 hn wR n 0 200 (by omega) (by omega)]
    simp only [z_be]
    refine z_Sim.ite (fun _ => z_Sim.same hr rfl rfl) (fun _ => ?_)
    refine z_Sim.ite (fun _ => ?_) (fun _ => z_Sim.same hr rfl rfl)
    rw [i2.2.2.2.2.2.1, j2 24 (by omega)]
    exact z_Sim.same hr rfl rfl
  · rw [show f_X6_isWithin x 2 σX = _ from x_with_out (m := 2) (by omega) ho, m_lit_out (m := 2) (by omega) (by decide) ho]
    exact z_Sim.same h0 rfl rfl
theorem w_sm_le (wR : w_R n k B a) : ∀ {p : Nat}, p ≤ n → w_sm a 2 p ≤ 999 * p
  | 0, _ => Nat.le_refl _
  | p + 1, h => by
    have := w_sm_le wR (p := p) (by omega)
    have := (wR.1 p (by omega)).2.2.1
    rw [w_sm]; omega
theorem z_holds (hv : v_I n k q s st kp ln tp la sz) : ∀ (m c F F' : Nat) (σX σM : z_St), 100 = c + m → m < F → m < F' → x_I σX n k q s st kp ln tp ft tn la sz ce → m_I σM n k q s st kp ln tp ft tn la sz ce → z_Sim (f_X6_holds_2 F (nI c) σX) (f_X7_holds_2 F' (nI c) σM) := by
  have hn := hv.1.1
  have hk := hv.1.2.1
  have hG := hv.2.1
  intro m
  induction m with
  | zero =>
    intro c F F' σX σM hmm hF hF' hx hm
    obtain ⟨F, rfl⟩ : ∃ G, F = G + 1 := ⟨F - 1, by omega⟩
    obtain ⟨F', rfl⟩ : ∃ G, F' = G + 1 := ⟨F' - 1, by omega⟩
    have h0 : z_Rel σX σM := ⟨n, k, q, s, st, kp, ln, tp, ft, tn, la, sz, ce, hv, hx, hm⟩
    rw [f_X6_holds_2, f_X7_holds_2, if_pos (show (99 : Int32) < nI c from nI_lt (a := 99) (by omega) (by omega)), if_pos (show (99 : Int32) < nI c from nI_lt (a := 99) (by omega) (by omega))]
    exact z_Sim.same h0 rfl rfl
  | succ m ih =>
    intro c F F' σX σM hmm hF hF' hx hm
    obtain ⟨F, rfl⟩ : ∃ G, F = G + 1 := ⟨F - 1, by omega⟩
    obtain ⟨F', rfl⟩ : ∃ G, F' = G + 1 := ⟨F' - 1, by omega⟩
    have ec : nI c + 1 = nI (c + 1) := nI_1 c
    obtain ⟨σ1, σ2, g1, g2, hT⟩ := z_start hv hx hm
    have wR : w_R n k (6 * st 25) (z_nu st 24 c) := hG.1.fld hn hk (by omega) (by omega) (by omega) (by omega) (by omega)
    have hT2 : z_Tr (z_put σ1 17 8 (nI c)) (z_put σ2 2 24 (nI c)) n k q s st kp ln tp ft tn la sz ce (z_nu st 24 c) := ⟨hT.1.tri17 (x_F.rf.put (by omega) (by omega)) hG.2.2.2.1, hT.2.1.at' (m_F.rf.put _ _), hT.2.2.1.fld hn hk (j := 8) (by omega) (by omega), hT.2.2.2.put _ _⟩
    obtain ⟨σ3, i1, i2, i3⟩ := x_run (b := 17) hn hk wR hT2.2.2.1
    obtain ⟨σ4, j1, j2, j3⟩ := m_run hn hk wR hT2.2.1.1.1 hT2.2.2.2
    have hx3 := hT2.1.tri17 i3 hG.2.2.2.1
    have hm4 := hT2.2.1.at' j3
    rw [f_X6_holds_2, f_X7_holds_2, if_neg (show ¬ (99 : Int32) < nI c from nI_nlt (a := 99) (b := c) (by omega) (by omega)), if_neg (show ¬ (99 : Int32) < nI c from nI_nlt (a := 99) (b := c) (by omega) (by omega)), g1, g2]
    simp only [z_be, z_bst_eq]
    rw [i1, j1]
    simp only [z_be]
    rw [x_sumAtBank i2 hn, show f_X7_allOf 2 σ4 = _ from m_allOf (w := 2) j2 hm4.1.1 hn (by omega)]
    simp only [z_be]
    rw [ec]
    refine z_Sim.ite (fun _ => z_Sim.same ⟨n, k, q, s, st, kp, ln, tp, ft, tn, la, sz, ce, hv, hx3, hm4⟩ rfl rfl) (fun _ => ?_)
    exact ih (c + 1) F F' σ3 σ4 (by omega) (by omega) (by omega) hx3 hm4
theorem sim_holds (h : z_Rel σX σM) : z_Sim (f_X6_holds σX) (f_X7_holds σM) := by
  obtain ⟨n, k, q, s, st, kp, ln, tp, ft, tn, la, sz, ce, hv, hx, hm⟩ := h
  unfold f_X6_holds f_X7_holds
  rw [show (0 : Int32) = nI 0 from rfl]
  exact z_holds hv 100 0 200 200 σX σM (by omega) (by omega) (by omega) hx hm
/-! drift -/
theorem zd_us (v : Int32) : z_us v 16 &&& 32767 = (v >>> ((16 : Int32) &&& 31)) &&& 32767 := by
  apply Int32.toBitVec_inj.mp
  show ((v.toBitVec >>> (16#32)) &&& 32767#32) = (v.toBitVec.sshiftRight' ((16#32 &&& 31#32).smod 32) &&& 32767#32)
  rw [show (16#32 &&& 31#32).smod 32 = 16#32 from by decide]
  apply BitVec.eq_of_getLsbD_eq
  intro i hi
  rw [BitVec.getLsbD_and, BitVec.getLsbD_and]
  by_cases h : i < 15
  · congr 1
    show (v.toBitVec >>> (16 : Nat)).getLsbD i = (v.toBitVec.sshiftRight 16).getLsbD i
    rw [BitVec.getLsbD_ushiftRight, BitVec.getLsbD_sshiftRight]
    rw [show decide (32 ≤ i) = false from decide_eq_false (by omega), if_pos (by omega)]
    rfl
  · have : (32767#32).getLsbD i = false := by
      show (32767 : Nat).testBit i = false
      exact Nat.testBit_lt_two_pow (Nat.lt_of_lt_of_le (show 32767 < 2 ^ 15 by decide) (Nat.pow_le_pow_right (by omega) (by omega)))
    rw [this, Bool.and_false, Bool.and_false]
theorem zd_n (v : Int32) : ∃ w, w < 32768 ∧ z_us v 16 &&& 32767 = nI w := by
  refine ⟨(v.toBitVec >>> (16#32)).toNat % 2 ^ 15, by have := Nat.mod_lt ((v.toBitVec >>> (16#32)).toNat) (show 2 ^ 15 > 0 by decide); omega, ?_⟩
  have e : z_us v 16 = nI (v.toBitVec >>> (16#32)).toNat := by
    apply Int32.toBitVec_inj.mp
    show v.toBitVec >>> (16#32) = BitVec.ofNat 32 _
    rw [BitVec.ofNat_toNat, BitVec.setWidth_eq]
  rw [e, show (32767 : Int32) = nI (2 ^ 15 - 1) from rfl, fa_mask]
theorem z_drift (hv : v_I n k q s st kp ln tp la sz) {N : Nat} (hN : N ≤ 20) (h0 : 0 < n) (x3 : Int32) : ∀ (m t F F' T : Nat) (sd : Int32) (a : Nat → Nat) (σX σM : z_St), N = t + m → m < F → m < F' → z_Tr σX σM n k q s st kp ln tp ft tn la sz ce a → w_R n k (6 * st 25 + 6 * t) a → a 25 = st 25 + t → w_bs a n = w_bs st n + T → (∀ p, p < n → st (4 * p + 3) ≤ a (4 * p + 3)) → z_Sim (f_X6_drift_54 F (nI N) x3 (nI T) sd (nI t) σX) (f_X7_drift_41 F' (nI N) x3 sd (nI t) σM) := by
  have wS := hv.1
  have hn := hv.1.1
  have hG := hv.2.1
  have h99 := hG.2.1
  intro m
  induction m with
  | zero =>
    intro t F F' T sd a σX σM hm hF hF' hT wR h25 hbs hle
    obtain ⟨F, rfl⟩ : ∃ G, F = G + 1 := ⟨F - 1, by omega⟩
    obtain ⟨F', rfl⟩ : ∃ G, F' = G + 1 := ⟨F' - 1, by omega⟩
    have hr := z_Tr.rel hv hT
    rw [f_X6_drift_54, f_X7_drift_41, if_pos (show nI N ≤ nI t from nI_le (by omega) (by omega)), if_pos (show nI N ≤ nI t from nI_le (by omega) (by omega)), x_sumInHand hT.2.2.1 hn, show f_X7_allOf 1 σM = _ from m_allOf (w := 1) hT.2.2.2 hT.2.1.1.1 hn (by omega), m_brazenMore (st := st) hT.2.2.2 hT.2.1.2.1 hT.2.1.1.1 hn hle, hbs, show w_bs st n + T - w_bs st n = T by omega]
    simp only [z_be]
    exact z_Sim.ite (fun _ => z_Sim.same hr rfl rfl) (fun _ => z_Sim.same hr rfl rfl)
  | succ m ih =>
    intro t F F' T sd a σX σM hm hF hF' hT wR h25 hbs hle
    obtain ⟨F, rfl⟩ : ∃ G, F = G + 1 := ⟨F - 1, by omega⟩
    obtain ⟨F', rfl⟩ : ∃ G, F' = G + 1 := ⟨F' - 1, by omega⟩
    have et : nI t + 1 = nI (t + 1) := nI_1 t
    rw [f_X6_drift_54, f_X7_drift_41, if_neg (show ¬ nI N ≤ nI t from nI_ge (by omega) (by omega)), if_neg (show ¬ nI N ≤ nI t from nI_ge (by omega) (by omega))]
    simp only [z_bi_eq]
    rw [← zd_us]
    generalize sd * 1103515245 + 12345 = v
    obtain ⟨w, hw, ew⟩ := zd_n v
    rw [ew, hT.1.2.1.1, hT.2.1.1.1, z_nz_nI h0 (by omega), z_nz_nI h0 (by omega), z_nz_nI h0 (by omega), show (10 : Int32) = nI 10 from rfl, zn_rem (by omega) h0 (by omega), zn_rem (by omega) (by omega) (by omega)]
    have hp : w % n < n := Nat.mod_lt _ h0
    generalize w % n = p at hp
    have hg : w % 10 < 10 := Nat.mod_lt _ (by omega)
    generalize w % 10 = g at hg
    have hR := (wR.1 p hp).2.1
    have i1 := x_putInHand (p := p) (v := g) hn wR hT.2.2.1 hp (by omega)
    have hT2 : z_Tr (z_put σX (17 + 2) p (nI (min 999 (a (4 * p + 1) + g)))) (z_put σM 2 (4 * p + 1) (nI (min 999 (a (4 * p + 1) + g)))) n k q s st kp ln tp ft tn la sz ce (z_nu a (4 * p + 1) (min 999 (a (4 * p + 1) + g))) := ⟨hT.1.tri17 (x_F.rf.put (by omega) (by omega)) hG.2.2.2.1, hT.2.1.at' (m_F.rf.put _ _), hT.2.2.1.hand hn (by omega), hT.2.2.2.put _ _⟩
    obtain ⟨σ1, σ2, g1, g2, hT3, -, -⟩ := z_week hv hT2 (wR.hand hn hp (by omega)) (by omega)
    rw [i1, show f_X7_of (nI p) 1 σM = _ from m_of (w := 1) hT.2.2.2 (by omega)]
    simp only [z_be]
    rw [zn_add, show (999 : Int32) = nI 999 from rfl, m_least (by omega) (by omega)]
    simp only [z_be]
    rw [show (4 : Int32) * nI p + (1 : Int32) = nI (4 * p + 1) by rw [show (4 : Int32) = nI 4 from rfl, show (1 : Int32) = nI 1 from rfl, zn_mul, zn_add], z_gd_nI (by omega) (by omega), zn_cl (by omega), z_bst_eq, g1, g2]
    simp only [z_be]
    rw [zn_add, et]
    refine ih (t + 1) F F' _ v _ σ1 σ2 (by omega) (by omega) (by omega) hT3 ?_ ?_ ?_ ?_
    · exact (w_R_wk wS (wR.hand hn hp (by omega)) (by rw [z_nu_ne (by omega), h25]; omega)).mono (by omega)
    · rw [w_wk_25 wS, z_nu_ne (by omega), h25]; omega
    · rw [w_bs_wk wS, w_bs_nu (by omega) hn, hbs]; omega
    · intro p' hp'
      refine Nat.le_trans ?_ (w_br_wk wS (by omega))
      rw [z_nu_ne (by omega)]; exact hle p' hp'
theorem sim_drift (h : z_Rel σX σM) (x y z : Int32) : z_Sim (f_X6_drift x y z σX) (f_X7_drift x y z σM) := by
  have h0 := h
  obtain ⟨n, k, q, s, st, kp, ln, tp, ft, tn, la, sz, ce, hv, hx, hm⟩ := h
  have hn := hv.1.1
  have hG := hv.2.1
  unfold f_X6_drift f_X7_drift
  by_cases h1 : y < 1
  · rw [if_pos h1, m_in_out (Or.inl (by have := (fa_lt _ _).mp h1; exact this)), z_be]
    exact z_Sim.same h0 rfl rfl
  rw [if_neg h1]
  have h1' : (1 : Int) ≤ y.toInt := by
    have : ¬ y.toInt < 1 := fun q => h1 ((fa_lt _ _).mpr q)
    omega
  by_cases h2 : 20 < y
  · rw [if_pos h2, m_in_out (Or.inr (by have := (fa_lt _ _).mp h2; exact this)), z_be]
    exact z_Sim.same h0 rfl rfl
  rw [if_neg h2]
  have h2' : y.toInt ≤ 20 := by
    have : ¬ (20 : Int) < y.toInt := fun q => h2 ((fa_lt _ _).mpr q)
    omega
  rw [m_in_in (by exact h1') (by exact h2'), z_be]
  dsimp only
  rw [z_f1]
  rcases zn_rng z (m := 2) (by omega) with ⟨w, hw, rfl⟩ | ho
  · rw [show f_X6_isWithin (nI w) 1 σX = _ from x_with_in (m := 1) (by omega) (by omega), m_part_in (by omega), z_be, z_be]
    dsimp only
    rw [z_f1, z_f1]
    by_cases hz : n = 0
    · rw [if_pos (show σX 11 0 = 0 by rw [hx.2.1.1, hz]; rfl), if_pos (show σM 0 3 = 0 by rw [hm.1.1, hz]; rfl)]
      exact z_Sim.same h0 rfl rfl
    rw [if_neg (show ¬ σX 11 0 = 0 by rw [hx.2.1.1]; exact nI_ne0 (by omega) (by omega)), if_neg (show ¬ σM 0 3 = 0 by rw [hm.1.1]; exact nI_ne0 (by omega) (by omega))]
    have hp : 0 < n := by omega
    obtain ⟨N, hN, rfl⟩ : ∃ N, N ≤ 20 ∧ y = nI N := by
      rcases zn_rng y (m := 21) (by omega) with ⟨N, hN, e⟩ | ho
      · exact ⟨N, by omega, e⟩
      · have := zn_out (m := 21) (by omega) ho
        omega
    obtain ⟨σ1, σ2, g1, g2, hT⟩ := z_start hv hx hm
    rw [g1, g2, z_be, z_be, show (0 : Int32) = nI 0 from rfl]
    exact z_drift hv hN hp (nI w) N 0 200 200 0 x st σ1 σ2 (by omega) (by omega) (by omega) hT hG.1 rfl rfl (fun _ _ => Nat.le_refl _)
  · rw [show f_X6_isWithin z 1 σX = _ from x_with_out (m := 1) (by omega) ho, m_part_out ho]
    exact z_Sim.same h0 rfl rfl
end SH
