/-! ===== several weeks; copies ===== -/
def w_ws (s : z_Sy) (n k q : Nat) (a : Nat → Nat) : Nat → Nat → Nat
  | 0 => a
  | t + 1 => w_wk s n k q (w_ws s n k q a t)
def w_wts (s : z_Sy) (n k q : Nat) (a : Nat → Nat) : Nat → Nat
  | 0 => 0
  | t + 1 => w_wts s n k q a t + w_wt s k q (w_ws s n k q a t)
def w_bs (a : Nat → Nat) : Nat → Nat
  | 0 => 0
  | p + 1 => w_bs a p + a (4 * p + 3)
section WS
variable {σ : z_St} {b n k q B : Nat} {a : Nat → Nat} {s : z_Sy}
theorem w_tm_le (s : z_Sy) (a : Nat → Nat) : ∀ j, w_tm s a j ≤ j
  | 0 => Nat.le_refl 0
  | j + 1 => by
    have := w_tm_le s a j
    rw [w_tm]; split <;> omega
theorem w_wt_le (hq : q ≤ 6) : w_wt s k q a ≤ 6 := Nat.le_trans (w_tm_le _ _ q) hq
theorem w_wts_le (hq : q ≤ 6) : ∀ t, w_wts s n k q a t ≤ 6 * t
  | 0 => Nat.le_refl 0
  | t + 1 => by
    have h1 := w_wts_le hq t
    have h2 := w_wt_le (s := s) (k := k) (a := w_ws s n k q a t) hq
    rw [w_wts]; omega
theorem w_ws_25 (wS : w_S n k q s) : ∀ t, w_ws s n k q a t 25 = a 25 + t
  | 0 => rfl
  | t + 1 => by rw [w_ws, w_wk_25 wS, w_ws_25 wS t]; omega
theorem w_ws_k (wS : w_S n k q s) {j : Nat} (hj : w_K j) : ∀ t, w_ws s n k q a t j = a j
  | 0 => rfl
  | t + 1 => by rw [w_ws, w_wk_k wS hj, w_ws_k wS hj t]
theorem w_R_ws (wS : w_S n k q s) (wR : w_R n k B a) : ∀ t, a 25 + t ≤ 200 → w_R n k (B + 6 * t) (w_ws s n k q a t)
  | 0, _ => wR
  | t + 1, h => by
    have h1 := w_R_ws wS wR t (by omega)
    have h2 := w_R_wk wS h1 (by rw [w_ws_25 wS]; omega)
    rw [w_ws]
    exact h2.mono (by omega)
theorem x_weeks (hb : 11 ≤ b) (wS : w_S n k q s) (wR : w_R n k B a) (N : Nat) (hN : a 25 + N ≤ 200) (hB : B + 6 * N ≤ 90000) : ∀ (m t F : Nat) (σ : z_St), N = t + m → m < F → x_S σ 4 k q s → x_L σ b n k (w_ws s n k q a t) → ∃ σ', f_X1_passWeeks_5 b 4 F (nI N) (nI (w_wts s n k q a t)) (nI t) σ = some (nI (w_wts s n k q a N), σ') ∧ x_L σ' b n k (w_ws s n k q a N) ∧ x_F σ σ' b := by
  intro m
  induction m with
  | zero =>
    intro t F σ hm hF hS hL
    obtain ⟨F, rfl⟩ : ∃ F', F = F' + 1 := ⟨F - 1, by omega⟩
    have e : t = N := by omega
    subst e
    refine ⟨σ, ?_, hL, x_F.rf⟩
    rw [f_X1_passWeeks_5, if_pos (by simp (disch := omega) only [zn_le]; omega)]
  | succ m ih =>
    intro t F σ hm hF hS hL
    obtain ⟨F, rfl⟩ : ∃ F', F = F' + 1 := ⟨F - 1, by omega⟩
    have wRt := w_R_ws wS wR t (by omega)
    rw [f_X1_passWeeks_5, if_neg (by simp (disch := omega) only [zn_le]; omega)]
    obtain ⟨σ1, g1, g2, g3, g4⟩ := x_week hb (by omega) wS wRt hS hL
    rw [g1, z_bind_eq]
    obtain ⟨σ2, i1, i2, i3⟩ := ih (t + 1) F σ1 (by omega) (by omega) (hS.fr hb g3) g2
    refine ⟨σ2, ?_, i2, g3.tr i3⟩
    simp only [zn_lit, zn_add, z_bi_eq]
    exact i1
theorem x_passWeeks (hb : 11 ≤ b) (wS : w_S n k q s) (wR : w_R n k B a) {N : Nat} (hN : a 25 + N ≤ 200) (hN2 : N < 200) (hB : B + 6 * N ≤ 90000) (hS : x_S σ 4 k q s) (hL : x_L σ b n k a) : ∃ σ', f_X1_passWeeks b 4 (nI N) σ = some (nI (w_wts s n k q a N), σ') ∧ x_L σ' b n k (w_ws s n k q a N) ∧ x_F σ σ' b := x_weeks hb wS wR N hN hB N 0 200 σ (by omega) hN2 hS hL
theorem x_lasts (hb : 11 ≤ b) (wS : w_S n k q s) (wR : w_R n k B a) (hB : B ≤ 90000) (h0 : a 25 ≤ 10) : ∀ (m t F : Nat) (σ : z_St), 10 - a 25 = t + m → m < F → x_S σ 4 k q s → x_L σ b n k (w_ws s n k q a t) → ∃ σ', f_X1_passToLastWeek_7 b 4 F (nI (w_wts s n k q a t)) (nI (a 25 + t)) σ = some (nI (w_wts s n k q a (10 - a 25)), σ') ∧ x_L σ' b n k (w_ws s n k q a (10 - a 25)) ∧ x_F σ σ' b := by
  intro m
  induction m with
  | zero =>
    intro t F σ hm hF hS hL
    obtain ⟨F, rfl⟩ : ∃ F', F = F' + 1 := ⟨F - 1, by omega⟩
    have e : t = 10 - a 25 := by omega
    subst e
    refine ⟨σ, ?_, hL, x_F.rf⟩
    rw [f_X1_passToLastWeek_7, if_pos (by simp (disch := omega) only [zn_lit, zn_lt]; omega)]
  | succ m ih =>
    intro t F σ hm hF hS hL
    obtain ⟨F, rfl⟩ : ∃ F', F = F' + 1 := ⟨F - 1, by omega⟩
    have wRt := w_R_ws wS wR t (by omega)
    rw [f_X1_passToLastWeek_7, if_neg (by simp (disch := omega) only [zn_lit, zn_lt]; omega)]
    obtain ⟨σ1, g1, g2, g3, g4⟩ := x_week hb (by omega) wS wRt hS hL
    rw [g1, z_bind_eq]
    obtain ⟨σ2, i1, i2, i3⟩ := ih (t + 1) F σ1 (by omega) (by omega) (hS.fr hb g3) g2
    refine ⟨σ2, ?_, i2, g3.tr i3⟩
    simp only [zn_lit, zn_add, z_bi_eq]
    exact i1
/-- up to week 9 -/
theorem x_last (hb : 11 ≤ b) (wS : w_S n k q s) (wR : w_R n k B a) (hB : B ≤ 90000) (hS : x_S σ 4 k q s) (hL : x_L σ b n k a) : ∃ σ', f_X1_passToLastWeek b 4 σ = some (nI (w_wts s n k q a (10 - a 25)), σ') ∧ x_L σ' b n k (w_ws s n k q a (10 - a 25)) ∧ x_F σ σ' b := by
  unfold f_X1_passToLastWeek
  rw [hL.2.2.2.2.2.2]
  by_cases h : a 25 ≤ 10
  · exact x_lasts hb wS wR hB h (10 - a 25) 0 200 σ (by omega) (by omega) hS hL
  · have r := wR.2.2.2.2.2
    rw [show 10 - a 25 = 0 by omega]
    refine ⟨σ, ?_, hL, x_F.rf⟩
    rw [show (200 : Nat) = 199 + 1 from rfl, f_X1_passToLastWeek_7, if_pos (by simp (disch := omega) only [zn_lit, zn_lt]; omega)]
    rfl
theorem m_weeks (wS : w_S n k q s) (wR : w_R n k B a) (N : Nat) (hN : a 25 + N ≤ 200) (hB : B + 6 * N ≤ 980) : ∀ (m t F : Nat) (σ : z_St), N = t + m → m < F → m_S σ n k q s → m_A σ (w_ws s n k q a t) → ∃ σ', f_X7_weeksGo_2 F (nI N) (nI t) σ = some (0, σ') ∧ m_A σ' (w_ws s n k q a N) ∧ m_F σ σ' := by
  intro m
  induction m with
  | zero =>
    intro t F σ hm hF hS hA
    obtain ⟨F, rfl⟩ : ∃ F', F = F' + 1 := ⟨F - 1, by omega⟩
    have e : t = N := by omega
    subst e
    refine ⟨σ, ?_, hA, m_F.rf⟩
    rw [f_X7_weeksGo_2, if_pos (by simp (disch := omega) only [zn_le]; omega)]
  | succ m ih =>
    intro t F σ hm hF hS hA
    obtain ⟨F, rfl⟩ : ∃ F', F = F' + 1 := ⟨F - 1, by omega⟩
    have wRt := w_R_ws wS wR t (by omega)
    rw [f_X7_weeksGo_2, if_neg (by simp (disch := omega) only [zn_le]; omega)]
    obtain ⟨σ1, g1, g2, g3, g4⟩ := m_week (by omega) wS wRt hS hA
    rw [g1, z_bind_eq]
    obtain ⟨σ2, i1, i2, i3⟩ := ih (t + 1) F σ1 (by omega) (by omega) (hS.fr g3) g2
    refine ⟨σ2, ?_, i2, g3.tr i3⟩
    simp only [zn_lit, zn_add]
    exact i1
theorem m_weeksGo (wS : w_S n k q s) (wR : w_R n k B a) {N : Nat} (hN : a 25 + N ≤ 200) (hN2 : N < 200) (hB : B + 6 * N ≤ 980) (hS : m_S σ n k q s) (hA : m_A σ a) : ∃ σ', f_X7_weeksGo (nI N) σ = some (0, σ') ∧ m_A σ' (w_ws s n k q a N) ∧ m_F σ σ' := m_weeks wS wR N hN hB N 0 200 σ (by omega) hN2 hS hA
/-! how often all were brazen -/
theorem w_bs_nu {a : Nat → Nat} {c v : Nat} (hc : c % 4 ≠ 3 ∨ 16 ≤ c) : ∀ {m : Nat}, m ≤ 4 → w_bs (z_nu a c v) m = w_bs a m
  | 0, _ => rfl
  | m + 1, h => by rw [w_bs, w_bs, w_bs_nu hc (by omega), z_nu_ne (by omega)]
theorem w_bs_up {a : Nat → Nat} {p : Nat} : ∀ {m : Nat}, p < m → w_bs (z_nu a (4 * p + 3) (a (4 * p + 3) + 1)) m = w_bs a m + 1
  | 0, h => absurd h (Nat.not_lt_zero p)
  | m + 1, h => by
    rw [w_bs, w_bs]
    by_cases e : p = m
    · subst e
      have : ∀ {j : Nat}, j ≤ p → w_bs (z_nu a (4 * p + 3) (a (4 * p + 3) + 1)) j = w_bs a j := by
        intro j
        induction j with
        | zero => intro _; rfl
        | succ j ih => intro hj; rw [w_bs, w_bs, ih (by omega), z_nu_ne (by omega)]
      rw [this (Nat.le_refl p), z_nu_eq]; omega
    · rw [w_bs_up (by omega), z_nu_ne (by omega)]; omega
theorem w_bs_in (wS : w_S n k q s) {i : Nat} (hi : i < k) : w_bs (w_in s a i) n = w_bs a n := by
  have hn := wS.1
  have t := wS.2.2.2.1 i hi
  rw [w_in]
  split
  · split
    · exact w_bs_nu (by omega) hn
    · exact w_bs_nu (by omega) hn
  · rfl
theorem w_bs_ins (wS : w_S n k q s) : ∀ {i : Nat}, i ≤ k → w_bs (w_ins s a i) n = w_bs a n
  | 0, _ => rfl
  | i + 1, h => by rw [w_ins, w_bs_in wS (by omega), w_bs_ins wS (by omega)]
theorem w_bs_asks (wS : w_S n k q s) : ∀ {j : Nat}, j ≤ q → w_bs (w_asks s a j) n = w_bs a n + w_tm s a j
  | 0, _ => rfl
  | j + 1, h => by
    have hn := wS.1
    have ih := w_bs_asks wS (j := j) (by omega)
    have t := wS.2.2.2.2 j (by omega)
    rw [w_asks, w_ask, w_tm, w_bz]
    by_cases h4 : s 4 j = w_asks s a j 25
    · rw [if_pos h4, w_ask1]
      by_cases hc : w_c s (w_asks s a j) j < w_l s (w_asks s a j) j
      · rw [if_pos hc, w_bs_up t.1, ih]
        simp only [h4, hc, decide_true, Bool.and_self, if_true]; omega
      · rw [if_neg hc, w_bs_nu (by omega) hn, w_bs_nu (by omega) hn, w_bs_nu (by omega) hn, ih]
        simp only [hc, decide_false, Bool.and_false, Bool.false_eq_true, if_false]; omega
    · rw [if_neg h4, ih]
      simp only [h4, decide_false, Bool.false_and, Bool.false_eq_true, if_false]; omega
theorem w_bs_cls (hn : n ≤ 4) : ∀ {p : Nat}, p ≤ n → w_bs (w_cls a p) n = w_bs a n
  | 0, _ => rfl
  | p + 1, h => by rw [w_cls, w_cl1, w_bs_nu (by omega) hn, w_bs_nu (by omega) hn, w_bs_cls hn (by omega)]
theorem w_bs_wk (wS : w_S n k q s) : w_bs (w_wk s n k q a) n = w_bs a n + w_wt s k q a := by
  have hn := wS.1
  rw [w_wk, w_end, w_bs_nu (by omega) hn, w_bs_nu (by omega) hn, w_bs_cls hn (Nat.le_refl n), w_bs_asks wS (Nat.le_refl q), w_bs_ins wS (Nat.le_refl k)]
  rfl
theorem w_bs_ws (wS : w_S n k q s) : ∀ t, w_bs (w_ws s n k q a t) n = w_bs a n + w_wts s n k q a t
  | 0 => rfl
  | t + 1 => by rw [w_ws, w_bs_wk wS, w_bs_ws wS t, w_wts]; omega
/-! each is brazen no less than before -/
theorem w_br_in (wS : w_S n k q s) {i p : Nat} (hi : i < k) (hp : p < 4) : w_in s a i (4 * p + 3) = a (4 * p + 3) := by
  have hn := wS.1
  have t := wS.2.2.2.1 i hi
  rw [w_in]
  split
  · split <;> rw [z_nu_ne (by omega)]
  · rfl
theorem w_br_ins (wS : w_S n k q s) {p : Nat} (hp : p < 4) : ∀ {i : Nat}, i ≤ k → w_ins s a i (4 * p + 3) = a (4 * p + 3)
  | 0, _ => rfl
  | i + 1, h => by rw [w_ins, w_br_in wS (by omega) hp, w_br_ins wS hp (by omega)]
theorem w_br_ask (wS : w_S n k q s) {j p : Nat} (hj : j < q) (hp : p < 4) : a (4 * p + 3) ≤ w_ask s a j (4 * p + 3) := by
  have hn := wS.1
  have t := wS.2.2.2.2 j hj
  rw [w_ask]
  split
  · rw [w_ask1]
    split
    · by_cases e : 4 * p + 3 = 4 * s 3 j + 3
      · rw [e, z_nu_eq]; omega
      · rw [z_nu_ne e]; exact Nat.le_refl _
    · rw [z_nu_ne (by omega), z_nu_ne (by omega), z_nu_ne (by omega)]; exact Nat.le_refl _
  · exact Nat.le_refl _
theorem w_br_asks (wS : w_S n k q s) {p : Nat} (hp : p < 4) : ∀ {j : Nat}, j ≤ q → a (4 * p + 3) ≤ w_asks s a j (4 * p + 3)
  | 0, _ => Nat.le_refl _
  | j + 1, h => Nat.le_trans (w_br_asks wS hp (by omega)) (w_br_ask wS (by omega) hp)
theorem w_br_cls (hn : n ≤ 4) {p : Nat} (hp : p < 4) : ∀ {m : Nat}, m ≤ n → w_cls a m (4 * p + 3) = a (4 * p + 3)
  | 0, _ => rfl
  | m + 1, h => by rw [w_cls, w_cl1, z_nu_ne (by omega), z_nu_ne (by omega), w_br_cls hn hp (by omega)]
theorem w_br_wk (wS : w_S n k q s) {p : Nat} (hp : p < 4) : a (4 * p + 3) ≤ w_wk s n k q a (4 * p + 3) := by
  have h := w_br_asks (a := w_ins s a k) wS hp (Nat.le_refl q)
  rw [w_br_ins wS hp (Nat.le_refl k)] at h
  rw [w_wk, w_end, z_nu_ne (by omega), z_nu_ne (by omega), w_br_cls wS.1 hp (Nat.le_refl n)]
  exact h
theorem w_br_ws (wS : w_S n k q s) {p : Nat} (hp : p < 4) : ∀ t, a (4 * p + 3) ≤ w_ws s n k q a t (4 * p + 3)
  | 0 => Nat.le_refl _
  | t + 1 => Nat.le_trans (w_br_ws wS hp t) (w_br_wk wS hp)
end WS
