/-! ===== plans: plan, best, save ===== -/
def w_pb (s : z_Sy) (st : Nat → Nat) (d i : Nat) : Bool := decide (st 25 ≤ s 1 i) || decide (d / 2 ^ i % 2 = st 22 / 2 ^ i % 2)
def w_pq (s : z_Sy) (st : Nat → Nat) (d : Nat) : Nat → Nat → Bool
  | _, 0 => true
  | i, m + 1 => w_pb s st d i && w_pq s st d (i + 1) m
/-- how many bits of six, from the i-th on -/
def w_br (d : Nat) : Nat → Nat → Nat
  | _, 0 => 0
  | i, m + 1 => d / 2 ^ i % 2 + w_br d (i + 1) m
def w_bc (d : Nat) : Nat := w_br d 0 6
def w_T (s : z_Sy) (n k q : Nat) (st : Nat → Nat) (d : Nat) : Nat := w_wts s n k q (z_nu st 22 d) (10 - st 25)
theorem w_br_le (d : Nat) : ∀ i m, w_br d i m ≤ m
  | _, 0 => Nat.le_refl 0
  | i, m + 1 => by have := w_br_le d (i + 1) m; rw [w_br]; omega
theorem w_bit_ne {d e i : Nat} : ((d ^^^ e) / 2 ^ i % 2 = 1) ↔ ¬ (d / 2 ^ i % 2 = e / 2 ^ i % 2) := by
  have h1 := Nat.testBit_eq_decide_div_mod_eq (x := d ^^^ e) (i := i)
  have h2 := Nat.testBit_eq_decide_div_mod_eq (x := d) (i := i)
  have h3 := Nat.testBit_eq_decide_div_mod_eq (x := e) (i := i)
  rw [Nat.testBit_xor, h2, h3] at h1
  rcases (show d / 2 ^ i % 2 = 0 ∨ d / 2 ^ i % 2 = 1 by omega) with a | a <;> rcases (show e / 2 ^ i % 2 = 0 ∨ e / 2 ^ i % 2 = 1 by omega) with b | b <;> rcases (show (d ^^^ e) / 2 ^ i % 2 = 0 ∨ (d ^^^ e) / 2 ^ i % 2 = 1 by omega) with c | c <;> rw [a, b, c] at h1 <;> simp_all
theorem zb_cnt : ∀ d, d < 64 → (let v1 := nI d - (z_us (nI d) 1 &&& 1431655765); let v2 := (v1 &&& 858993459) + (z_us v1 2 &&& 858993459); let v3 := (v2 + z_us v2 4) &&& 252645135; let v4 := v3 + z_us v3 8; let v5 := v4 + z_us v4 16; v5 &&& 63) = nI (w_bc d) := by decide +kernel
section SE
variable {σ σX σM : z_St} {n k q B : Nat} {s : z_Sy} {st kp : Nat → Nat} {ln : Nat} {tp : Nat → Nat} {ft tn : Int32} {la : Nat → Int32} {sz : Nat → Nat} {ce : Nat → Nat → Int32} {a : Nat → Nat}
theorem x_cnt {d : Nat} (h : d < 64) : f_J6_bitCount_0f7a4 (nI d) σ = some (nI (w_bc d), σ) := by
  unfold f_J6_bitCount_0f7a4
  simp only [z_bi_eq]
  have e := zb_cnt d h
  dsimp only at e
  rw [e]
theorem m_cnt_loop {d : Nat} (h : d < 64) : ∀ (m i F c : Nat), 6 = i + m → m < F → f_X7_bitsOf_4 F (nI d) (nI c) (nI i) σ = some (nI (c + w_br d i m), σ) := by
  intro m
  induction m with
  | zero =>
    intro i F c hm hF
    obtain ⟨F, rfl⟩ : ∃ G, F = G + 1 := ⟨F - 1, by omega⟩
    rw [f_X7_bitsOf_4, if_pos (by simp (disch := omega) only [zn_lit, zn_le]; omega)]; rfl
  | succ m ih =>
    intro i F c hm hF
    obtain ⟨F, rfl⟩ : ∃ G, F = G + 1 := ⟨F - 1, by omega⟩
    rw [f_X7_bitsOf_4, if_neg (by simp (disch := omega) only [zn_lit, zn_le]; omega), z_bit d h i (by omega)]
    simp only [z_bi_eq, zn_lit, zn_add]
    rw [ih (i + 1) F _ (by omega) (by omega), w_br, Nat.add_assoc]
theorem m_cnt {d : Nat} (h : d < 64) : f_X7_bitsOf (nI d) σ = some (nI (w_bc d), σ) := by
  have e := m_cnt_loop (σ := σ) h 6 0 200 0 (by omega) (by omega)
  rw [Nat.zero_add] at e
  exact e
theorem x_smaller {d e : Nat} (hd : d < 64) (he : e < 64) : f_X6_isSmaller (nI d) (nI e) σ = some (if w_bc d < w_bc e ∨ (w_bc d = w_bc e ∧ d < e) then 1 else 0, σ) := by
  have b1 : w_bc d ≤ 6 := w_br_le d 0 6
  have b2 : w_bc e ≤ 6 := w_br_le e 0 6
  unfold f_X6_isSmaller
  rw [x_cnt hd]
  simp only [z_be]
  rw [x_cnt he]
  simp only [z_be]
  simp (disch := omega) only [zn_lt, zn_eq, zn_le]
  by_cases h1 : w_bc d < w_bc e
  · rw [if_pos h1, if_pos (Or.inl h1)]
  · rw [if_neg h1]
    by_cases h2 : w_bc d = w_bc e
    · rw [if_pos h2]
      by_cases h3 : e ≤ d
      · rw [if_pos h3, if_neg (by omega)]
      · rw [if_neg h3, if_pos (by omega)]
    · rw [if_neg h2, if_neg (by omega)]
theorem x_all (hk : k ≤ 6) (hK : σ 4 0 = nI k) : f_X6_allIncidents σ = some (nI (2 ^ k - 1), σ) := by
  have h1 : 1 ≤ 2 ^ k := Nat.one_le_two_pow
  unfold f_X6_allIncidents
  rw [hK, z_shl1 k (by omega), show (1 : Int32) = nI 1 from rfl, zn_sub h1]
theorem x_past_loop (wS : w_S n k q s) (wR : w_R n k B st) (hS : x_S σ 4 k q s) (h9 : σ 11 9 = nI (st 25)) {d : Nat} (hd : d < 64) : ∀ (m i F : Nat), k = i + m → m < F → f_X6_keepsThePast_12 F (nI (d ^^^ st 22)) (nI i) σ = some (if w_pq s st d i m = true then 1 else 0, σ) := by
  have hk := wS.2.1
  have hx : d ^^^ st 22 < 64 := Nat.xor_lt_two_pow (n := 6) hd wR.2.2.1
  intro m
  induction m with
  | zero =>
    intro i F hm hF
    obtain ⟨F, rfl⟩ : ∃ G, F = G + 1 := ⟨F - 1, by omega⟩
    rw [f_X6_keepsThePast_12, hS.1, if_pos (by simp (disch := omega) only [zn_le]; omega)]; rfl
  | succ m ih =>
    intro i F hm hF
    obtain ⟨F, rfl⟩ : ∃ G, F = G + 1 := ⟨F - 1, by omega⟩
    obtain ⟨-, e2, -⟩ := hS.2.2.1 i (by omega)
    have t := wS.2.2.2.1 i (by omega)
    have r25 := wR.2.2.2.2.2
    rw [f_X6_keepsThePast_12, hS.1, h9, z_bit _ hx i (by omega)]
    simp (disch := omega) only [z_gd_nI, zn_cl, e2, zn_le, zn_lit, zn_eq, zn_add]
    rw [if_neg (by omega), ih (i + 1) F (by omega) (by omega), w_pq, w_pb]
    by_cases h1 : st 25 ≤ s 1 i
    · rw [if_pos h1]
      simp only [h1, decide_true, Bool.true_or, Bool.true_and]
      rfl
    · rw [if_neg h1]
      by_cases h2 : (d ^^^ st 22) / 2 ^ i % 2 = 1
      · rw [if_pos h2]
        have h3 := w_bit_ne.mp h2
        simp only [h1, h3, decide_false, Bool.or_self, Bool.false_and, Bool.false_eq_true, if_false]
      · rw [if_neg h2]
        have h3 : d / 2 ^ i % 2 = st 22 / 2 ^ i % 2 := by
          by_cases h4 : d / 2 ^ i % 2 = st 22 / 2 ^ i % 2
          · exact h4
          · exact absurd (w_bit_ne.mpr h4) h2
        simp only [h3, decide_true, Bool.or_true, Bool.true_and]
        rfl
theorem x_past (wS : w_S n k q s) (wR : w_R n k B st) (hS : x_S σ 4 k q s) (h9 : σ 11 9 = nI (st 25)) (h6 : σ 11 6 = nI (st 22)) {d : Nat} (hd : d < 64) : f_X6_keepsThePast (nI d) σ = some (if w_pq s st d 0 k = true then 1 else 0, σ) := by
  unfold f_X6_keepsThePast
  rw [h6, fb_xorI]
  exact x_past_loop wS wR hS h9 hd k 0 200 (by omega) (by have := wS.2.1; omega)
theorem m_plan_loop (wS : w_S n k q s) (wR : w_R n k B st) (hS : m_S σ n k q s) (hst : ∀ j, j < 135 → σ 1 j = nI (st j)) {d : Nat} (hd : d < 64) : ∀ (m i F : Nat) (c : Bool), k = i + m → m < F → f_X7_isPlan_4 F (nI d) (if c = true then 1 else 0) (nI i) σ = some (if (c && w_pq s st d i m) = true then 1 else 0, σ) := by
  have hk := wS.2.1
  intro m
  induction m with
  | zero =>
    intro i F c hm hF
    obtain ⟨F, rfl⟩ : ∃ G, F = G + 1 := ⟨F - 1, by omega⟩
    rw [f_X7_isPlan_4, hS.2.1, if_pos (by simp (disch := omega) only [zn_le]; omega)]
    cases c <;> rfl
  | succ m ih =>
    intro i F c hm hF
    obtain ⟨F, rfl⟩ : ∃ G, F = G + 1 := ⟨F - 1, by omega⟩
    obtain ⟨-, e2, -⟩ := hS.2.2.2.1 i (by omega)
    have t := wS.2.2.2.1 i (by omega)
    have r25 := wR.2.2.2.2.2
    have h0 := ih (i + 1) F false (by omega) (by omega)
    have h1 := ih (i + 1) F true (by omega) (by omega)
    rw [if_neg (by decide)] at h0
    rw [if_pos rfl] at h1
    rw [f_X7_isPlan_4, hS.2.1, hst 25 (by omega), hst 22 (by omega), z_bit d hd i (by omega), z_bit _ wR.2.2.1 i (by omega), if_neg (by simp (disch := omega) only [zn_le]; omega)]
    have ei : nI i + 1 = nI (i + 1) := nI_1 i
    simp (disch := omega) only [z_gd_nI, zn_cl, e2, zn_le, zn_eq]
    rw [ei, h0, h1, w_pq, w_pb]
    cases c with
    | false => rfl
    | true =>
      rw [if_neg (by decide)]
      by_cases h2 : st 25 ≤ s 1 i
      · rw [if_pos h2]; simp only [h2, decide_true, Bool.true_or, Bool.true_and]
      · rw [if_neg h2]
        by_cases h3 : d / 2 ^ i % 2 = st 22 / 2 ^ i % 2
        · rw [if_pos h3]; simp only [h3, decide_true, Bool.or_true, Bool.true_and]
        · rw [if_neg h3]; simp only [h2, h3, decide_false, Bool.or_self, Bool.false_and, Bool.and_false]
theorem m_plan (wS : w_S n k q s) (wR : w_R n k B st) (hS : m_S σ n k q s) (hst : ∀ j, j < 135 → σ 1 j = nI (st j)) {d : Nat} (hd : d < 64) : f_X7_isPlan (nI d) σ = some (if w_pq s st d 0 k = true then 1 else 0, σ) := by
  have h := m_plan_loop wS wR hS hst hd k 0 200 true (by omega) (by have := wS.2.1; omega)
  rw [if_pos rfl, Bool.true_and] at h
  exact h
theorem w_pq_self : ∀ i m, w_pq s st (st 22) i m = true
  | _, 0 => rfl
  | i, m + 1 => by rw [w_pq, w_pb, w_pq_self (i + 1) m]; simp
/-- the weeks up to 9 by a plan d -/
theorem z_plan (hv : v_I n k q s st kp ln tp la sz) (hx : x_I σX n k q s st kp ln tp ft tn la sz ce) (hm : m_I σM n k q s st kp ln tp ft tn la sz ce) {d : Nat} (hd : d < 64) : ∃ σX' σ1 σM', f_X6_timesByPlan (nI d) σX = some (nI (w_T s n k q st d), σX') ∧ f_X7_startsBy (nI d) σM = some (0, σ1) ∧ f_X7_weeksLeft σ1 = some (nI (10 - st 25), σ1) ∧ f_X7_brazenIn (nI (10 - st 25)) σ1 = some (nI (w_T s n k q st d), σM') ∧ f_X7_weeksGo (nI (10 - st 25)) σ1 = some (0, σM') ∧ z_Tr σX' σM' n k q s st kp ln tp ft tn la sz ce (w_ws s n k q (z_nu st 22 d) (10 - st 25)) := by
  obtain ⟨σ1, σ2, g1, g2, hx1, hm1, hL1, hA1⟩ := z_start hv hx hm
  have hn := hv.1.1
  have hk := hv.1.2.1
  have hG := hv.2.1
  have hT : z_Tr (z_put σ1 17 6 (nI d)) (z_put σ2 2 22 (nI d)) n k q s st kp ln tp ft tn la sz ce (z_nu st 22 d) := ⟨hx1.tri17 (x_F.rf.put (by omega) (by omega)) hG.2.2.2.1, hm1.at' (m_F.rf.put _ _), hL1.fld hn hk (j := 6) (by omega) (by omega), hA1.put _ _⟩
  have wR : w_R n k (6 * st 25) (z_nu st 22 d) := hG.1.fld hn hk (by omega) (by omega) (by omega) (by omega) (by omega)
  obtain ⟨σ3, σ4, i1, i2, i3, i4, hT2⟩ := z_last hv hT wR (z_nu_ne (by omega)) (fun p hp => z_nu_ne (by omega))
  refine ⟨σ3, _, σ4, ?_, ?_, i2, i3, i4, hT2⟩
  · unfold f_X6_timesByPlan
    rw [g1, z_be]
    dsimp only
    rw [z_bst_eq, i1, z_be]; rfl
  · unfold f_X7_startsBy
    rw [g2, z_be]
    dsimp only
    rw [z_bst_eq]
theorem w_T_le (hq : q ≤ 6) (d : Nat) : w_T s n k q st d ≤ 60 := by
  have h := w_wts_le (s := s) (n := n) (k := k) (a := z_nu st 22 d) hq (10 - st 25)
  unfold w_T; omega
theorem sim_plan (h : z_Rel σX σM) (x : Int32) : z_Sim (f_X6_plan x σX) (f_X7_plan x σM) := by
  have h0 := h
  obtain ⟨n, k, q, s, st, kp, ln, tp, ft, tn, la, sz, ce, hv, hx, hm⟩ := h
  have hk := hv.1.2.1
  have hG := hv.2.1
  have hL := hx.2.1
  have h64 : 2 ^ k ≤ 2 ^ 6 := Nat.pow_le_pow_right (by omega) hk
  have h1 : 1 ≤ 2 ^ k := Nat.one_le_two_pow
  have e25 : ((nI (2 ^ k - 1)).toInt64).toInt = ((2 ^ k - 1 : Nat) : Int) := by rw [Int32.toInt_toInt64, nI_toInt (by omega)]
  unfold f_X6_plan f_X7_plan
  rw [x_all hk hx.1.1, hm.1.2.1, z_shl1 k (by omega), show nI (2 ^ k) - 1 = nI (2 ^ k - 1) from zn_sub h1]
  simp only [z_be]
  rcases zn_rng x (m := 2 ^ k) (by omega) with ⟨d, hd, rfl⟩ | ho
  · rw [x_with_in (by omega) (by omega), m_lit_in (m := 2 ^ k - 1) (by omega) (by omega) e25]
    simp only [z_be, z_t1, if_false]
    rw [x_past hv.1 hG.1 hx.1 hL.2.2.2.2.2.2 hL.2.2.2.1 (by omega), m_plan hv.1 hG.1 hm.1 hm.2.1 (by omega)]
    simp only [z_be]
    by_cases hp : w_pq s st d 0 k = true
    · rw [if_pos hp, if_neg (by decide), if_neg (by decide)]
      obtain ⟨σ1, σ2, σ3, g1, g2, g3, g4, -, hT⟩ := z_plan hv hx hm (d := d) (by omega)
      rw [g1, g2]
      simp only [z_be]
      rw [g3]
      simp only [z_be]
      rw [g4]
      exact z_Sim.same (z_Tr.rel hv hT) rfl rfl
    · rw [if_neg hp, if_pos rfl, if_pos rfl]
      exact z_Sim.same h0 rfl rfl
  · have ho' : x < 0 ∨ nI (2 ^ k - 1 + 1) ≤ x := by rw [show 2 ^ k - 1 + 1 = 2 ^ k by omega]; exact ho
    rw [x_with_out (m := 2 ^ k - 1) (by omega) ho', m_lit_out (m := 2 ^ k - 1) (by omega) e25 ho']
    exact z_Sim.same h0 rfl rfl
/-! the best plan -/
theorem z_best (hv : v_I n k q s st kp ln tp la sz) {w : Nat} (hw : w ≤ 1) : ∀ (m d F F' fX l fM : Nat) (σX σM : z_St), 2 ^ k = d + m → m < F → m < F' → x_I σX n k q s st kp ln tp ft tn la sz ce → m_I σM n k q s st kp ln tp ft tn la sz ce →
    (w_pq s st fX 0 k = true ∧ fX < 2 ^ k ∧ (∀ e, (e < d ∨ e = st 22) → w_pq s st e 0 k = true → ¬ (w_T s n k q st e < w_T s n k q st fX ∨ (w_T s n k q st e = w_T s n k q st fX ∧ (w_bc e < w_bc fX ∨ (w_bc e = w_bc fX ∧ e < fX)))))) →
    ((l = 1000000 ∧ fM = 0 ∧ ∀ e, e < d → ¬ w_pq s st e 0 k = true) ∨ (w_pq s st fM 0 k = true ∧ fM < d ∧ l = 10 * w_T s n k q st fM + w_bc fM ∧ ∀ e, e < d → w_pq s st e 0 k = true → ¬ (w_T s n k q st e < w_T s n k q st fM ∨ (w_T s n k q st e = w_T s n k q st fM ∧ (w_bc e < w_bc fM ∨ (w_bc e = w_bc fM ∧ e < fM)))))) →
    z_Sim (f_X6_best_27 F (nI w) (nI fX) (nI (w_T s n k q st fX)) (nI d) σX) (f_X7_best_18 F' (nI w) (nI l) (nI fM) (nI d) σM) := by
  have hk := hv.1.2.1
  have hq := hv.1.2.2.1
  have hG := hv.2.1
  have h64 : 2 ^ k ≤ 2 ^ 6 := Nat.pow_le_pow_right (by omega) hk
  have h1 : 1 ≤ 2 ^ k := Nat.one_le_two_pow
  have hT60 : ∀ d, w_T s n k q st d ≤ 60 := w_T_le hq
  have hb6 : ∀ d, w_bc d ≤ 6 := fun d => w_br_le d 0 6
  intro m
  induction m with
  | zero =>
    intro d F F' fX l fM σX σM hmm hF hF' hx hm iX iM
    obtain ⟨F, rfl⟩ : ∃ G, F = G + 1 := ⟨F - 1, by omega⟩
    obtain ⟨F', rfl⟩ : ∃ G, F' = G + 1 := ⟨F' - 1, by omega⟩
    have h0 : z_Rel σX σM := ⟨n, k, q, s, st, kp, ln, tp, ft, tn, la, sz, ce, hv, hx, hm⟩
    have hs := w_pq_self (s := s) (st := st) 0 k
    rcases iM with ⟨-, -, no⟩ | ⟨pM, lM, el, mM⟩
    · exact absurd hs (no _ (by have := hG.2.2.1; omega))
    · obtain ⟨pX, lX, mX⟩ := iX
      have a1 := mX fM (Or.inl (by omega)) pM
      have a2 := mM fX (by omega) pX
      have e : fX = fM := by omega
      subst e
      have b1 := hT60 fX
      have b2 := hb6 fX
      rw [f_X6_best_27, f_X7_best_18, x_all hk hx.1.1, hm.1.2.1, z_shl1 k (by omega)]
      simp only [z_be]
      rw [if_pos (show nI (2 ^ k - 1) < nI d from nI_lt (by omega) (by omega)), if_pos (show nI (2 ^ k) ≤ nI d from nI_le (by omega) (by omega))]
      refine z_Sim.ite (fun _ => z_Sim.same h0 rfl rfl) (fun _ => z_Sim.same h0 rfl ?_)
      rw [show (10 : Int32) = nI 10 from rfl, zn_div (by omega) (by omega) (by omega), show l / 10 = w_T s n k q st fX by omega]
  | succ m ih =>
    intro d F F' fX l fM σX σM hmm hF hF' hx hm iX iM
    obtain ⟨F, rfl⟩ : ∃ G, F = G + 1 := ⟨F - 1, by omega⟩
    obtain ⟨F', rfl⟩ : ∃ G, F' = G + 1 := ⟨F' - 1, by omega⟩
    obtain ⟨pX, lX, mX⟩ := iX
    have ed : nI d + 1 = nI (d + 1) := nI_1 d
    rw [f_X6_best_27, f_X7_best_18, x_all hk hx.1.1, hm.1.2.1, z_shl1 k (by omega)]
    simp only [z_be]
    rw [if_neg (by simp (disch := omega) only [zn_lt]; omega), if_neg (by simp (disch := omega) only [zn_le]; omega), ed, x_past hv.1 hG.1 hx.1 hx.2.1.2.2.2.2.2.2 hx.2.1.2.2.2.1 (by omega), m_plan hv.1 hG.1 hm.1 hm.2.1 (by omega)]
    simp only [z_be]
    by_cases hp : w_pq s st d 0 k = true
    · rw [if_pos hp, if_neg (by decide), if_neg (by decide)]
      obtain ⟨σ1, σ2, σ3, g1, g2, g3, g4, -, hT⟩ := z_plan hv hx hm (d := d) (by omega)
      rw [g1, g2]
      simp only [z_be]
      rw [g3]
      simp only [z_be]
      rw [g4]
      simp only [z_be]
      rw [m_cnt (by omega)]
      simp only [z_be, z_bi_eq]
      have c1 := hT60 d
      have c2 := hT60 fX
      have c3 := hb6 d
      have c4 := hb6 fX
      -- the reference's step
      have stepM : ∃ l' fM', (if nI l ≤ (10 : Int32) * nI (w_T s n k q st d) + nI (w_bc d) then f_X7_best_75 (fun x1 x2 x3 x4 σ => f_X7_best_18 F' x1 x2 x3 x4 σ) (nI w) (nI l) (nI d) ((10 : Int32) * nI (w_T s n k q st d) + nI (w_bc d)) (nI fM) σ3 else f_X7_best_75 (fun x1 x2 x3 x4 σ => f_X7_best_18 F' x1 x2 x3 x4 σ) (nI w) (nI l) (nI d) ((10 : Int32) * nI (w_T s n k q st d) + nI (w_bc d)) (nI d) σ3) = f_X7_best_18 F' (nI w) (nI l') (nI fM') (nI (d + 1)) σ3 ∧ ((l' = 1000000 ∧ fM' = 0 ∧ ∀ e, e < d + 1 → ¬ w_pq s st e 0 k = true) ∨ (w_pq s st fM' 0 k = true ∧ fM' < d + 1 ∧ l' = 10 * w_T s n k q st fM' + w_bc fM' ∧ ∀ e, e < d + 1 → w_pq s st e 0 k = true → ¬ (w_T s n k q st e < w_T s n k q st fM' ∨ (w_T s n k q st e = w_T s n k q st fM' ∧ (w_bc e < w_bc fM' ∨ (w_bc e = w_bc fM' ∧ e < fM')))))) := by
        rw [show (10 : Int32) = nI 10 from rfl, zn_mul, zn_add]
        unfold f_X7_best_75
        rw [ed]
        have hl : l ≤ 1000000 := by
          rcases iM with ⟨e, -, -⟩ | ⟨-, -, e, -⟩
          · omega
          · have := hT60 fM; have := hb6 fM; omega
        simp (disch := omega) only [zn_le]
        rcases iM with ⟨e1, e2, no⟩ | ⟨pM, lM, el, mM⟩
        · refine ⟨10 * w_T s n k q st d + w_bc d, d, ?_, Or.inr ⟨hp, by omega, rfl, fun e he pe => ?_⟩⟩
          · rw [if_neg (by omega), if_neg (by omega)]
          · by_cases h : e = d
            · subst h; omega
            · exact absurd pe (no e (by omega))
        · by_cases hc : l ≤ 10 * w_T s n k q st d + w_bc d
          · refine ⟨l, fM, ?_, Or.inr ⟨pM, by omega, el, fun e he pe => ?_⟩⟩
            · rw [if_pos hc, if_pos hc]
            · by_cases h : e = d
              · subst h
                have := hT60 fM; have := hb6 fM
                omega
              · exact mM e (by omega) pe
          · refine ⟨10 * w_T s n k q st d + w_bc d, d, ?_, Or.inr ⟨hp, by omega, rfl, fun e he pe => ?_⟩⟩
            · rw [if_neg hc, if_neg hc]
            · by_cases h : e = d
              · subst h; omega
              · have := mM e (by omega) pe
                have := hT60 fM; have := hb6 fM; have := hb6 e
                omega
      obtain ⟨l', fM', eM, iM'⟩ := stepM
      rw [eM]
      have keep : ¬ (w_T s n k q st d < w_T s n k q st fX ∨ (w_T s n k q st d = w_T s n k q st fX ∧ (w_bc d < w_bc fX ∨ (w_bc d = w_bc fX ∧ d < fX)))) → z_Sim (f_X6_best_27 F (nI w) (nI fX) (nI (w_T s n k q st fX)) (nI (d + 1)) σ1) (f_X7_best_18 F' (nI w) (nI l') (nI fM') (nI (d + 1)) σ3) := fun hno =>
        ih (d + 1) F F' fX l' fM' σ1 σ3 (by omega) (by omega) (by omega) hT.1 hT.2.1 ⟨pX, lX, fun e he pe => by
          by_cases h : e = d
          · subst h; exact hno
          · exact mX e (by omega) pe⟩ iM'
      have take : (w_T s n k q st d < w_T s n k q st fX ∨ (w_T s n k q st d = w_T s n k q st fX ∧ (w_bc d < w_bc fX ∨ (w_bc d = w_bc fX ∧ d < fX)))) → z_Sim (f_X6_best_27 F (nI w) (nI d) (nI (w_T s n k q st d)) (nI (d + 1)) σ1) (f_X7_best_18 F' (nI w) (nI l') (nI fM') (nI (d + 1)) σ3) := fun hyes =>
        ih (d + 1) F F' d l' fM' σ1 σ3 (by omega) (by omega) (by omega) hT.1 hT.2.1 ⟨hp, by omega, fun e he pe => by
          by_cases h : e = d
          · subst h; omega
          · have := mX e (by omega) pe
            omega⟩ iM'
      simp (disch := omega) only [zn_lt, zn_eq]
      by_cases h2 : w_T s n k q st d < w_T s n k q st fX
      · rw [if_pos h2]; exact take (Or.inl h2)
      · rw [if_neg h2]
        by_cases h3 : w_T s n k q st d = w_T s n k q st fX
        · rw [if_pos h3, x_smaller (by omega) (by omega)]
          simp only [z_be]
          by_cases h4 : w_bc d < w_bc fX ∨ (w_bc d = w_bc fX ∧ d < fX)
          · rw [if_pos h4, if_neg (by decide)]; exact take (Or.inr ⟨h3, h4⟩)
          · rw [if_neg h4, if_pos rfl]; exact keep (by omega)
        · rw [if_neg h3]; exact keep (by omega)
    · rw [if_neg hp, if_pos rfl, if_pos rfl]
      refine ih (d + 1) F F' fX l fM σX σM (by omega) (by omega) (by omega) hx hm ⟨pX, lX, fun e he pe => ?_⟩ ?_
      · by_cases h : e = d
        · subst h; exact absurd pe hp
        · exact mX e (by omega) pe
      · rcases iM with ⟨e1, e2, no⟩ | ⟨pM, lM, el, mM⟩
        · refine Or.inl ⟨e1, e2, fun e he => ?_⟩
          by_cases h : e = d
          · subst h; exact hp
          · exact no e (by omega)
        · refine Or.inr ⟨pM, by omega, el, fun e he pe => ?_⟩
          by_cases h : e = d
          · subst h; exact absurd pe hp
          · exact mM e (by omega) pe
theorem sim_best (h : z_Rel σX σM) (x : Int32) : z_Sim (f_X6_best x σX) (f_X7_best x σM) := by
  have h0 := h
  obtain ⟨n, k, q, s, st, kp, ln, tp, ft, tn, la, sz, ce, hv, hx, hm⟩ := h
  have hk := hv.1.2.1
  have hG := hv.2.1
  have h64 : 2 ^ k ≤ 2 ^ 6 := Nat.pow_le_pow_right (by omega) hk
  unfold f_X6_best f_X7_best
  rcases zn_rng x (m := 2) (by omega) with ⟨w, hw, rfl⟩ | ho
  · rw [show f_X6_isWithin (nI w) 1 σX = _ from x_with_in (m := 1) (by omega) (by omega), m_part_in (by omega), z_be, z_be]
    dsimp only
    rw [z_f1, z_f1, hx.2.1.2.2.2.1]
    obtain ⟨σ1, σ2, σ3, g1, -, -, -, -, hT⟩ := z_plan hv hx hm (d := st 22) hG.1.2.2.1
    rw [g1, z_be, show (0 : Int32) = nI 0 from rfl, show (1000000 : Int32) = nI 1000000 from rfl]
    refine z_best hv (by omega) (2 ^ k) 0 200 200 (st 22) 1000000 0 σ1 σM (by omega) (by omega) (by omega) hT.1 hm ⟨w_pq_self 0 k, hG.2.2.1, fun e he _ => ?_⟩ (Or.inl ⟨rfl, rfl, fun e he => absurd he (by omega)⟩)
    rcases he with he | he
    · exact absurd he (by omega)
    · subst he; omega
  · rw [show f_X6_isWithin x 1 σX = _ from x_with_out (m := 1) (by omega) ho, m_part_out ho]
    exact z_Sim.same h0 rfl rfl
end SE
