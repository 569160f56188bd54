/-! ===== the class's week is w_wk ===== -/
section XW
variable {σ : z_St} {b n k q B : Nat} {a : Nat → Nat} {s : z_Sy}
theorem x_blush (wS : w_S n k q s) (wR : w_R n k B a) (hS : x_S σ 4 k q s) (hL : x_L σ b n k a) {i : Nat} (hi : i < k) : f_X1_blushOf b 4 (nI i) σ = some (nI (w_bl s a i), σ) := by
  obtain ⟨hn, hk, hq, s1, s2⟩ := wS
  obtain ⟨t1, t2, t3⟩ := s1 i hi
  obtain ⟨e1, e2, e3⟩ := hS.2.2.1 i hi
  have e5 := hL.2.2.1 i hi
  have r5 := wR.2.1 i hi
  obtain ⟨ek, -, -, -⟩ := hL.2.1 (s 0 i) t1
  obtain ⟨rk, -, -, -⟩ := wR.1 (s 0 i) t1
  unfold f_X1_blushOf
  simp (disch := omega) only [z_bi_eq, z_gd_nI, zn_cl, e1, e3, e5, ek, zn_add, zn_lit, zn_eq, zn_mul, zn_div]
  unfold w_bl
  by_cases h1 : a (4 * s 0 i) = 1
  · rw [if_pos h1, if_pos h1]
  · rw [if_neg h1, if_neg h1]
    by_cases h3 : a (4 * s 0 i) = 3
    · rw [if_pos h3, if_pos h3]
    · rw [if_neg h3, if_neg h3]
theorem x_dep (wR : w_R n k B a) (hL : x_L σ b n k a) (hk : k ≤ 6) {i : Nat} (hi : i < k) : f_X1_isDeposited b (nI i) σ = some (if a 22 / 2 ^ i % 2 = 1 then 1 else 0, σ) := by
  unfold f_X1_isDeposited
  rw [hL.2.2.2.1, z_bit _ wR.2.2.1 i (by omega)]
  simp (disch := omega) only [zn_lit, zn_eq]
  by_cases h : a 22 / 2 ^ i % 2 = 1
  · rw [if_pos h, if_pos h]
  · rw [if_neg h, if_neg h]
theorem x_putInHand (hn : n ≤ 4) (wR : w_R n k B a) (hL : x_L σ b n k a) {p v : Nat} (hp : p < n) (hv : v ≤ 100000) : f_X1_putInHand b (nI p) (nI v) σ = some (0, z_put σ (b + 2) p (nI (min 999 (a (4 * p + 1) + v)))) := by
  obtain ⟨-, e2, -, -⟩ := hL.2.1 p hp
  obtain ⟨-, r2, -, -⟩ := wR.1 p hp
  unfold f_X1_putInHand
  simp (disch := omega) only [z_bst_eq, z_gd_nI, zn_cl, e2, zn_add, zn_lit, z_min_nI]
theorem x_putAtBank (hn : n ≤ 4) (wR : w_R n k B a) (hL : x_L σ b n k a) {p v : Nat} (hp : p < n) (hv : v ≤ 100000) : f_X1_putAtBank b (nI p) (nI v) σ = some (0, z_put σ (b + 3) p (nI (min 999 (a (4 * p + 2) + v)))) := by
  obtain ⟨-, -, e2, -⟩ := hL.2.1 p hp
  obtain ⟨-, -, r2, -⟩ := wR.1 p hp
  unfold f_X1_putAtBank
  simp (disch := omega) only [z_bst_eq, z_gd_nI, zn_cl, e2, zn_add, zn_lit, z_min_nI]
theorem w_bl_le (wS : w_S n k q s) (wR : w_R n k B a) {i : Nat} (hi : i < k) : w_bl s a i ≤ 36 := by
  have := wS.2.2.2.1 i hi
  have := wR.2.1 i hi
  unfold w_bl
  split
  · omega
  · split <;> omega
theorem x_befall (wS : w_S n k q s) (wR : w_R n k B a) (hS : x_S σ 4 k q s) (hL : x_L σ b n k a) {i : Nat} (hi : i < k) (hw : s 1 i = a 25) : ∃ σ', f_X1_befall b 4 (nI i) σ = some (0, σ') ∧ x_L σ' b n k (w_in s a i) ∧ x_F σ σ' b ∧ σ' b 10 = σ b 10 := by
  obtain ⟨t1, t2, t3⟩ := wS.2.2.2.1 i hi
  obtain ⟨e1, e2, e3⟩ := hS.2.2.1 i hi
  have hk := wS.2.1
  have hbl := w_bl_le wS wR hi
  have z10 : ∀ (c : Nat) (v : Int32), z_put σ (b + 2) c v b 10 = σ b 10 := fun c v => by rw [z_put_ne (by omega)]
  have z11 : ∀ (c : Nat) (v : Int32), z_put σ (b + 3) c v b 10 = σ b 10 := fun c v => by rw [z_put_ne (by omega)]
  unfold f_X1_befall
  rw [x_blush wS wR hS hL hi, z_bind_eq, x_dep wR hL hk hi, z_bind_eq]
  rw [w_in, if_pos hw]
  by_cases h : a 22 / 2 ^ i % 2 = 1
  · refine ⟨z_put σ (b + 3) (s 0 i) (nI (min 999 (a (4 * s 0 i + 2) + w_bl s a i))), ?_, ?_, x_F.rf.put (by omega) (by omega), z11 _ _⟩
    · dsimp only
      rw [if_pos h, if_neg (by decide)]
      simp (disch := omega) only [z_gd_nI, zn_cl, e1]
      rw [x_putAtBank wS.1 wR hL t1 (by omega), z_bind_eq]
    · rw [if_pos h]
      exact hL.bank wS.1 t1
  · refine ⟨z_put σ (b + 2) (s 0 i) (nI (min 999 (a (4 * s 0 i + 1) + w_bl s a i))), ?_, ?_, x_F.rf.put (by omega) (by omega), z10 _ _⟩
    · dsimp only
      rw [if_neg h, if_pos rfl]
      simp (disch := omega) only [z_gd_nI, zn_cl, e1]
      rw [x_putInHand wS.1 wR hL t1 (by omega), z_bind_eq]
    · rw [if_neg h]
      exact hL.hand wS.1 t1
theorem x_ins (hb : 11 ≤ b) (wS : w_S n k q s) (wR : w_R n k B a) : ∀ (m i F : Nat) (σ : z_St), k = i + m → m < F → x_S σ 4 k q s → x_L σ b n k (w_ins s a i) → ∃ σ', f_X1_passWeek_7 b 4 F (nI i) σ = f_X1_passWeek_44 b 4 200 0 0 σ' ∧ x_L σ' b n k (w_ins s a k) ∧ x_F σ σ' b ∧ σ' b 10 = σ b 10 := by
  intro m
  induction m with
  | zero =>
    intro i F σ hm hF hS hL
    obtain ⟨F, rfl⟩ : ∃ F', F = F' + 1 := ⟨F - 1, by omega⟩
    have e : i = k := by omega
    subst e
    have := wS.2.1
    refine ⟨σ, ?_, hL, x_F.rf, rfl⟩
    rw [f_X1_passWeek_7, hS.1, if_pos (by simp (disch := omega) only [zn_le]; omega)]
  | succ m ih =>
    intro i F σ hm hF hS hL
    obtain ⟨F, rfl⟩ : ∃ F', F = F' + 1 := ⟨F - 1, by omega⟩
    have hk := wS.2.1
    have hi : i < k := by omega
    have wRi := w_R_ins wS wR (i := i) (by omega)
    obtain ⟨e1, e2, e3⟩ := hS.2.2.1 i hi
    have h25 := hL.2.2.2.2.2.2
    have r25 := wRi.2.2.2.2.2
    have t := wS.2.2.2.1 i hi
    rw [f_X1_passWeek_7, hS.1]
    simp (disch := omega) only [z_gd_nI, zn_cl, e2, h25, zn_le, zn_eq, zn_lit, zn_add]
    rw [if_neg (by omega)]
    by_cases hw : s 1 i = w_ins s a i 25
    · rw [if_pos hw]
      obtain ⟨σ1, g1, g2, g3, g4⟩ := x_befall wS wRi hS hL hi hw
      obtain ⟨σ2, i1, i2, i3, i4⟩ := ih (i + 1) F σ1 (by omega) (by omega) (hS.fr hb g3) g2
      refine ⟨σ2, ?_, i2, g3.tr i3, i4.trans g4⟩
      rw [g1, z_bind_eq]
      exact i1
    · rw [if_neg hw]
      have e : w_ins s a (i + 1) = w_ins s a i := by rw [w_ins, w_in, if_neg hw]
      exact ih (i + 1) F σ (by omega) (by omega) hS (by rw [e]; exact hL)
theorem x_meets (hb : 11 ≤ b) (hB : B ≤ 100000) (wS : w_S n k q s) (wR : w_R n k B a) (hL : x_L σ b n k a) {j : Nat} (hj : j < q) : ∃ σ', f_X1_meets b (nI (s 3 j)) (nI (s 5 j)) σ = some (if w_c s a j < w_l s a j then 0 else 1, σ') ∧ x_L σ' b n k (w_ask1 s a j) ∧ x_F σ σ' b ∧ σ' b 10 = (if w_c s a j < w_l s a j then σ b 10 ||| ((1 : Int32) <<< (nI (s 3 j) &&& 31)) else σ b 10) := by
  obtain ⟨t1, t2, t3⟩ := wS.2.2.2.2 j hj
  have hn := wS.1
  obtain ⟨e1, e2, e3, e4⟩ := hL.2.1 (s 3 j) t1
  obtain ⟨r1, r2, r3, r4⟩ := wR.1 (s 3 j) t1
  have e8 := hL.2.2.2.2.2.1
  have r8 := wR.2.2.2.2.1
  have hh : w_h s a j ≤ s 5 j := Nat.min_le_right _ _
  have hh2 : w_h s a j ≤ a (4 * s 3 j + 1) := Nat.min_le_left _ _
  have hbk : w_b s a j ≤ s 5 j - w_h s a j := Nat.min_le_left _ _
  have hb2 : w_b s a j ≤ a (4 * s 3 j + 2) := Nat.le_trans (Nat.min_le_right _ _) (Nat.min_le_left _ _)
  have hb3 : w_b s a j ≤ a 24 := Nat.le_trans (Nat.min_le_right _ _) (Nat.min_le_right _ _)
  have hl : w_l s a j = s 5 j - w_h s a j - w_b s a j := rfl
  -- what comes out of cover alone is the same by either way
  have key : f_X1_meets b (nI (s 3 j)) (nI (s 5 j)) σ = f_X1_meets_78 b (nI (s 3 j)) (nI (w_h s a j)) (nI (w_b s a j)) (nI (w_l s a j)) (nI (w_c s a j)) σ := by
    unfold f_X1_meets
    simp (disch := omega) only [z_bi_eq, z_gd_nI, zn_cl, e1, e2, e3, e8, z_min_nI]
    rw [show min (a (4 * s 3 j + 1)) (s 5 j) = w_h s a j from rfl]
    simp (disch := omega) only [zn_sub, z_min_nI]
    rw [show min (s 5 j - w_h s a j) (min (a (4 * s 3 j + 2)) (a 24)) = w_b s a j from rfl]
    simp (disch := omega) only [zn_sub, z_min_nI, zn_lit, zn_eq]
    rw [w_c]
    by_cases h2 : a (4 * s 3 j) = 2
    · rw [if_pos h2, if_pos h2]
      by_cases h3 : a (4 * s 3 j + 2) = w_b s a j
      · rw [if_pos h3]
        rfl
      · rw [if_neg h3]
        have : min (w_l s a j) (a 24 - w_b s a j) = 0 := by
          have hbd : w_b s a j = min (s 5 j - w_h s a j) (min (a (4 * s 3 j + 2)) (a 24)) := rfl
          omega
        rw [this]
        rfl
    · rw [if_neg h2, if_neg h2]
      rfl
  have hcl : w_c s a j ≤ w_l s a j ∧ w_b s a j + w_c s a j ≤ a 24 := by
    rw [w_c]; split <;> omega
  rw [key]
  unfold f_X1_meets_78
  rw [w_ask1]
  simp (disch := omega) only [zn_le]
  by_cases h : w_c s a j < w_l s a j
  · rw [if_neg (by omega), if_pos h, if_pos h, if_pos h]
    simp (disch := omega) only [z_bst_eq, z_gd_nI, zn_cl, e4, zn_lit, zn_add]
    refine ⟨_, rfl, (hL.brz hn t1).faces _, (x_F.rf.put (by omega) (by omega)).put (by omega) (by omega), ?_⟩
    rw [z_put_eq, z_upd_eq, z_put_ne (by omega)]
  · rw [if_pos (by omega), if_neg h, if_neg h, if_neg h]
    simp (disch := omega) only [z_bst_eq, z_gd_nI, zn_cl, e2, zn_sub, z_put_eq, z_put_ne, e3, e8, zn_add]
    refine ⟨_, rfl, ((hL.hand hn t1).bank hn t1).fld hn wS.2.1 (j := 8) (by omega) (by omega), ((x_F.rf.put (by omega) (by omega)).put (by omega) (by omega)).put (by omega) (by omega), ?_⟩
    rw [z_put_eq, z_upd_ne (by omega), z_put_ne (by omega), z_put_ne (by omega)]
theorem x_asks (hb : 11 ≤ b) (hB : B ≤ 99990) (wS : w_S n k q s) (wR : w_R n k B a) : ∀ (m j F : Nat) (σ : z_St), q = j + m → m < F → x_S σ 4 k q s → x_L σ b n k (w_asks s a j) → σ b 10 = nI (w_fc s a j) → ∃ σ', f_X1_passWeek_44 b 4 F (nI (w_tm s a j)) (nI j) σ = (f_X1_closeWeek b σ').bind (fun r => some (nI (w_tm s a q), r.2)) ∧ x_L σ' b n k (w_asks s a q) ∧ x_F σ σ' b ∧ σ' b 10 = nI (w_fc s a q) := by
  intro m
  induction m with
  | zero =>
    intro j F σ hm hF hS hL hf
    obtain ⟨F, rfl⟩ : ∃ F', F = F' + 1 := ⟨F - 1, by omega⟩
    have e : j = q := by omega
    subst e
    have := wS.2.2.1
    refine ⟨σ, ?_, hL, x_F.rf, hf⟩
    rw [f_X1_passWeek_44, hS.2.1, if_pos (by simp (disch := omega) only [zn_le]; omega)]
  | succ m ih =>
    intro j F σ hm hF hS hL hf
    obtain ⟨F, rfl⟩ : ∃ F', F = F' + 1 := ⟨F - 1, by omega⟩
    have hq := wS.2.2.1
    have hj : j < q := by omega
    have wRj := w_R_asks wS wR (j := j) (by omega)
    obtain ⟨e1, e2, e3⟩ := hS.2.2.2 j hj
    obtain ⟨t1, t2, t3⟩ := wS.2.2.2.2 j hj
    have hn := wS.1
    have h25 := hL.2.2.2.2.2.2
    have r25 := wRj.2.2.2.2.2
    rw [f_X1_passWeek_44, hS.2.1]
    simp (disch := omega) only [z_gd_nI, zn_cl, e1, e2, e3, h25, zn_le, zn_eq]
    rw [if_neg (by omega)]
    by_cases hw : s 4 j = w_asks s a j 25
    · rw [if_pos hw]
      obtain ⟨σ1, g1, g2, g3, g4⟩ := x_meets hb (by omega) wS wRj hL hj
      have ew : w_asks s a (j + 1) = w_ask1 s (w_asks s a j) j := by rw [w_asks, w_ask, if_pos hw]
      rw [g1, z_bind_eq]
      by_cases hc : w_c s (w_asks s a j) j < w_l s (w_asks s a j) j
      · have hbz : w_bz s (w_asks s a j) j = true := by simp only [w_bz, hw, hc, decide_true, Bool.and_self]
        have et : w_tm s a (j + 1) = w_tm s a j + 1 := by rw [w_tm, hbz]; rfl
        have ef : w_fc s a (j + 1) = w_fc s a j ||| 2 ^ s 3 j := by rw [w_fc, hbz]; rfl
        dsimp only
        rw [if_pos hc, if_pos rfl]
        rw [if_pos hc, hf, z_shl1 _ (by omega), fa_or] at g4
        obtain ⟨σ2, i1, i2, i3, i4⟩ := ih (j + 1) F σ1 (by omega) (by omega) (hS.fr hb g3) (by rw [ew]; exact g2) (by rw [ef]; exact g4)
        refine ⟨σ2, ?_, i2, g3.tr i3, i4⟩
        simp only [zn_lit, zn_add]
        rw [et] at i1
        exact i1
      · have hbz : w_bz s (w_asks s a j) j = false := by simp only [w_bz, hc, decide_false, Bool.and_false]
        have et : w_tm s a (j + 1) = w_tm s a j := by rw [w_tm, hbz]; rfl
        have ef : w_fc s a (j + 1) = w_fc s a j := by rw [w_fc, hbz]; rfl
        dsimp only
        rw [if_neg hc, if_neg (by decide)]
        rw [if_neg hc, hf] at g4
        obtain ⟨σ2, i1, i2, i3, i4⟩ := ih (j + 1) F σ1 (by omega) (by omega) (hS.fr hb g3) (by rw [ew]; exact g2) (by rw [ef]; exact g4)
        refine ⟨σ2, ?_, i2, g3.tr i3, i4⟩
        simp only [zn_lit, zn_add]
        rw [et] at i1
        exact i1
    · rw [if_neg hw]
      have ew : w_asks s a (j + 1) = w_asks s a j := by rw [w_asks, w_ask, if_neg hw]
      have hbz : w_bz s (w_asks s a j) j = false := by simp only [w_bz, hw, decide_false, Bool.false_and]
      have et : w_tm s a (j + 1) = w_tm s a j := by rw [w_tm, hbz]; rfl
      have ef : w_fc s a (j + 1) = w_fc s a j := by rw [w_fc, hbz]; rfl
      obtain ⟨σ2, i1, i2, i3, i4⟩ := ih (j + 1) F σ (by omega) (by omega) hS (by rw [ew]; exact hL) (by rw [ef]; exact hf)
      refine ⟨σ2, ?_, i2, i3, i4⟩
      simp only [zn_lit, zn_add]
      rw [et] at i1
      exact i1
theorem x_cls (hn : n ≤ 4) (hk : k ≤ 6) (wR : w_R n k B a) : ∀ (m p F : Nat) (σ : z_St), n = p + m → m < F → x_L σ b n k (w_cls a p) → ∃ σ', f_X1_closeWeek_2 b F (nI p) σ = some (0, σ') ∧ x_L σ' b n k (w_end (w_cls a n)) ∧ x_F σ σ' b ∧ σ' b 10 = σ b 10 := by
  intro m
  induction m with
  | zero =>
    intro p F σ hm hF hL
    obtain ⟨F, rfl⟩ : ∃ F', F = F' + 1 := ⟨F - 1, by omega⟩
    have e : p = n := by omega
    subst e
    have wRn := w_R_cls hn wR (Nat.le_refl p)
    have h8 := hL.2.2.2.2.2.1
    have r8 := wRn.2.2.2.2.1
    have h9 := hL.2.2.2.2.2.2
    have r9 := wRn.2.2.2.2.2
    rw [f_X1_closeWeek_2, hL.1, if_pos (by simp (disch := omega) only [zn_le]; omega)]
    simp (disch := omega) only [z_bst_eq, h8, zn_lit, zn_add, z_min_nI, z_put_eq, z_upd_ne, h9]
    refine ⟨_, rfl, ?_, (x_F.rf.put (by omega) (by omega)).put (by omega) (by omega), ?_⟩
    · have h := (hL.fld hn hk (j := 8) (v := min 99 (w_cls a p 24 + 1)) (by omega) (by omega)).fld hn hk (j := 9) (v := w_cls a p 25 + 1) (by omega) (by omega)
      exact h
    · rw [z_put_eq, z_upd_ne (by omega), z_put_eq, z_upd_ne (by omega)]
  | succ m ih =>
    intro p F σ hm hF hL
    obtain ⟨F, rfl⟩ : ∃ F', F = F' + 1 := ⟨F - 1, by omega⟩
    have hp : p < n := by omega
    have wRp := w_R_cls hn wR (p := p) (by omega)
    obtain ⟨e1, e2, e3, e4⟩ := hL.2.1 p hp
    obtain ⟨r1, r2, r3, r4⟩ := wRp.1 p hp
    have h7 := hL.2.2.2.2.1
    have r7 := wRp.2.2.2.1
    have hm2 : w_cls a p (4 * p + 2) * w_cls a p 23 ≤ 999 * 9 := Nat.mul_le_mul r3 r7
    rw [f_X1_closeWeek_2, hL.1]
    simp (disch := omega) only [z_bst_eq, z_gd_nI, zn_cl, e2, e3, h7, zn_le, zn_lit, zn_add, zn_div, zn_sub, z_put_ne, zn_mul]
    rw [if_neg (by omega)]
    have hL1 := hL.hand hn hp (v := w_cls a p (4 * p + 1) - (w_cls a p (4 * p + 1) + 9) / 10)
    have wR1 := wRp.hand hn hp (v := w_cls a p (4 * p + 1) - (w_cls a p (4 * p + 1) + 9) / 10) (by omega)
    rw [x_putAtBank hn wR1 hL1 hp (by omega), z_bind_eq, z_nu_ne (by omega)]
    have hL2 := hL1.bank hn hp (v := min 999 (w_cls a p (4 * p + 2) + w_cls a p (4 * p + 2) * w_cls a p 23 / 10))
    obtain ⟨σ2, i1, i2, i3, i4⟩ := ih (p + 1) F _ (by omega) (by omega) hL2
    refine ⟨σ2, i1, i2, ((x_F.rf.put (by omega) (by omega)).put (by omega) (by omega)).tr i3, ?_⟩
    rw [i4, z_put_ne (by omega), z_put_ne (by omega)]
/-- a week of the class -/
theorem x_week (hb : 11 ≤ b) (hB : B ≤ 99980) (wS : w_S n k q s) (wR : w_R n k B a) (hS : x_S σ 4 k q s) (hL : x_L σ b n k a) : ∃ σ', f_X1_passWeek b 4 σ = some (nI (w_wt s k q a), σ') ∧ x_L σ' b n k (w_wk s n k q a) ∧ x_F σ σ' b ∧ σ' b 10 = nI (w_wf s k q a) := by
  have hF0 : x_F σ (z_put σ b 10 0) b := x_F.rf.put (by omega) (by omega)
  have hk := wS.2.1
  have hq := wS.2.2.1
  have hn := wS.1
  obtain ⟨σ1, g1, g2, g3, g4⟩ := x_ins hb wS wR k 0 200 (z_put σ b 10 0) (by omega) (by omega) (hS.fr hb hF0) (hL.faces 0)
  have wR1 := w_R_ins wS wR (Nat.le_refl k)
  have f0 : σ1 b 10 = nI (w_fc s (w_ins s a k) 0) := by rw [g4, z_put_eq, z_upd_eq]; rfl
  obtain ⟨σ2, i1, i2, i3, i4⟩ := x_asks hb (by omega) wS wR1 q 0 200 σ1 (by omega) (by omega) ((hS.fr hb hF0).fr hb g3) g2 f0
  have wR2 := w_R_asks wS wR1 (Nat.le_refl q)
  obtain ⟨σ3, j1, j2, j3, j4⟩ := x_cls hn hk wR2 n 0 200 σ2 (by omega) (by omega) i2
  refine ⟨σ3, ?_, j2, ((hF0.tr g3).tr i3).tr j3, ?_⟩
  · unfold f_X1_passWeek
    rw [z_bst_eq]
    refine g1.trans (i1.trans ?_)
    unfold f_X1_closeWeek
    rw [show (0 : Int32) = nI 0 from rfl, j1, z_bind_eq]
    rfl
  · rw [j4, i4]; rfl
end XW
