/-! ===== the reference's week is w_wk ===== -/
def m_A (σ : z_St) (a : Nat → Nat) : Prop := ∀ j, j < 45 → σ 2 j = nI (a j)
def m_S (σ : z_St) (n k q : Nat) (s : z_Sy) : Prop := σ 0 3 = nI n ∧ σ 0 4 = nI k ∧ σ 0 5 = nI q ∧ (∀ i, i < k → σ 4 i = nI (s 0 i) ∧ σ 5 i = nI (s 1 i) ∧ σ 6 i = nI (s 2 i)) ∧ (∀ j, j < q → σ 7 j = nI (s 3 j) ∧ σ 8 j = nI (s 4 j) ∧ σ 9 j = nI (s 5 j))
/-- only the row 'at' and the field brazenNow have changed -/
def m_F (σ σ' : z_St) : Prop := (∀ c, c ≠ 0 → c ≠ 2 → σ' c = σ c) ∧ (∀ j, j ≠ 32 → σ' 0 j = σ 0 j)
theorem m_F.rf {σ : z_St} : m_F σ σ := ⟨fun _ _ _ => rfl, fun _ _ => rfl⟩
theorem m_F.tr {σ σ' σ'' : z_St} (h : m_F σ σ') (h' : m_F σ' σ'') : m_F σ σ'' := ⟨fun c h0 h2 => (h'.1 c h0 h2).trans (h.1 c h0 h2), fun j hj => (h'.2 j hj).trans (h.2 j hj)⟩
theorem m_F.put {σ σ' : z_St} (h : m_F σ σ') (k : Nat) (v : Int32) : m_F σ (z_put σ' 2 k v) := ⟨fun c h0 h2 => by rw [z_put_ne h2]; exact h.1 c h0 h2, fun j hj => by rw [z_put_ne (by omega)]; exact h.2 j hj⟩
theorem m_F.now {σ σ' : z_St} (h : m_F σ σ') (v : Int32) : m_F σ (z_put σ' 0 32 v) := ⟨fun c h0 h2 => by rw [z_put_ne h0]; exact h.1 c h0 h2, fun j hj => by rw [z_put_eq, z_upd_ne hj]; exact h.2 j hj⟩
theorem m_S.fr {σ σ' : z_St} {n k q : Nat} {s : z_Sy} (h : m_S σ n k q s) (hF : m_F σ σ') : m_S σ' n k q s := by
  unfold m_S
  rw [hF.2 3 (by omega), hF.2 4 (by omega), hF.2 5 (by omega), hF.1 4 (by omega) (by omega), hF.1 5 (by omega) (by omega), hF.1 6 (by omega) (by omega), hF.1 7 (by omega) (by omega), hF.1 8 (by omega) (by omega), hF.1 9 (by omega) (by omega)]
  exact h
theorem m_A.put {σ : z_St} {a : Nat → Nat} (h : m_A σ a) (c v : Nat) : m_A (z_put σ 2 c (nI v)) (z_nu a c v) := fun j hj => by
  rw [z_put_eq]
  by_cases e : j = c
  · subst e; rw [z_upd_eq, z_nu_eq]
  · rw [z_upd_ne e, z_nu_ne e]; exact h j hj
theorem m_A.now {σ : z_St} {a : Nat → Nat} (h : m_A σ a) (v : Int32) : m_A (z_put σ 0 32 v) a := fun j hj => by rw [z_put_ne (by omega)]; exact h j hj
theorem zn_addn {a b : Nat} (h : b ≤ a) : nI a + -nI b = nI (a - b) := by rw [← Int32.sub_eq_add_neg]; exact zn_sub h
section MW
variable {σ : z_St} {n k q B : Nat} {a : Nat → Nat} {s : z_Sy}
theorem m_of (hA : m_A σ a) {p w : Nat} (h : 4 * p + w < 45) : f_X7_of (nI p) (nI w) σ = some (nI (a (4 * p + w)), σ) := by
  unfold f_X7_of
  simp (disch := omega) only [zn_lit, zn_mul, zn_add, z_gd_nI, zn_cl]
  rw [hA _ h]
theorem m_least {x y : Nat} (hx : x < 2147483648) (hy : y < 2147483648) : f_X7_least (nI x) (nI y) σ = some (nI (min x y), σ) := by
  unfold f_X7_least
  simp (disch := omega) only [zn_le]
  by_cases h : y ≤ x
  · rw [if_pos h, Nat.min_eq_right h]
  · rw [if_neg h, Nat.min_eq_left (by omega)]
theorem m_more {p w t : Nat} {x3 : Int32} (h : 4 * p + w < 45) (hv : σ 2 (4 * p + w) + x3 = nI t) (ht : t < 2147483648) : f_X7_more (nI p) (nI w) x3 σ = some (0, z_put σ 2 (4 * p + w) (nI (min 999 t))) := by
  unfold f_X7_more
  simp (disch := omega) only [zn_lit, zn_mul, zn_add, z_gd_nI, zn_cl, hv, z_bi_eq, z_bst_eq, zn_le]
  by_cases h : t ≤ 999
  · rw [if_pos h, Nat.min_eq_right h]
  · rw [if_neg h, Nat.min_eq_left (by omega)]
theorem m_blush (wS : w_S n k q s) (wR : w_R n k B a) (hS : m_S σ n k q s) (hA : m_A σ a) {i : Nat} (hi : i < k) : f_X7_blushOf (nI i) σ = some (nI (w_bl s a i), σ) := by
  obtain ⟨hn, hk, hq, s1, s2⟩ := wS
  obtain ⟨t1, t2, t3⟩ := s1 i hi
  obtain ⟨e1, e2, e3⟩ := hS.2.2.2.1 i hi
  have e5 := hA (16 + i) (by omega)
  have r5 := wR.2.1 i hi
  obtain ⟨rk, -, -, -⟩ := wR.1 (s 0 i) t1
  unfold f_X7_blushOf
  simp (disch := omega) only [z_bi_eq, z_gd_nI, zn_cl, zn_lit, zn_add, e1, e3, e5, m_of hA, z_bind_eq, zn_eq, zn_mul, zn_div, Nat.add_zero]
  unfold w_bl
  by_cases h1 : a (4 * s 0 i) = 1
  · rw [if_pos h1, if_pos h1]
  · rw [if_neg h1, if_neg h1]
    by_cases h3 : a (4 * s 0 i) = 3
    · rw [if_pos h3, if_pos h3]
    · rw [if_neg h3, if_neg h3]
theorem m_ins (wS : w_S n k q s) (wR : w_R n k B a) : ∀ (m i F : Nat) (σ : z_St), k = i + m → m < F → m_S σ n k q s → m_A σ (w_ins s a i) → ∃ σ', f_X7_weekGoes_15 F (nI (a 25)) (nI i) σ = f_X7_weekGoes_76 200 (nI (a 25)) 0 σ' ∧ m_A σ' (w_ins s a k) ∧ m_F σ σ' ∧ σ' 0 32 = σ 0 32 := by
  intro m
  induction m with
  | zero =>
    intro i F σ hm hF hS hA
    obtain ⟨F, rfl⟩ : ∃ F', F = F' + 1 := ⟨F - 1, by omega⟩
    have e : i = k := by omega
    subst e
    have := wS.2.1
    refine ⟨σ, ?_, hA, m_F.rf, rfl⟩
    rw [f_X7_weekGoes_15, hS.2.1, if_pos (by simp (disch := omega) only [zn_le]; omega)]
  | succ m ih =>
    intro i F σ hm hF hS hA
    obtain ⟨F, rfl⟩ : ∃ F', F = F' + 1 := ⟨F - 1, by omega⟩
    have hk := wS.2.1
    have hn := wS.1
    have hi : i < k := by omega
    have wRi := w_R_ins wS wR (i := i) (by omega)
    obtain ⟨e1, e2, e3⟩ := hS.2.2.2.1 i hi
    have h25 : w_ins s a i 25 = a 25 := w_ins_k wS (Or.inr (Or.inr rfl)) (by omega)
    have r25 := wR.2.2.2.2.2
    obtain ⟨t1, t2, t3⟩ := wS.2.2.2.1 i hi
    have hbl := w_bl_le wS wRi hi
    obtain ⟨-, r1, r2, -⟩ := wRi.1 (s 0 i) t1
    rw [f_X7_weekGoes_15, hS.2.1, hA 22 (by omega), z_bit _ wRi.2.2.1 i (by omega)]
    simp (disch := omega) only [z_gd_nI, zn_cl, e1, e2, zn_le, zn_eq, zn_lit, zn_add]
    rw [if_neg (by omega)]
    by_cases hw : s 1 i = a 25
    · rw [if_pos hw, m_blush wS wRi hS hA hi]
      simp only [z_bind_eq]
      have ew : w_ins s a (i + 1) = w_in s (w_ins s a i) i := rfl
      rw [w_in, if_pos (by rw [h25]; exact hw)] at ew
      by_cases hd : w_ins s a i 22 / 2 ^ i % 2 = 1
      · rw [if_pos hd]
        rw [if_pos hd] at ew
        try dsimp only
        rw [m_more (t := w_ins s a i (4 * s 0 i + 2) + w_bl s (w_ins s a i) i) (by omega) (by rw [hA _ (by omega), zn_add]) (by omega), z_bind_eq]
        obtain ⟨σ2, i1, i2, i3, i4⟩ := ih (i + 1) F _ (by omega) (by omega) (hS.fr (m_F.rf.put _ _)) (by rw [ew]; exact hA.put _ _)
        refine ⟨σ2, i1, i2, (m_F.rf.put _ _).tr i3, ?_⟩
        rw [i4, z_put_ne (by omega)]
      · rw [if_neg hd]
        rw [if_neg hd] at ew
        try dsimp only
        rw [m_more (t := w_ins s a i (4 * s 0 i + 1) + w_bl s (w_ins s a i) i) (by omega) (by rw [hA _ (by omega), zn_add]) (by omega), z_bind_eq]
        obtain ⟨σ2, i1, i2, i3, i4⟩ := ih (i + 1) F _ (by omega) (by omega) (hS.fr (m_F.rf.put _ _)) (by rw [ew]; exact hA.put _ _)
        refine ⟨σ2, i1, i2, (m_F.rf.put _ _).tr i3, ?_⟩
        rw [i4, z_put_ne (by omega)]
    · rw [if_neg hw]
      have e : w_ins s a (i + 1) = w_ins s a i := by rw [w_ins, w_in, if_neg (by rw [h25]; exact hw)]
      exact ih (i + 1) F σ (by omega) (by omega) hS (by rw [e]; exact hA)
theorem m_ask (hB : B ≤ 990) (wS : w_S n k q s) (wR : w_R n k B a) (hS : m_S σ n k q s) (hA : m_A σ a) {j : Nat} (hj : j < q) : ∃ σ', f_X7_isAskedOf (nI j) σ = some (0, σ') ∧ m_A σ' (w_ask1 s a j) ∧ m_F σ σ' ∧ σ' 0 32 = (if w_c s a j < w_l s a j then σ 0 32 ||| ((1 : Int32) <<< (nI (s 3 j) &&& 31)) else σ 0 32) := by
  obtain ⟨t1, t2, t3⟩ := wS.2.2.2.2 j hj
  have hn := wS.1
  have hq := wS.2.2.1
  obtain ⟨r1, r2, r3, r4⟩ := wR.1 (s 3 j) t1
  have r8 := wR.2.2.2.2.1
  obtain ⟨e1, e2, e3⟩ := hS.2.2.2.2 j hj
  have hh : w_h s a j ≤ s 5 j := Nat.min_le_right _ _
  have hh2 : w_h s a j ≤ a (4 * s 3 j + 1) := Nat.min_le_left _ _
  have hbk : w_b s a j ≤ s 5 j - w_h s a j := Nat.min_le_left _ _
  have hb2 : w_b s a j ≤ a (4 * s 3 j + 2) := Nat.le_trans (Nat.min_le_right _ _) (Nat.min_le_left _ _)
  have hb3 : w_b s a j ≤ a 24 := Nat.le_trans (Nat.min_le_right _ _) (Nat.min_le_right _ _)
  have hl : w_l s a j = s 5 j - w_h s a j - w_b s a j := rfl
  have key : f_X7_isAskedOf (nI j) σ = f_X7_isAskedOf_92 (nI (s 3 j)) (nI (w_h s a j)) (nI (w_l s a j)) (nI (w_b s a j)) (nI (w_c s a j)) σ := by
    unfold f_X7_isAskedOf
    simp (disch := omega) only [z_bi_eq, z_gd_nI, zn_cl, zn_lit, e1, e3, m_of hA, z_bind_eq, m_least]
    rw [show min (a (4 * s 3 j + 1)) (s 5 j) = w_h s a j from rfl, hA 24 (by omega)]
    simp (disch := omega) only [zn_sub, m_least, z_bind_eq]
    rw [show min (s 5 j - w_h s a j) (min (a (4 * s 3 j + 2)) (a 24)) = w_b s a j from rfl]
    simp (disch := omega) only [zn_sub, m_least, z_bind_eq, zn_eq, m_of hA, Nat.add_zero, hA 24]
    rw [w_c]
    by_cases h2 : a (4 * s 3 j) = 2
    · rw [if_pos h2, if_pos h2]
      try simp (disch := omega) only [zn_sub, m_least, z_bind_eq]
      rfl
    · rw [if_neg h2, if_neg h2]
      rfl
  have hcl : w_c s a j ≤ w_l s a j ∧ w_b s a j + w_c s a j ≤ a 24 := by
    rw [w_c]; split <;> omega
  rw [key]
  unfold f_X7_isAskedOf_92
  rw [w_ask1]
  simp (disch := omega) only [zn_le]
  by_cases h : w_c s a j < w_l s a j
  · rw [if_neg (by omega), if_pos h, if_pos h]
    simp only [zn_lit]
    rw [m_more (t := a (4 * s 3 j + 3) + 1) (by omega) (by rw [hA _ (by omega), zn_add]) (by omega), z_bind_eq, Nat.min_eq_right (by omega)]
    try dsimp only
    rw [z_bst_eq]
    refine ⟨_, rfl, (hA.put _ _).now _, (m_F.rf.put _ _).now _, ?_⟩
    rw [z_put_eq, z_upd_eq, z_put_ne (by omega)]
  · rw [if_pos (by omega), if_neg h, if_neg h]
    simp only [zn_lit]
    rw [m_more (t := a (4 * s 3 j + 1) - w_h s a j) (by omega) (by rw [hA _ (by omega), zn_addn (by omega)]) (by omega), z_bind_eq, Nat.min_eq_right (by omega)]
    try dsimp only
    have hA1 := hA.put (4 * s 3 j + 1) (a (4 * s 3 j + 1) - w_h s a j)
    rw [m_more (t := a (4 * s 3 j + 2) - w_b s a j) (by omega) (by rw [hA1 _ (by omega), z_nu_ne (by omega), zn_addn (by omega)]) (by omega), z_bind_eq, Nat.min_eq_right (by omega)]
    try dsimp only
    have hA2 := hA1.put (4 * s 3 j + 2) (a (4 * s 3 j + 2) - w_b s a j)
    rw [hA2 24 (by omega), z_nu_ne (by omega), z_nu_ne (by omega), zn_add, zn_sub (by omega), z_bst_eq]
    refine ⟨_, rfl, hA2.put 24 _, ((m_F.rf.put _ _).put _ _).put _ _, ?_⟩
    rw [z_put_ne (by omega), z_put_ne (by omega), z_put_ne (by omega)]
theorem m_asks (hB : B ≤ 980) (wS : w_S n k q s) (wR : w_R n k B a) : ∀ (m j F : Nat) (σ : z_St), q = j + m → m < F → m_S σ n k q s → m_A σ (w_asks s a j) → σ 0 32 = nI (w_fc s a j) → ∃ σ', f_X7_weekGoes_76 F (nI (a 25)) (nI j) σ = f_X7_weekGoes_107 200 0 σ' ∧ m_A σ' (w_asks s a q) ∧ m_F σ σ' ∧ σ' 0 32 = nI (w_fc s a q) := by
  intro m
  induction m with
  | zero =>
    intro j F σ hm hF hS hA hf
    obtain ⟨F, rfl⟩ : ∃ F', F = F' + 1 := ⟨F - 1, by omega⟩
    have e : j = q := by omega
    subst e
    have := wS.2.2.1
    refine ⟨σ, ?_, hA, m_F.rf, hf⟩
    rw [f_X7_weekGoes_76, hS.2.2.1, if_pos (by simp (disch := omega) only [zn_le]; omega)]
  | succ m ih =>
    intro j F σ hm hF hS hA hf
    obtain ⟨F, rfl⟩ : ∃ F', F = F' + 1 := ⟨F - 1, by omega⟩
    have hq := wS.2.2.1
    have hn := wS.1
    have hj : j < q := by omega
    have wRj := w_R_asks wS wR (j := j) (by omega)
    obtain ⟨e1, e2, e3⟩ := hS.2.2.2.2 j hj
    obtain ⟨t1, t2, t3⟩ := wS.2.2.2.2 j hj
    have h25 : w_asks s a j 25 = a 25 := w_asks_k wS (Or.inr rfl) (by omega)
    have r25 := wR.2.2.2.2.2
    rw [f_X7_weekGoes_76, hS.2.2.1]
    simp (disch := omega) only [z_gd_nI, zn_cl, e2, zn_le, zn_eq, zn_lit, zn_add]
    rw [if_neg (by omega)]
    by_cases hw : s 4 j = a 25
    · have hw' : s 4 j = w_asks s a j 25 := by rw [h25]; exact hw
      rw [if_pos hw]
      obtain ⟨σ1, g1, g2, g3, g4⟩ := m_ask (by omega) wS wRj hS hA hj
      have ew : w_asks s a (j + 1) = w_ask1 s (w_asks s a j) j := by rw [w_asks, w_ask, if_pos hw']
      rw [g1, z_bind_eq]
      have ef : σ1 0 32 = nI (w_fc s a (j + 1)) := by
        by_cases hc : w_c s (w_asks s a j) j < w_l s (w_asks s a j) j
        · have hbz : w_bz s (w_asks s a j) j = true := by simp only [w_bz, hw', hc, decide_true, Bool.and_self]
          rw [g4, if_pos hc, hf, z_shl1 _ (by omega), fa_or, w_fc, hbz]; rfl
        · have hbz : w_bz s (w_asks s a j) j = false := by simp only [w_bz, hc, decide_false, Bool.and_false]
          rw [g4, if_neg hc, hf, w_fc, hbz]; rfl
      obtain ⟨σ2, i1, i2, i3, i4⟩ := ih (j + 1) F σ1 (by omega) (by omega) (hS.fr g3) (by rw [ew]; exact g2) ef
      exact ⟨σ2, i1, i2, g3.tr i3, i4⟩
    · have hw' : ¬ s 4 j = w_asks s a j 25 := by rw [h25]; exact hw
      rw [if_neg hw]
      have ew : w_asks s a (j + 1) = w_asks s a j := by rw [w_asks, w_ask, if_neg hw']
      have hbz : w_bz s (w_asks s a j) j = false := by simp only [w_bz, hw', decide_false, Bool.false_and]
      have ef : w_fc s a (j + 1) = w_fc s a j := by rw [w_fc, hbz]; rfl
      exact ih (j + 1) F σ (by omega) (by omega) hS (by rw [ew]; exact hA) (by rw [ef]; exact hf)
theorem m_cls (hn : n ≤ 4) (wR : w_R n k B a) : ∀ (m p F : Nat) (σ : z_St), n = p + m → m < F → σ 0 3 = nI n → m_A σ (w_cls a p) → ∃ σ', f_X7_weekGoes_107 F (nI p) σ = some (0, σ') ∧ m_A σ' (w_end (w_cls a n)) ∧ m_F σ σ' ∧ σ' 0 32 = σ 0 32 := by
  intro m
  induction m with
  | zero =>
    intro p F σ hm hF hN hA
    obtain ⟨F, rfl⟩ : ∃ F', F = F' + 1 := ⟨F - 1, by omega⟩
    have e : p = n := by omega
    subst e
    have wRn := w_R_cls hn wR (Nat.le_refl p)
    have r8 := wRn.2.2.2.2.1
    have r9 := wRn.2.2.2.2.2
    have key : f_X7_weekGoes_107 (F + 1) (nI p) σ = some (0, z_put (z_put σ 2 24 (nI (min 99 (w_cls a p 24 + 1)))) 2 25 (nI (w_cls a p 25 + 1))) := by
      rw [f_X7_weekGoes_107, hN, if_pos (by simp (disch := omega) only [zn_le]; omega), hA 24 (by omega)]
      unfold f_X7_weekGoes_219
      simp (disch := omega) only [zn_lit, zn_le, zn_add, z_gd_nI, zn_cl, z_bst_eq, z_put_eq, z_upd_ne, hA 25]
      by_cases h : 99 ≤ w_cls a p 24
      · rw [if_pos h, show min 99 (w_cls a p 24 + 1) = w_cls a p 24 by omega]
      · rw [if_neg h, show min 99 (w_cls a p 24 + 1) = w_cls a p 24 + 1 by omega]
    refine ⟨_, key, (hA.put 24 _).put 25 _, (m_F.rf.put _ _).put _ _, ?_⟩
    rw [z_put_ne (by omega), z_put_ne (by omega)]
  | succ m ih =>
    intro p F σ hm hF hN hA
    obtain ⟨F, rfl⟩ : ∃ F', F = F' + 1 := ⟨F - 1, by omega⟩
    have hp : p < n := by omega
    have wRp := w_R_cls hn wR (p := p) (by omega)
    obtain ⟨r1, r2, r3, r4⟩ := wRp.1 p hp
    have r7 := wRp.2.2.2.1
    have hm2 : w_cls a p (4 * p + 2) * w_cls a p 23 ≤ 999 * 9 := Nat.mul_le_mul r3 r7
    rw [f_X7_weekGoes_107, hN]
    simp (disch := omega) only [zn_le, zn_lit, m_of hA, z_bind_eq, zn_add, zn_sub, zn_div]
    rw [if_neg (by omega), show w_cls a p (4 * p + 1) + 10 - 1 = w_cls a p (4 * p + 1) + 9 by omega]
    rw [m_more (t := w_cls a p (4 * p + 1) - (w_cls a p (4 * p + 1) + 9) / 10) (by omega) (by rw [hA _ (by omega), zn_addn (by omega)]) (by omega), z_bind_eq, Nat.min_eq_right (by omega)]
    have hA1 := hA.put (4 * p + 1) (w_cls a p (4 * p + 1) - (w_cls a p (4 * p + 1) + 9) / 10)
    have e23 := hA1 23 (by omega)
    rw [z_nu_ne (by omega)] at e23
    simp (disch := omega) only [m_of hA1, z_bind_eq, z_nu_ne, e23, zn_mul, zn_div, zn_add, m_least, z_gd_nI, zn_cl, z_bst_eq]
    obtain ⟨σ2, i1, i2, i3, i4⟩ := ih (p + 1) F _ (by omega) (by omega) (by rw [z_put_ne (by omega), z_put_ne (by omega)]; exact hN) (hA1.put (4 * p + 2) (min 999 (w_cls a p (4 * p + 2) + w_cls a p (4 * p + 2) * w_cls a p 23 / 10)))
    refine ⟨σ2, i1, i2, ((m_F.rf.put _ _).put _ _).tr i3, ?_⟩
    rw [i4, z_put_ne (by omega), z_put_ne (by omega)]
/-- a week of the reference -/
theorem m_week (hB : B ≤ 980) (wS : w_S n k q s) (wR : w_R n k B a) (hS : m_S σ n k q s) (hA : m_A σ a) : ∃ σ', f_X7_weekGoes σ = some (0, σ') ∧ m_A σ' (w_wk s n k q a) ∧ m_F σ σ' ∧ σ' 0 32 = nI (w_wf s k q a) := by
  have hF0 : m_F σ (z_put σ 0 32 0) := m_F.rf.now 0
  have hk := wS.2.1
  have hq := wS.2.2.1
  have hn := wS.1
  have r25 := wR.2.2.2.2.2
  obtain ⟨σ1, g1, g2, g3, g4⟩ := m_ins wS wR k 0 200 (z_put σ 0 32 0) (by omega) (by omega) (hS.fr hF0) (hA.now 0)
  have wR1 := w_R_ins wS wR (Nat.le_refl k)
  have e25 : w_ins s a k 25 = a 25 := w_ins_k wS (Or.inr (Or.inr rfl)) (Nat.le_refl k)
  have f0 : σ1 0 32 = nI (w_fc s (w_ins s a k) 0) := by rw [g4, z_put_eq, z_upd_eq]; rfl
  obtain ⟨σ2, i1, i2, i3, i4⟩ := m_asks hB wS wR1 q 0 200 σ1 (by omega) (by omega) ((hS.fr hF0).fr g3) g2 f0
  have wR2 := w_R_asks wS wR1 (Nat.le_refl q)
  obtain ⟨σ3, j1, j2, j3, j4⟩ := m_cls hn wR2 n 0 200 σ2 (by omega) (by omega) (((hS.fr hF0).fr g3).fr i3).1 i2
  refine ⟨σ3, ?_, j2, ((hF0.tr g3).tr i3).tr j3, ?_⟩
  · unfold f_X7_weekGoes
    rw [z_bst_eq, hA 25 (by omega)]
    rw [e25] at i1
    exact g1.trans (i1.trans j1)
  · rw [j4, i4]; rfl
end MW
