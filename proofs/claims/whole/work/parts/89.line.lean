/-! ===== the text: a line ===== -/
def d_V (n k q : Nat) (s : z_Sy) (a : Nat → Nat) (hI hC : Nat) (H : Int) : Prop :=
  n ≤ 4 ∧ k ≤ 6 ∧ q ≤ 6 ∧ hI ≤ 1 ∧ hC ≤ 1 ∧ (∀ i, i < k → s 0 i ≤ 3 ∧ s 1 i ≤ 9 ∧ s 2 i ≤ 9 ∧ a (16 + i) ≤ 9) ∧ (∀ j, j < q → s 3 j ≤ 3 ∧ s 4 j ≤ 9 ∧ s 5 j ≤ 30) ∧ (∀ p, p < n → a (4 * p) ≤ 3 ∧ a (4 * p + 1) ≤ 99) ∧ (∀ p, p < 4 → a (4 * p + 2) = 0 ∧ a (4 * p + 3) = 0) ∧ (a 22 = 0 ∧ a 23 ≤ 9 ∧ a 24 ≤ 99 ∧ a 25 = 0 ∧ a 26 = 0) ∧ (-4 ≤ H ∧ H ≤ 3) ∧ (∀ i, i < k → (s 0 i : Int) ≤ H) ∧ (∀ j, j < q → (s 3 j : Int) ≤ H) ∧ (H < 0 ∨ (∃ i, i < k ∧ (s 0 i : Int) = H) ∨ (∃ j, j < q ∧ (s 3 j : Int) = H))
def d_X (n k q : Nat) (s : z_Sy) (a : Nat → Nat) (hI hC : Nat) (σ : z_St) : Prop := x_S σ 30 k q s ∧ x_L σ 37 n k a ∧ (∀ p, p < 4 → σ 40 p = 0 ∧ σ 41 p = 0) ∧ σ 27 10 = nI hI ∧ σ 27 11 = nI hC
def d_M (n k q : Nat) (s : z_Sy) (a : Nat → Nat) (hI hC : Nat) (H : Int) (σ : z_St) : Prop := σ 0 13 = nI n ∧ σ 0 14 = nI k ∧ σ 0 15 = nI q ∧ σ 0 22 = nI (64 * hI + 128 * hC) ∧ (σ 0 23).toInt = H ∧ (∀ j, j < 45 → σ 10 j = nI (a j)) ∧ (∀ i, i < k → σ 11 i = nI (s 0 i) ∧ σ 12 i = nI (s 1 i) ∧ σ 13 i = nI (s 2 i)) ∧ (∀ j, j < q → σ 14 j = nI (s 3 j) ∧ σ 15 j = nI (s 4 j) ∧ σ 16 j = nI (s 5 j))
def x_Q (σ σ' : z_St) : Prop := (∀ c, (c < 27 ∨ c = 28 ∨ c = 40 ∨ c = 41 ∨ 43 ≤ c) → σ' c = σ c) ∧ (∀ j, (j = 6 ∨ j = 9) → σ' 37 j = σ 37 j)
def m_Q (σ σ' : z_St) : Prop := (∀ c, ((1 ≤ c ∧ c < 10) ∨ 17 ≤ c) → σ' c = σ c) ∧ (∀ j, (j < 13 ∨ (16 ≤ j ∧ j < 22) ∨ (24 ≤ j ∧ j < 26) ∨ 31 < j) → σ' 0 j = σ 0 j)
def z_su (s : z_Sy) (r j v : Nat) : z_Sy := fun r' j' => if r' = r ∧ j' = j then v else s r' j'
section LI
variable {σ σ' σ'' σX σM : z_St} {tp : Nat → Nat} {ln : Nat} {s : z_P} {n k q hI hC : Nat} {sy : z_Sy} {a : Nat → Nat} {H : Int}
theorem z_su_eq (r j v : Nat) : z_su sy r j v r j = v := by rw [z_su, if_pos ⟨rfl, rfl⟩]
theorem z_su_ne {r j v r' j' : Nat} (h : r' ≠ r ∨ j' ≠ j) : z_su sy r j v r' j' = sy r' j' := by
  rw [z_su, if_neg (by omega)]
theorem x_Q.rf : x_Q σ σ := ⟨fun _ _ => rfl, fun _ _ => rfl⟩
theorem x_Q.tr (h : x_Q σ σ') (h' : x_Q σ' σ'') : x_Q σ σ'' := ⟨fun c hc => (h'.1 c hc).trans (h.1 c hc), fun c hc => (h'.2 c hc).trans (h.2 c hc)⟩
theorem x_Q.put (h : x_Q σ σ') {c j : Nat} {v : Int32} (hc : c = 27 ∨ (29 ≤ c ∧ c ≤ 39) ∨ c = 42) (hj : c = 37 → j ≠ 6 ∧ j ≠ 9) : x_Q σ (z_put σ' c j v) := ⟨fun d hd => by rw [z_put_ne (by omega)]; exact h.1 d hd, fun i hi => by
  by_cases e : c = 37
  · subst e; rw [z_put_eq, z_upd_ne (by have := hj rfl; omega)]; exact h.2 i hi
  · rw [z_put_ne (fun q => e q.symm)]; exact h.2 i hi⟩
theorem x_Kn.qq (h : x_Kn σ σ') : x_Q σ σ' := ⟨fun c hc => h.1 c (by omega) (by omega), fun j _ => by rw [h.1 37 (by omega) (by omega)]⟩
theorem m_Q.rf : m_Q σ σ := ⟨fun _ _ => rfl, fun _ _ => rfl⟩
theorem m_Q.tr (h : m_Q σ σ') (h' : m_Q σ' σ'') : m_Q σ σ'' := ⟨fun c hc => (h'.1 c hc).trans (h.1 c hc), fun j hj => (h'.2 j hj).trans (h.2 j hj)⟩
theorem m_N.qq (h : m_N σ σ') : m_Q σ σ' := ⟨fun c hc => h.1 c (by omega), fun j hj => h.2 j (by omega)⟩
theorem m_Q.dr (h : m_Q σ σ') {c j : Nat} {v : Int32} (hc : 10 ≤ c) (hc2 : c ≤ 16) : m_Q σ (z_put σ' c j v) := ⟨fun d hd => by rw [z_put_ne (by omega)]; exact h.1 d hd, fun i hi => by rw [z_put_ne (by omega)]; exact h.2 i hi⟩
theorem m_Q.ct (h : m_Q σ σ') {j : Nat} {v : Int32} (hj : (13 ≤ j ∧ j ≤ 15) ∨ j = 22 ∨ j = 23) : m_Q σ (z_put σ' 0 j v) := ⟨fun d hd => by rw [z_put_ne (by omega)]; exact h.1 d hd, fun i hi => by rw [z_put_eq, z_upd_ne (by omega)]; exact h.2 i hi⟩
theorem m_T.qq (h : m_T σ tp ln) (hQ : m_Q σ σ') : m_T σ' tp ln := by
  unfold m_T
  rw [hQ.1 17 (by omega), hQ.2 25 (by omega)]; exact h
theorem m_Z.fr (h : m_Z tp ln σ s) (hF : ∀ j, 26 ≤ j → j ≤ 31 → σ' 0 j = σ 0 j) : m_Z tp ln σ' s := by
  unfold m_Z
  rw [hF 30 (by omega) (by omega), hF 31 (by omega) (by omega), hF 27 (by omega) (by omega), hF 26 (by omega) (by omega), hF 28 (by omega) (by omega), hF 29 (by omega) (by omega)]
  exact h
theorem m_Z.dr (h : m_Z tp ln σ s) {c j : Nat} {v : Int32} (hc : 10 ≤ c) : m_Z tp ln (z_put σ c j v) s := h.fr (fun i _ _ => by rw [z_put_ne (by omega)])
theorem m_Z.ct (h : m_Z tp ln σ s) {j : Nat} {v : Int32} (hj : j < 26) : m_Z tp ln (z_put σ 0 j v) s := h.fr (fun i _ _ => by rw [z_put_eq, z_upd_ne (by omega)])
theorem d_M.fr (h : d_M n k q sy a hI hC H σ) (hN : m_N σ σ') : d_M n k q sy a hI hC H σ' := by
  unfold d_M
  rw [hN.2 13 (by omega), hN.2 14 (by omega), hN.2 15 (by omega), hN.2 22 (by omega), hN.2 23 (by omega), hN.1 10 (by omega), hN.1 11 (by omega), hN.1 12 (by omega), hN.1 13 (by omega), hN.1 14 (by omega), hN.1 15 (by omega), hN.1 16 (by omega)]
  exact h
theorem d_X.fr (h : d_X n k q sy a hI hC σ) (hK : x_Kn σ σ') : d_X n k q sy a hI hC σ' := by
  have hF : ∀ c, 30 ≤ c → σ' c = σ c := fun c hc => hK.1 c (by omega) (by omega)
  unfold d_X x_S x_L
  rw [hF 30 (by omega), hF (30 + 1) (by omega), hF (30 + 2) (by omega), hF (30 + 3) (by omega), hF (30 + 4) (by omega), hF (30 + 5) (by omega), hF (30 + 6) (by omega), hF 37 (by omega), hF (37 + 1) (by omega), hF (37 + 2) (by omega), hF (37 + 3) (by omega), hF (37 + 4) (by omega), hF (37 + 5) (by omega), hK.2 10 (by omega), hK.2 11 (by omega)]
  exact h
theorem d_row {c v : Nat} (h : ∀ j, j < 45 → σ 10 j = nI (a j)) : ∀ j, j < 45 → z_put σ 10 c (nI v) 10 j = nI (z_nu a c v j) := fun j hj => by
  rw [z_put_eq]
  by_cases e : j = c
  · subst e; rw [z_upd_eq, z_nu_eq]
  · rw [z_upd_ne e, z_nu_ne e]; exact h j hj
theorem nI_n4 {w c : Nat} (hw : w < 2147483648) (hc : c < 2147483648) (h : w ≠ c) : ¬ nI w = nI c := by rw [zn_eq hw hc]; exact h
theorem t_v_le : ∀ (hs : List Nat) (s : z_P), (t_nums tp ln hs s).1 = 0 → ∀ i, i < hs.length → t_v tp ln hs s i ≤ hs.getD i 0
  | [], _, _, i, hi => absurd hi (by simp)
  | h :: hs, s, q, 0, _ => (t_num_0 (t_nums_0 hs _ q)).2.2.1
  | h :: hs, s, q, i + 1, hi => t_v_le hs _ q i (by simpa using hi)
theorem t_nums_pos : ∀ (hs : List Nat) (s : z_P), t_ok ln s → (t_nums tp ln hs s).1 = 0 → s.2.2 ≤ (t_nums tp ln hs s).2.2 ∧ (t_nums tp ln hs s).2.2 ≤ ln
  | [], s, ho, h => ⟨Nat.le_refl _, ho h⟩
  | h :: hs, s, ho, q => by
    have h1 := t_num_0 (t_nums_0 hs _ q)
    have h2 := t_nums_pos hs (t_num tp ln h s) (t_num_ok ho) q
    rw [t_nums]
    refine ⟨Nat.le_trans ?_ h2.1, h2.2⟩
    rw [h1.2.2.2]
    show s.2.2 ≤ t_en tp ln s.2.2
    exact Nat.le_trans (t_st_ge _) (Nat.le_of_lt (t_en_up (ho h1.1) (by omega) (by omega)))
/-! the reference, word by word -/
theorem m_person {w : Nat} (hw : w ≤ 3) (hn : n ≤ 3) (hT : m_T σ tp ln) (hs : t_ok ln s) (hZ : m_Z tp ln σ (t_lk tp ln s)) (hD : d_M n k q sy a hI hC H σ) : ∃ σ', f_X7_readLineOf (nI w) σ = some (0, σ') ∧ m_Q σ σ' ∧ m_Z tp ln σ' (t_lk tp ln (t_nums tp ln [99] s)) ∧ ((t_nums tp ln [99] s).1 = 0 → d_M (n + 1) k q sy (z_nu (z_nu a (4 * n) w) (4 * n + 1) (t_v tp ln [99] s 0)) hI hC H σ') := by
  have d13 := hD.1
  have Q1 : m_Q σ (z_put σ 10 (4 * n) (nI w)) := m_Q.rf.dr (by omega) (by omega)
  obtain ⟨v, σ1, g1, g2, g3, g4⟩ := m_num (hi := 99) (by omega) (hT.qq Q1) hs (hZ.dr (c := 10) (j := 4 * n) (v := nI w) (by omega))
  unfold f_X7_readLineOf
  rw [if_neg (show ¬ nI w = (4 : Int32) from nI_n4 (c := 4) (by omega) (by omega) (by omega)), if_neg (show ¬ nI w = (5 : Int32) from nI_n4 (c := 5) (by omega) (by omega) (by omega)), if_neg (show ¬ nI w = (6 : Int32) from nI_n4 (c := 6) (by omega) (by omega) (by omega)), if_neg (show ¬ nI w = (7 : Int32) from nI_n4 (c := 7) (by omega) (by omega) (by omega)), d13, show (4 : Int32) * nI n + 0 = nI (4 * n) by rw [show (4 : Int32) = nI 4 from rfl, show (0 : Int32) = nI 0 from rfl, zn_mul, zn_add]; rfl, z_gd_nI (by omega) (by omega), zn_cl (by omega), z_bst_eq, show f_X7_readNumber 0 99 (z_put σ 10 (4 * n) (nI w)) = _ from g1, z_be]
  dsimp only
  have e13 : z_put σ 10 (4 * n) (nI w) 0 13 = nI n := by rw [z_put_ne (by omega), d13]
  rw [e13, show (4 : Int32) * nI n + 1 = nI (4 * n + 1) by rw [show (4 : Int32) = nI 4 from rfl, show (1 : Int32) = nI 1 from rfl, zn_mul, zn_add], z_gd_nI (by omega) (by omega), zn_cl (by omega), z_bst_eq, z_bst_eq]
  refine ⟨_, rfl, ((Q1.tr g2.qq).dr (by omega) (by omega)).ct (by omega), (g3.dr (by omega)).ct (by omega), fun h0 => ?_⟩
  have ev : v = nI (t_v tp ln [99] s 0) := g4 h0
  have hD1 := hD
  obtain ⟨h1, h2, h3, h4, h5, h6, h7, h8⟩ := hD1
  have N : ∀ c, c ≠ 0 → c ≠ 10 → z_put (z_put σ1 10 (4 * n + 1) v) 0 13 (z_put σ1 10 (4 * n + 1) v 0 13 + 1) c = σ c := fun c hc hc2 => by
    rw [z_put_ne hc, z_put_ne hc2, g2.1 c hc, z_put_ne hc2]
  have N0 : ∀ j, j < 26 → j ≠ 13 → z_put (z_put σ1 10 (4 * n + 1) v) 0 13 (z_put σ1 10 (4 * n + 1) v 0 13 + 1) 0 j = σ 0 j := fun j hj hj2 => by
    rw [z_put_eq, z_upd_ne hj2, z_put_ne (by omega), g2.2 j (by omega), z_put_ne (by omega)]
  refine ⟨?_, ?_, ?_, ?_, ?_, ?_, ?_, ?_⟩
  · rw [z_put_eq, z_upd_eq, z_put_ne (by omega), g2.2 13 (by omega), e13]; exact nI_1 n
  · rw [N0 14 (by omega) (by omega)]; exact h2
  · rw [N0 15 (by omega) (by omega)]; exact h3
  · rw [N0 22 (by omega) (by omega)]; exact h4
  · rw [N0 23 (by omega) (by omega)]; exact h5
  · rw [z_put_ne (by omega), ev]
    refine d_row ?_
    rw [g2.1 10 (by omega)]
    exact d_row h6
  · rw [N 11 (by omega) (by omega), N 12 (by omega) (by omega), N 13 (by omega) (by omega)]; exact h7
  · rw [N 14 (by omega) (by omega), N 15 (by omega) (by omega), N 16 (by omega) (by omega)]; exact h8
theorem m_interest (hT : m_T σ tp ln) (hs : t_ok ln s) (hZ : m_Z tp ln σ (t_lk tp ln s)) (hD : d_M n k q sy a hI hC H σ) : ∃ σ', f_X7_readLineOf (nI 6) σ = some (0, σ') ∧ m_Q σ σ' ∧ m_Z tp ln σ' (t_lk tp ln (t_nums tp ln [9] s)) ∧ ((t_nums tp ln [9] s).1 = 0 → d_M n k q sy (z_nu a 23 (t_v tp ln [9] s 0)) hI hC H σ') := by
  obtain ⟨v, σ1, g1, g2, g3, g4⟩ := m_num (hi := 9) (by omega) hT hs hZ
  unfold f_X7_readLineOf
  rw [if_neg (by decide), if_neg (by decide), if_pos (show nI 6 = (6 : Int32) from rfl), show f_X7_readNumber 0 9 σ = _ from g1, z_be]
  dsimp only
  rw [z_bst_eq]
  refine ⟨_, rfl, g2.qq.dr (by omega) (by omega), g3.dr (by omega), fun h0 => ?_⟩
  have ev : v = nI (t_v tp ln [9] s 0) := g4 h0
  obtain ⟨h1, h2, h3, h4, h5, h6, h7, h8⟩ := hD.fr g2
  refine ⟨?_, ?_, ?_, ?_, ?_, ?_, ?_, ?_⟩
  · rw [z_put_ne (by omega)]; exact h1
  · rw [z_put_ne (by omega)]; exact h2
  · rw [z_put_ne (by omega)]; exact h3
  · rw [z_put_ne (by omega)]; exact h4
  · rw [z_put_ne (by omega)]; exact h5
  · rw [ev]; exact d_row h6
  · rw [z_put_ne (by omega), z_put_ne (by omega), z_put_ne (by omega)]; exact h7
  · rw [z_put_ne (by omega), z_put_ne (by omega), z_put_ne (by omega)]; exact h8
theorem m_cover (hT : m_T σ tp ln) (hs : t_ok ln s) (hZ : m_Z tp ln σ (t_lk tp ln s)) (hD : d_M n k q sy a hI hC H σ) : ∃ σ', f_X7_readLineOf (nI 7) σ = some (0, σ') ∧ m_Q σ σ' ∧ m_Z tp ln σ' (t_lk tp ln (t_nums tp ln [99] s)) ∧ ((t_nums tp ln [99] s).1 = 0 → d_M n k q sy (z_nu a 24 (t_v tp ln [99] s 0)) hI hC H σ') := by
  obtain ⟨v, σ1, g1, g2, g3, g4⟩ := m_num (hi := 99) (by omega) hT hs hZ
  unfold f_X7_readLineOf
  rw [if_neg (by decide), if_neg (by decide), if_neg (by decide), if_pos (show nI 7 = (7 : Int32) from rfl), show f_X7_readNumber 0 99 σ = _ from g1, z_be]
  dsimp only
  rw [z_bst_eq]
  refine ⟨_, rfl, g2.qq.dr (by omega) (by omega), g3.dr (by omega), fun h0 => ?_⟩
  have ev : v = nI (t_v tp ln [99] s 0) := g4 h0
  obtain ⟨h1, h2, h3, h4, h5, h6, h7, h8⟩ := hD.fr g2
  refine ⟨?_, ?_, ?_, ?_, ?_, ?_, ?_, ?_⟩
  · rw [z_put_ne (by omega)]; exact h1
  · rw [z_put_ne (by omega)]; exact h2
  · rw [z_put_ne (by omega)]; exact h3
  · rw [z_put_ne (by omega)]; exact h4
  · rw [z_put_ne (by omega)]; exact h5
  · rw [ev]; exact d_row h6
  · rw [z_put_ne (by omega), z_put_ne (by omega), z_put_ne (by omega)]; exact h7
  · rw [z_put_ne (by omega), z_put_ne (by omega), z_put_ne (by omega)]; exact h8
theorem m_rp (hT : m_T σ tp ln) (hs : t_ok ln s) (hZ : m_Z tp ln σ (t_lk tp ln s)) (hH : (σ 0 23).toInt = H) : ∃ v σ', f_X7_readPerson σ = some (v, σ') ∧ (∀ c, c ≠ 0 → σ' c = σ c) ∧ (∀ j, (j < 23 ∨ (24 ≤ j ∧ j < 26) ∨ 31 < j) → σ' 0 j = σ 0 j) ∧ m_Z tp ln σ' (t_lk tp ln (t_num tp ln 3 s)) ∧ ((t_num tp ln 3 s).1 = 0 → v = nI (t_vl tp ln s.2.2) ∧ (σ' 0 23).toInt = max H (t_vl tp ln s.2.2)) := by
  obtain ⟨v, σ1, g1, g2, g3, g4⟩ := m_num (hi := 3) (by omega) hT hs hZ
  unfold f_X7_readPerson
  rw [show f_X7_readNumber 0 3 σ = _ from g1, z_be]
  dsimp only
  have h23 : σ1 0 23 = σ 0 23 := g2.2 23 (by omega)
  have fr : ∀ x : Int32, (∀ c, c ≠ 0 → z_put σ1 0 23 x c = σ c) ∧ (∀ j, (j < 23 ∨ (24 ≤ j ∧ j < 26) ∨ 31 < j) → z_put σ1 0 23 x 0 j = σ 0 j) := fun x => ⟨fun c hc => by rw [z_put_ne hc, g2.1 c hc], fun j hj => by rw [z_put_eq, z_upd_ne (by omega), g2.2 j (by omega)]⟩
  have bd : (t_num tp ln 3 s).1 = 0 → t_vl tp ln s.2.2 ≤ 3 := fun h => (t_num_0 h).2.2.1
  by_cases c : v ≤ σ1 0 23
  · rw [if_pos c, z_bst_eq]
    refine ⟨v, _, rfl, (fr _).1, (fr _).2, g3.ct (by omega), fun h0 => ⟨g4 h0, ?_⟩⟩
    rw [z_put_eq, z_upd_eq, h23, hH]
    have c' := (fa_le _ _).mp c
    rw [g4 h0, h23, hH, nI_toInt (by have := bd h0; omega)] at c'
    omega
  · rw [if_neg c, z_bst_eq]
    refine ⟨v, _, rfl, (fr _).1, (fr _).2, g3.ct (by omega), fun h0 => ⟨g4 h0, ?_⟩⟩
    have c' : ¬ v.toInt ≤ (σ1 0 23).toInt := fun q => c ((fa_le _ _).mpr q)
    rw [g4 h0, h23, hH, nI_toInt (by have := bd h0; omega)] at c'
    rw [z_put_eq, z_upd_eq, g4 h0, nI_toInt (by have := bd h0; omega)]
    omega
theorem m_trip (hk : k ≤ 5) (hT : m_T σ tp ln) (hs : t_ok ln s) (hZ : m_Z tp ln σ (t_lk tp ln s)) (hD : d_M n k q sy a hI hC H σ) : ∃ σ', f_X7_readLineOf (nI 4) σ = some (0, σ') ∧ m_Q σ σ' ∧ m_Z tp ln σ' (t_lk tp ln (t_nums tp ln [3, 9, 9, 9] s)) ∧ ((t_nums tp ln [3, 9, 9, 9] s).1 = 0 → d_M n (k + 1) q (z_su (z_su (z_su sy 0 k (t_v tp ln [3, 9, 9, 9] s 0)) 1 k (t_v tp ln [3, 9, 9, 9] s 1)) 2 k (t_v tp ln [3, 9, 9, 9] s 2)) (z_nu a (16 + k) (t_v tp ln [3, 9, 9, 9] s 3)) hI hC (max H (t_v tp ln [3, 9, 9, 9] s 0)) σ') := by
  have d14 := hD.2.1
  obtain ⟨v0, σ1, g1, g2, g2', g3, g4⟩ := m_rp hT hs hZ hD.2.2.2.2.1
  have QA : m_Q σ (z_put σ1 11 k v0) := (show m_Q σ σ1 from ⟨fun c hc => g2 c (by omega), fun j hj => g2' j (by omega)⟩).dr (by omega) (by omega)
  obtain ⟨v1, σ2, i1, i2, i3, i4⟩ := m_num (hi := 9) (by omega) (hT.qq QA) (t_num_ok (hi := 3) (tp := tp) hs) (g3.dr (c := 11) (j := k) (v := v0) (by omega))
  have QB : m_Q σ (z_put σ2 12 k v1) := (QA.tr i2.qq).dr (by omega) (by omega)
  obtain ⟨v2, σ3, j1, j2, j3, j4⟩ := m_num (hi := 9) (by omega) (hT.qq QB) (t_num_ok (hi := 9) (tp := tp) (t_num_ok (hi := 3) (tp := tp) hs)) (i3.dr (c := 12) (j := k) (v := v1) (by omega))
  have QC : m_Q σ (z_put σ3 13 k v2) := (QB.tr j2.qq).dr (by omega) (by omega)
  obtain ⟨v3, σ4, l1, l2, l3, l4⟩ := m_num (hi := 9) (by omega) (hT.qq QC) (t_num_ok (hi := 9) (tp := tp) (t_num_ok (hi := 9) (tp := tp) (t_num_ok (hi := 3) (tp := tp) hs))) (j3.dr (c := 13) (j := k) (v := v2) (by omega))
  have kA : z_put σ1 11 k v0 0 14 = nI k := by rw [z_put_ne (by omega), g2' 14 (by omega), d14]
  have kB : z_put σ2 12 k v1 0 14 = nI k := by rw [z_put_ne (by omega), i2.2 14 (by omega), kA]
  have kC : z_put σ3 13 k v2 0 14 = nI k := by rw [z_put_ne (by omega), j2.2 14 (by omega), kB]
  unfold f_X7_readLineOf
  rw [if_pos (show nI 4 = (4 : Int32) from rfl), g1, z_be]
  dsimp only
  rw [d14, z_gd_nI (by omega) (by omega), zn_cl (by omega), z_bst_eq, show f_X7_readNumber 0 9 (z_put σ1 11 k v0) = _ from i1, z_be]
  dsimp only
  rw [kA, z_gd_nI (by omega) (by omega), zn_cl (by omega), z_bst_eq, show f_X7_readNumber 0 9 (z_put σ2 12 k v1) = _ from j1, z_be]
  dsimp only
  rw [kB, z_gd_nI (by omega) (by omega), zn_cl (by omega), z_bst_eq, show f_X7_readNumber 0 9 (z_put σ3 13 k v2) = _ from l1, z_be]
  dsimp only
  rw [kC, show (16 : Int32) + nI k = nI (16 + k) from zn_add 16 k, z_gd_nI (by omega) (by omega), zn_cl (by omega), z_bst_eq, z_bst_eq]
  have kD : z_put σ4 10 (16 + k) v3 0 14 = nI k := by rw [z_put_ne (by omega), l2.2 14 (by omega), kC]
  rw [kD, nI_1]
  refine ⟨_, rfl, ((QC.tr l2.qq).dr (by omega) (by omega)).ct (by omega), (l3.dr (by omega)).ct (by omega), fun h0 => ?_⟩
  have t3 : (t_num tp ln 9 (t_num tp ln 9 (t_num tp ln 9 (t_num tp ln 3 s)))).1 = 0 := h0
  have t2 := (t_num_0 t3).1
  have t1 := (t_num_0 t2).1
  have t0 := (t_num_0 t1).1
  have e0 : v0 = nI (t_v tp ln [3, 9, 9, 9] s 0) := (g4 t0).1
  have e1 : v1 = nI (t_v tp ln [3, 9, 9, 9] s 1) := i4 t1
  have e2 : v2 = nI (t_v tp ln [3, 9, 9, 9] s 2) := j4 t2
  have e3 : v3 = nI (t_v tp ln [3, 9, 9, 9] s 3) := l4 t3
  have eH : (σ1 0 23).toInt = max H (t_v tp ln [3, 9, 9, 9] s 0) := (g4 t0).2
  obtain ⟨h1, h2, h3, h4, h5, h6, h7, h8⟩ := hD
  generalize t_v tp ln [3, 9, 9, 9] s 0 = u0 at *
  generalize t_v tp ln [3, 9, 9, 9] s 1 = u1 at *
  generalize t_v tp ln [3, 9, 9, 9] s 2 = u2 at *
  generalize t_v tp ln [3, 9, 9, 9] s 3 = u3 at *
  subst e0 e1 e2 e3
  have C0 : ∀ j, j < 26 → j ≠ 14 → z_put (z_put σ4 10 (16 + k) (nI u3)) 0 14 (nI (k + 1)) 0 j = σ1 0 j := fun j hj hj2 => by
    rw [z_put_eq, z_upd_ne hj2, z_put_ne (by omega), l2.2 j (by omega), z_put_ne (by omega), j2.2 j (by omega), z_put_ne (by omega), i2.2 j (by omega), z_put_ne (by omega)]
  refine ⟨?_, ?_, ?_, ?_, ?_, ?_, fun i hi => ?_, fun j hj => ?_⟩
  · rw [C0 13 (by omega) (by omega), g2' 13 (by omega)]; exact h1
  · rw [z_put_eq, z_upd_eq]
  · rw [C0 15 (by omega) (by omega), g2' 15 (by omega)]; exact h3
  · rw [C0 22 (by omega) (by omega), g2' 22 (by omega)]; exact h4
  · rw [C0 23 (by omega) (by omega)]; exact eH
  · rw [z_put_ne (by omega)]
    refine d_row ?_
    rw [l2.1 10 (by omega), z_put_ne (by omega), j2.1 10 (by omega), z_put_ne (by omega), i2.1 10 (by omega), z_put_ne (by omega), g2 10 (by omega)]
    exact h6
  · have r11 : z_put (z_put σ4 10 (16 + k) (nI u3)) 0 14 (nI (k + 1)) 11 = upd (σ 11) k (nI u0) := by
      rw [z_put_ne (by omega), z_put_ne (by omega), l2.1 11 (by omega), z_put_ne (by omega), j2.1 11 (by omega), z_put_ne (by omega), i2.1 11 (by omega), z_put_eq, g2 11 (by omega)]
    have r12 : z_put (z_put σ4 10 (16 + k) (nI u3)) 0 14 (nI (k + 1)) 12 = upd (σ 12) k (nI u1) := by
      rw [z_put_ne (by omega), z_put_ne (by omega), l2.1 12 (by omega), z_put_ne (by omega), j2.1 12 (by omega), z_put_eq, i2.1 12 (by omega), z_put_ne (by omega), g2 12 (by omega)]
    have r13 : z_put (z_put σ4 10 (16 + k) (nI u3)) 0 14 (nI (k + 1)) 13 = upd (σ 13) k (nI u2) := by
      rw [z_put_ne (by omega), z_put_ne (by omega), l2.1 13 (by omega), z_put_eq, j2.1 13 (by omega), z_put_ne (by omega), i2.1 13 (by omega), z_put_ne (by omega), g2 13 (by omega)]
    rw [r11, r12, r13]
    by_cases e : i = k
    · subst e
      rw [z_upd_eq, z_upd_eq, z_upd_eq, z_su_ne (by omega), z_su_ne (by omega), z_su_eq, z_su_ne (by omega), z_su_eq, z_su_eq]
      exact ⟨rfl, rfl, rfl⟩
    · rw [z_upd_ne e, z_upd_ne e, z_upd_ne e, z_su_ne (by omega), z_su_ne (by omega), z_su_ne (by omega), z_su_ne (by omega), z_su_ne (by omega), z_su_ne (by omega), z_su_ne (by omega), z_su_ne (by omega), z_su_ne (by omega)]
      exact h7 i (by omega)
  · have rr : ∀ c, 14 ≤ c → z_put (z_put σ4 10 (16 + k) (nI u3)) 0 14 (nI (k + 1)) c = σ c := fun c hc => by
      rw [z_put_ne (by omega), z_put_ne (by omega), l2.1 c (by omega), z_put_ne (by omega), j2.1 c (by omega), z_put_ne (by omega), i2.1 c (by omega), z_put_ne (by omega), g2 c (by omega)]
    rw [rr 14 (by omega), rr 15 (by omega), rr 16 (by omega), z_su_ne (by omega), z_su_ne (by omega), z_su_ne (by omega), z_su_ne (by omega), z_su_ne (by omega), z_su_ne (by omega), z_su_ne (by omega), z_su_ne (by omega), z_su_ne (by omega)]
    exact h8 j hj
theorem m_asked (hk : q ≤ 5) (hT : m_T σ tp ln) (hs : t_ok ln s) (hZ : m_Z tp ln σ (t_lk tp ln s)) (hD : d_M n k q sy a hI hC H σ) : ∃ σ', f_X7_readLineOf (nI 5) σ = some (0, σ') ∧ m_Q σ σ' ∧ m_Z tp ln σ' (t_lk tp ln (t_nums tp ln [3, 9, 30] s)) ∧ ((t_nums tp ln [3, 9, 30] s).1 = 0 → d_M n k (q + 1) (z_su (z_su (z_su sy 3 q (t_v tp ln [3, 9, 30] s 0)) 4 q (t_v tp ln [3, 9, 30] s 1)) 5 q (t_v tp ln [3, 9, 30] s 2)) a hI hC (max H (t_v tp ln [3, 9, 30] s 0)) σ') := by
  have d15 := hD.2.2.1
  obtain ⟨v0, σ1, g1, g2, g2', g3, g4⟩ := m_rp hT hs hZ hD.2.2.2.2.1
  have QA : m_Q σ (z_put σ1 14 q v0) := (show m_Q σ σ1 from ⟨fun c hc => g2 c (by omega), fun j hj => g2' j (by omega)⟩).dr (by omega) (by omega)
  obtain ⟨v1, σ2, i1, i2, i3, i4⟩ := m_num (hi := 9) (by omega) (hT.qq QA) (t_num_ok (hi := 3) (tp := tp) hs) (g3.dr (c := 14) (j := q) (v := v0) (by omega))
  have QB : m_Q σ (z_put σ2 15 q v1) := (QA.tr i2.qq).dr (by omega) (by omega)
  obtain ⟨v2, σ3, j1, j2, j3, j4⟩ := m_num (hi := 30) (by omega) (hT.qq QB) (t_num_ok (hi := 9) (tp := tp) (t_num_ok (hi := 3) (tp := tp) hs)) (i3.dr (c := 15) (j := q) (v := v1) (by omega))
  have QC : m_Q σ (z_put σ3 16 q v2) := (QB.tr j2.qq).dr (by omega) (by omega)
  have kA : z_put σ1 14 q v0 0 15 = nI q := by rw [z_put_ne (by omega), g2' 15 (by omega), d15]
  have kB : z_put σ2 15 q v1 0 15 = nI q := by rw [z_put_ne (by omega), i2.2 15 (by omega), kA]
  have kC : z_put σ3 16 q v2 0 15 = nI q := by rw [z_put_ne (by omega), j2.2 15 (by omega), kB]
  unfold f_X7_readLineOf
  rw [if_neg (by decide), if_pos (show nI 5 = (5 : Int32) from rfl), g1, z_be]
  dsimp only
  rw [d15, z_gd_nI (by omega) (by omega), zn_cl (by omega), z_bst_eq, show f_X7_readNumber 0 9 (z_put σ1 14 q v0) = _ from i1, z_be]
  dsimp only
  rw [kA, z_gd_nI (by omega) (by omega), zn_cl (by omega), z_bst_eq, show f_X7_readNumber 0 30 (z_put σ2 15 q v1) = _ from j1, z_be]
  dsimp only
  rw [kB, z_gd_nI (by omega) (by omega), zn_cl (by omega), z_bst_eq, z_bst_eq, kC, nI_1]
  refine ⟨_, rfl, QC.ct (by omega), (j3.dr (by omega)).ct (by omega), fun h0 => ?_⟩
  have t2 : (t_num tp ln 30 (t_num tp ln 9 (t_num tp ln 3 s))).1 = 0 := h0
  have t1 := (t_num_0 t2).1
  have t0 := (t_num_0 t1).1
  have e0 : v0 = nI (t_v tp ln [3, 9, 30] s 0) := (g4 t0).1
  have e1 : v1 = nI (t_v tp ln [3, 9, 30] s 1) := i4 t1
  have e2 : v2 = nI (t_v tp ln [3, 9, 30] s 2) := j4 t2
  have eH : (σ1 0 23).toInt = max H (t_v tp ln [3, 9, 30] s 0) := (g4 t0).2
  obtain ⟨h1, h2, h3, h4, h5, h6, h7, h8⟩ := hD
  generalize t_v tp ln [3, 9, 30] s 0 = u0 at *
  generalize t_v tp ln [3, 9, 30] s 1 = u1 at *
  generalize t_v tp ln [3, 9, 30] s 2 = u2 at *
  subst e0 e1 e2
  have C0 : ∀ j, j < 26 → j ≠ 15 → z_put (z_put σ3 16 q (nI u2)) 0 15 (nI (q + 1)) 0 j = σ1 0 j := fun j hj hj2 => by
    rw [z_put_eq, z_upd_ne hj2, z_put_ne (by omega), j2.2 j (by omega), z_put_ne (by omega), i2.2 j (by omega), z_put_ne (by omega)]
  have rr : ∀ c, c ≠ 0 → c < 14 → z_put (z_put σ3 16 q (nI u2)) 0 15 (nI (q + 1)) c = σ c := fun c hc hc2 => by
    rw [z_put_ne (by omega), z_put_ne (by omega), j2.1 c (by omega), z_put_ne (by omega), i2.1 c (by omega), z_put_ne (by omega), g2 c (by omega)]
  refine ⟨?_, ?_, ?_, ?_, ?_, ?_, fun i hi => ?_, fun j hj => ?_⟩
  · rw [C0 13 (by omega) (by omega), g2' 13 (by omega)]; exact h1
  · rw [C0 14 (by omega) (by omega), g2' 14 (by omega)]; exact h2
  · rw [z_put_eq, z_upd_eq]
  · rw [C0 22 (by omega) (by omega), g2' 22 (by omega)]; exact h4
  · rw [C0 23 (by omega) (by omega)]; exact eH
  · rw [rr 10 (by omega) (by omega)]; exact h6
  · rw [rr 11 (by omega) (by omega), rr 12 (by omega) (by omega), rr 13 (by omega) (by omega), z_su_ne (by omega), z_su_ne (by omega), z_su_ne (by omega), z_su_ne (by omega), z_su_ne (by omega), z_su_ne (by omega), z_su_ne (by omega), z_su_ne (by omega), z_su_ne (by omega)]
    exact h7 i hi
  · have r11 : z_put (z_put σ3 16 q (nI u2)) 0 15 (nI (q + 1)) 14 = upd (σ 14) q (nI u0) := by
      rw [z_put_ne (by omega), z_put_ne (by omega), j2.1 14 (by omega), z_put_ne (by omega), i2.1 14 (by omega), z_put_eq, g2 14 (by omega)]
    have r12 : z_put (z_put σ3 16 q (nI u2)) 0 15 (nI (q + 1)) 15 = upd (σ 15) q (nI u1) := by
      rw [z_put_ne (by omega), z_put_ne (by omega), j2.1 15 (by omega), z_put_eq, i2.1 15 (by omega), z_put_ne (by omega), g2 15 (by omega)]
    have r13 : z_put (z_put σ3 16 q (nI u2)) 0 15 (nI (q + 1)) 16 = upd (σ 16) q (nI u2) := by
      rw [z_put_ne (by omega), z_put_eq, j2.1 16 (by omega), z_put_ne (by omega), i2.1 16 (by omega), z_put_ne (by omega), g2 16 (by omega)]
    rw [r11, r12, r13]
    by_cases e : j = q
    · subst e
      rw [z_upd_eq, z_upd_eq, z_upd_eq, z_su_ne (by omega), z_su_ne (by omega), z_su_eq, z_su_ne (by omega), z_su_eq, z_su_eq]
      exact ⟨rfl, rfl, rfl⟩
    · rw [z_upd_ne e, z_upd_ne e, z_upd_ne e, z_su_ne (by omega), z_su_ne (by omega), z_su_ne (by omega), z_su_ne (by omega), z_su_ne (by omega), z_su_ne (by omega), z_su_ne (by omega), z_su_ne (by omega), z_su_ne (by omega)]
      exact h8 j (by omega)
/-- next, the line's numbers, the semicolon -/
theorem m_164 {w p : Nat} {hs : List Nat} (P : z_St → Prop) (hP : ∀ τ τ', m_N τ τ' → P τ → P τ') (hT : m_T σ tp ln) (hp : p ≤ ln) (h26 : σ 0 26 = nI p) (h30 : σ 0 30 = 0) (hof : ∀ τ, m_N σ τ → m_T τ tp ln → m_Z tp ln τ (t_lk tp ln (0, 0, p)) → ∃ τ', f_X7_readLineOf (nI w) τ = some (0, τ') ∧ m_Q τ τ' ∧ m_Z tp ln τ' (t_lk tp ln (t_nums tp ln hs (0, 0, p))) ∧ ((t_nums tp ln hs (0, 0, p)).1 = 0 → P τ')) (hok : t_ok ln (t_nums tp ln hs (0, 0, p))) : ∃ σ', f_X7_readLine_164 (nI w) σ = some (0, σ') ∧ m_Q σ σ' ∧ m_Z tp ln σ' (t_lk tp ln (t_semi tp ln (t_nums tp ln hs (0, 0, p)))) ∧ ((t_semi tp ln (t_nums tp ln hs (0, 0, p))).1 = 0 → P σ') := by
  obtain ⟨σ1, g1, g2, g3⟩ := m_next hT hp h26 h30
  unfold f_X7_readLine_164
  rw [g1, z_be]
  dsimp only
  by_cases c : (t_lk tp ln (0, 0, p)).1 = 0
  · rw [if_pos (show σ1 0 30 ≤ 0 by rw [g3.2.1, c]; decide)]
    obtain ⟨τ', i1, i2, i3, i4⟩ := hof σ1 g2 (hT.fr g2) g3
    rw [i1, z_be]
    dsimp only
    obtain ⟨σ2, j1, j2, j3⟩ := m_semi (hT.qq (g2.qq.tr i2)) hok i3
    rw [j1]
    exact ⟨σ2, rfl, (g2.qq.tr i2).tr j2.qq, j3, fun h => hP _ _ j2 (i4 (t_semi_0 h).1)⟩
  · rw [if_neg (show ¬ σ1 0 30 ≤ 0 by rw [g3.2.1]; exact nI_ge (a := 0) (by omega) (by have := g3.1; omega))]
    have e1 := t_lk_nums hs (0, 0, p) c
    have e2 := t_lk_semi (s := t_nums tp ln hs (0, 0, p)) (by rw [e1]; exact c)
    refine ⟨σ1, rfl, g2.qq, by rw [e2, e1]; exact g3, fun h => ?_⟩
    have h1 := (t_semi_0 h)
    refine absurd ?_ c
    have h2 : t_lk tp ln (t_nums tp ln hs (0, 0, p)) = t_nums tp ln hs (0, 0, p) := by unfold t_lk; rw [if_pos h1.1, if_neg (by omega)]
    rw [← e1, h2]; exact h1.1
/-! the word's own fault -/
def d_fw (n k q hI hC w : Nat) : Nat := if w = 4 then (if k < 6 then 0 else 5) else if w = 5 then (if q < 6 then 0 else 5) else if w = 6 then (if hI = 0 then 0 else 4) else if w = 7 then (if hC = 0 then 0 else 4) else (if n < 4 then 0 else 5)
theorem x_fw {w : Nat} (hw : w < 8) (dV : d_V n k q sy a hI hC H) (dX : d_X n k q sy a hI hC σ) : f_X3_faultOfWord (nI w) σ = some (nI (d_fw n k q hI hC w), σ) := by
  obtain ⟨v1, v2, v3, v4, v5, -⟩ := dV
  obtain ⟨x1, x2, -, x4, x5⟩ := dX
  unfold f_X3_faultOfWord d_fw
  rw [x1.1, x1.2.1, x4, x5, x2.1]
  by_cases c4 : w = 4
  · subst c4
    rw [if_pos (show nI 4 = (4 : Int32) from rfl), if_pos rfl]
    by_cases c : k < 6
    · rw [if_pos (show nI k < (6 : Int32) from nI_lt (b := 6) (by omega) (by omega)), if_pos c]; rfl
    · rw [if_neg (show ¬ nI k < (6 : Int32) from nI_nlt (b := 6) (by omega) (by omega)), if_neg c]; rfl
  rw [if_neg (show ¬ nI w = (4 : Int32) from nI_n4 (c := 4) (by omega) (by omega) c4), if_neg c4]
  by_cases c5 : w = 5
  · subst c5
    rw [if_pos (show nI 5 = (5 : Int32) from rfl), if_pos rfl]
    by_cases c : q < 6
    · rw [if_pos (show nI q < (6 : Int32) from nI_lt (b := 6) (by omega) (by omega)), if_pos c]; rfl
    · rw [if_neg (show ¬ nI q < (6 : Int32) from nI_nlt (b := 6) (by omega) (by omega)), if_neg c]; rfl
  rw [if_neg (show ¬ nI w = (5 : Int32) from nI_n4 (c := 5) (by omega) (by omega) c5), if_neg c5]
  by_cases c6 : w = 6
  · subst c6
    rw [if_pos (show nI 6 = (6 : Int32) from rfl), if_pos rfl]
    by_cases c : hI = 0
    · rw [if_pos (show nI hI = (0 : Int32) by rw [c]; rfl), if_pos c]; rfl
    · rw [if_neg (show ¬ nI hI = (0 : Int32) from nI_ne0 (by omega) (by omega)), if_neg c]; rfl
  rw [if_neg (show ¬ nI w = (6 : Int32) from nI_n4 (c := 6) (by omega) (by omega) c6), if_neg c6]
  by_cases c7 : w = 7
  · subst c7
    rw [if_pos (show nI 7 = (7 : Int32) from rfl), if_pos rfl]
    by_cases c : hC = 0
    · rw [if_pos (show nI hC = (0 : Int32) by rw [c]; rfl), if_pos c]; rfl
    · rw [if_neg (show ¬ nI hC = (0 : Int32) from nI_ne0 (by omega) (by omega)), if_neg c]; rfl
  rw [if_neg (show ¬ nI w = (7 : Int32) from nI_n4 (c := 7) (by omega) (by omega) c7), if_neg c7]
  by_cases c : n < 4
  · rw [if_pos (show nI n < (4 : Int32) from nI_lt (b := 4) (by omega) (by omega)), if_pos c]; rfl
  · rw [if_neg (show ¬ nI n < (4 : Int32) from nI_nlt (b := 4) (by omega) (by omega)), if_neg c]; rfl
/-- a refused word, in the reference -/
theorem m_ref {x1 : Int32} {f p : Nat} (hf : f ≠ 0) (hf6 : f ≤ 6) (h27 : σ 0 27 = nI p) : f_X7_readLine_164 x1 (z_put (z_put σ 0 30 (nI f)) 0 31 (σ 0 27)) = some (0, z_put (z_put σ 0 30 (nI f)) 0 31 (σ 0 27)) := by
  have e30 : z_put (z_put σ 0 30 (nI f)) 0 31 (σ 0 27) 0 30 = nI f := by rw [z_put_eq, z_upd_ne (by omega), z_put_eq, z_upd_eq]
  unfold f_X7_readLine_164
  rw [m_next0 e30 hf hf6, z_be]
  dsimp only
  rw [if_neg (show ¬ z_put (z_put σ 0 30 (nI f)) 0 31 (σ 0 27) 0 30 ≤ 0 by rw [e30]; exact nI_ge (a := 0) (by omega) (by omega))]
theorem m_refZ {f a p : Nat} (hf : f ≠ 0) (hf6 : f ≤ 6) (h27 : σ 0 27 = nI a) : m_Z tp ln (z_put (z_put σ 0 30 (nI f)) 0 31 (σ 0 27)) (f, a, p) := by
  refine ⟨hf6, ?_, fun _ => ?_, fun h => absurd h hf⟩
  · rw [z_put_eq, z_upd_ne (by omega), z_put_eq, z_upd_eq]
  · rw [z_put_eq, z_upd_eq, h27]
/-- a word that is refused for its number -/
theorem m_too {w f : Nat} (hw : w < 6) (h30 : σ 0 30 = 0) (c : Prop) [Decidable c] : f_X7_readLine_87 (nI w) (if c then 1 else 0) σ = if c then f_X7_readLine_164 (nI w) (z_put (z_put σ 0 30 5) 0 31 (σ 0 27)) else f_X7_readLine_164 (nI w) σ := by
  unfold f_X7_readLine_87 f_X7_readLine_100
  rw [if_neg (show ¬ nI w = -4 from fun e => by have := congrArg Int32.toInt e; rw [nI_toInt (by omega), show (-4 : Int32).toInt = -4 from rfl] at this; omega), m_needs1, z_be]
  dsimp only
  unfold f_X7_readLine_114
  by_cases hc : c
  · rw [if_pos hc, if_pos hc, z_f1, m_needs0 5 h30, z_be]
    dsimp only
    rw [if_neg (show ¬ z_put (z_put σ 0 30 5) 0 31 (σ 0 27) 0 30 = 0 by rw [z_put_eq, z_upd_ne (by omega), z_put_eq, z_upd_eq]; decide)]
  · rw [if_neg hc, if_neg hc, if_pos rfl, m_needs1, z_be]
    dsimp only
    rw [if_pos h30, if_pos (show nI w < (6 : Int32) from nI_lt (b := 6) (by omega) (by omega))]
theorem zb_7 : ∀ i, i < 2 → ∀ c, c < 2 → (nI (64 * i + 128 * c) >>> (nI 6 &&& 31)) &&& 1 = nI i ∧ (nI (64 * i + 128 * c) >>> (nI 7 &&& 31)) &&& 1 = nI c ∧ nI (64 * i + 128 * c) ||| ((1 : Int32) <<< (nI 6 &&& 31)) = nI (64 * 1 + 128 * c) ∧ nI (64 * i + 128 * c) ||| ((1 : Int32) <<< (nI 7 &&& 31)) = nI (64 * i + 128 * 1) := by decide +kernel
theorem m_twice {w u : Nat} (hw : w = 6 ∨ w = 7) (hu : u ≤ 1) (h30 : σ 0 30 = 0) (hb : (σ 0 22 >>> (nI w &&& 31)) &&& 1 = nI u) : f_X7_readLine_87 (nI w) 0 σ = if u = 0 then f_X7_readLine_164 (nI w) (z_put σ 0 22 (σ 0 22 ||| ((1 : Int32) <<< (nI w &&& 31)))) else f_X7_readLine_164 (nI w) (z_put (z_put (z_put σ 0 30 4) 0 31 (σ 0 27)) 0 22 (σ 0 22 ||| ((1 : Int32) <<< (nI w &&& 31)))) := by
  unfold f_X7_readLine_87 f_X7_readLine_100
  rw [if_neg (show ¬ nI w = -4 from fun e => by have := congrArg Int32.toInt e; rw [nI_toInt (by omega), show (-4 : Int32).toInt = -4 from rfl] at this; omega), m_needs1, z_be]
  dsimp only
  unfold f_X7_readLine_114
  rw [if_pos rfl, m_needs1, z_be]
  dsimp only
  rw [if_pos h30, if_neg (show ¬ nI w < (6 : Int32) from nI_nlt (b := 6) (by omega) (by omega))]
  unfold f_X7_readLine_148
  by_cases c : u = 0
  · rw [if_pos (show (σ 0 22 >>> (nI w &&& 31)) &&& 1 = 0 by rw [hb, c]; rfl), if_pos c, m_needs1, z_be]
    dsimp only
    rw [z_bst_eq]
  · rw [if_neg (show ¬ (σ 0 22 >>> (nI w &&& 31)) &&& 1 = 0 by rw [hb]; exact nI_ne0 (by omega) (by omega)), if_neg c, m_needs0 4 h30, z_be]
    dsimp only
    rw [z_bst_eq, show z_put (z_put σ 0 30 4) 0 31 (σ 0 27) 0 22 = σ 0 22 by rw [z_put_eq, z_upd_ne (by omega), z_put_eq, z_upd_ne (by omega)]]
theorem m_fw {w p : Nat} (hw : w < 8) (dV : d_V n k q sy a hI hC H) (dM : d_M n k q sy a hI hC H σ) (hZ : m_Z tp ln σ (0, 0, p)) : (d_fw n k q hI hC w ≠ 0 → ∃ σ', f_X7_readLine_17 (nI w) σ = some (0, σ') ∧ m_Q σ σ' ∧ m_Z tp ln σ' (d_fw n k q hI hC w, t_st tp ln p, p)) ∧ (d_fw n k q hI hC w = 0 → ∃ σ', f_X7_readLine_17 (nI w) σ = f_X7_readLine_164 (nI w) σ' ∧ m_Q σ σ' ∧ (∀ j, 24 ≤ j → σ' 0 j = σ 0 j) ∧ d_M n k q sy a (if w = 6 then 1 else hI) (if w = 7 then 1 else hC) H σ') := by
  obtain ⟨v1, v2, v3, v4, v5, -⟩ := dV
  have h30 : σ 0 30 = 0 := hZ.2.1
  have h27 : σ 0 27 = nI (t_st tp ln p) := (hZ.2.2.2 rfl).2.2.1
  have Q0 : ∀ x y : Int32, m_Q σ (z_put (z_put σ 0 30 x) 0 31 y) := fun x y => ((m_N.rf.put (by omega) (by omega)).put (by omega) (by omega)).qq
  have few : ∀ (c : Prop) [Decidable c], w < 6 → f_X7_readLine_17 (nI w) σ = f_X7_readLine_87 (nI w) (if c then 1 else 0) σ → (¬ c → d_fw n k q hI hC w = 0) → (c → d_fw n k q hI hC w = 5) → (d_fw n k q hI hC w ≠ 0 → ∃ σ', f_X7_readLine_17 (nI w) σ = some (0, σ') ∧ m_Q σ σ' ∧ m_Z tp ln σ' (d_fw n k q hI hC w, t_st tp ln p, p)) ∧ (d_fw n k q hI hC w = 0 → ∃ σ', f_X7_readLine_17 (nI w) σ = f_X7_readLine_164 (nI w) σ' ∧ m_Q σ σ' ∧ (∀ j, 24 ≤ j → σ' 0 j = σ 0 j) ∧ d_M n k q sy a (if w = 6 then 1 else hI) (if w = 7 then 1 else hC) H σ') := by
    intro c _ hw6 e h1 h2
    rw [e, m_too (f := 0) hw6 h30 c]
    by_cases hc : c
    · rw [h2 hc, if_pos hc]
      refine ⟨fun _ => ⟨_, m_ref (f := 5) (by omega) (by omega) h27, Q0 _ _, m_refZ (f := 5) (by omega) (by omega) h27⟩, fun h => absurd h (by omega)⟩
    · rw [h1 hc, if_neg hc]
      refine ⟨fun h => absurd rfl h, fun _ => ⟨σ, rfl, m_Q.rf, fun _ _ => rfl, ?_⟩⟩
      rw [if_neg (by omega), if_neg (by omega)]; exact dM
  by_cases c4 : w = 4
  · subst c4
    refine few (k = 6) (by omega) ?_ (fun h => ?_) (fun h => ?_)
    · unfold f_X7_readLine_17
      rw [if_pos (show nI 4 = (4 : Int32) from rfl), dM.2.1]
      by_cases c : k = 6
      · rw [if_pos (show nI k = (6 : Int32) by rw [c]; rfl), if_pos c]
      · rw [if_neg (show ¬ nI k = (6 : Int32) from nI_n4 (c := 6) (by omega) (by omega) c), if_neg c]
    · unfold d_fw; rw [if_pos rfl, if_pos (by omega)]
    · unfold d_fw; rw [if_pos rfl, if_neg (by omega)]
  by_cases c5 : w = 5
  · subst c5
    refine few (q = 6) (by omega) ?_ (fun h => ?_) (fun h => ?_)
    · unfold f_X7_readLine_17
      rw [if_neg (by decide), if_pos (show nI 5 = (5 : Int32) from rfl), dM.2.2.1]
      by_cases c : q = 6
      · rw [if_pos (show nI q = (6 : Int32) by rw [c]; rfl), if_pos c]
      · rw [if_neg (show ¬ nI q = (6 : Int32) from nI_n4 (c := 6) (by omega) (by omega) c), if_neg c]
    · unfold d_fw; rw [if_neg (by omega), if_pos rfl, if_pos (by omega)]
    · unfold d_fw; rw [if_neg (by omega), if_pos rfl, if_neg (by omega)]
  by_cases c67 : w < 6
  · refine few (n = 4) (by omega) ?_ (fun h => ?_) (fun h => ?_)
    · unfold f_X7_readLine_17
      rw [if_neg (show ¬ nI w = (4 : Int32) from nI_n4 (c := 4) (by omega) (by omega) c4), if_neg (show ¬ nI w = (5 : Int32) from nI_n4 (c := 5) (by omega) (by omega) c5), m_lit_in (m := 3) (by omega) (by omega) (by decide), z_be]
      dsimp only
      rw [z_f1]
      by_cases c : n = 4
      · rw [if_pos (show σ 0 13 = (4 : Int32) by rw [dM.1, c]; rfl), if_pos c]
      · rw [if_neg (show ¬ σ 0 13 = (4 : Int32) by rw [dM.1]; exact nI_n4 (c := 4) (by omega) (by omega) c), if_neg c]
    · unfold d_fw; rw [if_neg (by omega), if_neg (by omega), if_neg (by omega), if_neg (by omega), if_pos (by omega)]
    · unfold d_fw; rw [if_neg (by omega), if_neg (by omega), if_neg (by omega), if_neg (by omega), if_neg (by omega)]
  -- interest, cover
  have hw67 : w = 6 ∨ w = 7 := by omega
  have e17 : f_X7_readLine_17 (nI w) σ = f_X7_readLine_87 (nI w) 0 σ := by
    unfold f_X7_readLine_17
    rw [if_neg (show ¬ nI w = (4 : Int32) from nI_n4 (c := 4) (by omega) (by omega) c4), if_neg (show ¬ nI w = (5 : Int32) from nI_n4 (c := 5) (by omega) (by omega) c5), m_lit_out (m := 3) (by omega) (by decide) (Or.inr (nI_le (by omega) (by omega))), z_be]
    dsimp only
    rw [if_pos rfl]
  obtain ⟨b6, b7, s6, s7⟩ := zb_7 hI (by omega) hC (by omega)
  have rest : ∀ u : Nat, u ≤ 1 → (σ 0 22 >>> (nI w &&& 31)) &&& 1 = nI u → (u = 0 → d_fw n k q hI hC w = 0) → (u ≠ 0 → d_fw n k q hI hC w = 4) → (σ 0 22 ||| ((1 : Int32) <<< (nI w &&& 31))) = nI (64 * (if w = 6 then 1 else hI) + 128 * (if w = 7 then 1 else hC)) → (d_fw n k q hI hC w ≠ 0 → ∃ σ', f_X7_readLine_17 (nI w) σ = some (0, σ') ∧ m_Q σ σ' ∧ m_Z tp ln σ' (d_fw n k q hI hC w, t_st tp ln p, p)) ∧ (d_fw n k q hI hC w = 0 → ∃ σ', f_X7_readLine_17 (nI w) σ = f_X7_readLine_164 (nI w) σ' ∧ m_Q σ σ' ∧ (∀ j, 24 ≤ j → σ' 0 j = σ 0 j) ∧ d_M n k q sy a (if w = 6 then 1 else hI) (if w = 7 then 1 else hC) H σ') := by
    intro u hu hb h1 h2 hs
    rw [e17, m_twice hw67 hu h30 hb]
    by_cases hc : u = 0
    · rw [h1 hc, if_pos hc]
      refine ⟨fun h => absurd rfl h, fun _ => ⟨_, rfl, m_Q.rf.ct (by omega), fun j hj => by rw [z_put_eq, z_upd_ne (by omega)], ?_⟩⟩
      obtain ⟨g1, g2, g3, g4, g5, g6, g7, g8⟩ := dM
      refine ⟨?_, ?_, ?_, ?_, ?_, ?_, ?_, ?_⟩
      · rw [z_put_eq, z_upd_ne (by omega)]; exact g1
      · rw [z_put_eq, z_upd_ne (by omega)]; exact g2
      · rw [z_put_eq, z_upd_ne (by omega)]; exact g3
      · rw [z_put_eq, z_upd_eq, hs]
      · rw [z_put_eq, z_upd_ne (by omega)]; exact g5
      · rw [z_put_ne (by omega)]; exact g6
      · rw [z_put_ne (by omega), z_put_ne (by omega), z_put_ne (by omega)]; exact g7
      · rw [z_put_ne (by omega), z_put_ne (by omega), z_put_ne (by omega)]; exact g8
    · rw [h2 hc, if_neg hc]
      have hz : m_Z tp ln (z_put (z_put (z_put σ 0 30 4) 0 31 (σ 0 27)) 0 22 (σ 0 22 ||| ((1 : Int32) <<< (nI w &&& 31)))) (4, t_st tp ln p, p) := (m_refZ (f := 4) (by omega) (by omega) h27).ct (by omega)
      refine ⟨fun _ => ⟨_, ?_, (Q0 _ _).ct (by omega), hz⟩, fun h => absurd h (by omega)⟩
      unfold f_X7_readLine_164
      have e30 : z_put (z_put (z_put σ 0 30 4) 0 31 (σ 0 27)) 0 22 (σ 0 22 ||| ((1 : Int32) <<< (nI w &&& 31))) 0 30 = nI 4 := hz.2.1
      rw [m_next0 e30 (show (4 : Nat) ≠ 0 by omega) (show (4 : Nat) ≤ 6 by omega), z_be]
      dsimp only
      rw [if_neg (by rw [e30]; decide)]
  rcases hw67 with rfl | rfl
  · refine rest hI v4 (by rw [dM.2.2.2.1]; exact b6) (fun h => ?_) (fun h => ?_) (by rw [dM.2.2.2.1]; exact s6)
    · unfold d_fw; rw [if_neg (by omega), if_neg (by omega), if_pos rfl, if_pos h]
    · unfold d_fw; rw [if_neg (by omega), if_neg (by omega), if_pos rfl, if_neg h]
  · refine rest hC v5 (by rw [dM.2.2.2.1]; exact b7) (fun h => ?_) (fun h => ?_) (by rw [dM.2.2.2.1]; exact s7)
    · unfold d_fw; rw [if_neg (by omega), if_neg (by omega), if_neg (by omega), if_pos rfl, if_pos h]
    · unfold d_fw; rw [if_neg (by omega), if_neg (by omega), if_neg (by omega), if_pos rfl, if_neg h]
end LI
