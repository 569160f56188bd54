/-! ===== copies, sums ===== -/
section BA
variable {σ : z_St} {b o n k q B : Nat} {a : Nat → Nat} {s : z_Sy}
theorem zc_in {f g : Nat → Int32} {m j : Nat} (h : j < m) : va_cpy f g 0 0 m j = f j := sb_cpy0 h
/-- Ledger.copyFrom -/
theorem x_copy (hL : x_L σ o n k a) (hn : n ≤ 4) (hk : k ≤ 6) (hd : b + 6 ≤ o ∨ o + 6 ≤ b) : ∃ σ', f_X1_copyFrom b o σ = some (0, σ') ∧ x_L σ' b n k a ∧ x_F σ σ' b := by
  unfold f_X1_copyFrom
  simp only [z_bst_eq]
  refine ⟨_, rfl, ?_, ?_⟩
  · obtain ⟨h1, h2, h3, h4, h5, h6, h7⟩ := hL
    refine ⟨?_, fun p hp => ?_, fun i hi => ?_, ?_, ?_, ?_, ?_⟩
    · simp (disch := omega) only [z_put_eq, z_put_ne, z_row_ne, z_upd_eq, z_upd_ne]; exact h1
    · obtain ⟨g1, g2, g3, g4⟩ := h2 p hp
      simp (disch := omega) only [z_put_eq, z_put_ne, z_row_ne, z_row_eq, z_upd_eq, z_upd_ne, zc_in]
      exact ⟨g1, g2, g3, g4⟩
    · simp (disch := omega) only [z_put_eq, z_put_ne, z_row_ne, z_row_eq, z_upd_eq, z_upd_ne, zc_in]; exact h3 i hi
    · simp (disch := omega) only [z_put_eq, z_put_ne, z_row_ne, z_upd_eq, z_upd_ne]; exact h4
    · simp (disch := omega) only [z_put_eq, z_put_ne, z_row_ne, z_upd_eq, z_upd_ne]; exact h5
    · simp (disch := omega) only [z_put_eq, z_put_ne, z_row_ne, z_upd_eq, z_upd_ne]; exact h6
    · simp (disch := omega) only [z_put_eq, z_put_ne, z_row_ne, z_upd_eq, z_upd_ne]; exact h7
  · intro c hc
    simp (disch := omega) only [z_put_ne, z_row_ne]
/-- Notes.copyFrom -/
theorem x_ncopy (hN : x_N σ o a) (h6 : a 26 ≤ 6) (hd : b + 4 ≤ o ∨ o + 4 ≤ b) : ∃ σ', f_X2_copyFrom b o σ = some (0, σ') ∧ x_N σ' b a ∧ (∀ c, (c < b ∨ b + 4 ≤ c) → σ' c = σ c) := by
  unfold f_X2_copyFrom
  simp only [z_bst_eq]
  refine ⟨_, rfl, ⟨?_, fun j hj => ?_⟩, ?_⟩
  · simp (disch := omega) only [z_put_eq, z_row_ne, z_upd_eq]; exact hN.1
  · obtain ⟨g1, g2, g3⟩ := hN.2 j hj
    simp (disch := omega) only [z_put_ne, z_row_ne, z_row_eq, zc_in]
    exact ⟨g1, g2, g3⟩
  · intro c hc
    simp (disch := omega) only [z_put_ne, z_row_ne]
theorem m_st_loop (hs : ∀ j, j < 45 → σ 1 j = nI (a j)) : ∀ (m i F : Nat) (σ' : z_St), 45 = i + m → m < F → m_F σ σ' → σ' 0 32 = σ 0 32 → (∀ j, j < i → σ' 2 j = nI (a j)) → ∃ σ'', f_X7_starts_2 F (nI i) σ' = some (0, σ'') ∧ m_A σ'' a ∧ m_F σ σ'' ∧ σ'' 0 32 = σ 0 32 := by
  intro m
  induction m with
  | zero =>
    intro i F σ' hm hF hf h32 hj
    obtain ⟨F, rfl⟩ : ∃ F', F = F' + 1 := ⟨F - 1, by omega⟩
    refine ⟨σ', ?_, fun j h => hj j (by omega), hf, h32⟩
    rw [f_X7_starts_2, if_pos (by simp (disch := omega) only [zn_lit, zn_le]; omega)]
  | succ m ih =>
    intro i F σ' hm hF hf h32 hj
    obtain ⟨F, rfl⟩ : ∃ F', F = F' + 1 := ⟨F - 1, by omega⟩
    rw [f_X7_starts_2]
    simp (disch := omega) only [zn_lit, zn_le, zn_add, z_gd_nI, zn_cl, z_bst_eq]
    rw [if_neg (by omega), hf.1 1 (by omega) (by omega), hs i (by omega)]
    refine ih (i + 1) F _ (by omega) (by omega) (hf.put _ _) (by rw [z_put_ne (by omega)]; exact h32) (fun j h => ?_)
    rw [z_put_eq]
    by_cases e : j = i
    · subst e; rw [z_upd_eq]
    · rw [z_upd_ne e]; exact hj j (by omega)
theorem m_starts (hs : ∀ j, j < 45 → σ 1 j = nI (a j)) : ∃ σ', f_X7_starts σ = some (0, σ') ∧ m_A σ' a ∧ m_F σ σ' ∧ σ' 0 32 = σ 0 32 := m_st_loop hs 45 0 200 σ (by omega) (by omega) m_F.rf rfl (fun j h => absurd h (by omega))
/-- only the row st has changed -/
def m_G (σ σ' : z_St) : Prop := ∀ c, c ≠ 1 → σ' c = σ c
theorem m_se_loop (hA : m_A σ a) : ∀ (m i F : Nat) (σ' : z_St), 45 = i + m → m < F → m_G σ σ' → (∀ j, j < i → σ' 1 j = nI (a j)) → (∀ j, i ≤ j → σ' 1 j = σ 1 j) → ∃ σ'', f_X7_settles_2 F (nI i) σ' = some (0, σ'') ∧ m_G σ σ'' ∧ (∀ j, j < 45 → σ'' 1 j = nI (a j)) ∧ (∀ j, 45 ≤ j → σ'' 1 j = σ 1 j) := by
  intro m
  induction m with
  | zero =>
    intro i F σ' hm hF hg h1 h2
    obtain ⟨F, rfl⟩ : ∃ F', F = F' + 1 := ⟨F - 1, by omega⟩
    refine ⟨σ', ?_, hg, fun j h => h1 j (by omega), fun j h => h2 j (by omega)⟩
    rw [f_X7_settles_2, if_pos (by simp (disch := omega) only [zn_lit, zn_le]; omega)]
  | succ m ih =>
    intro i F σ' hm hF hg h1 h2
    obtain ⟨F, rfl⟩ : ∃ F', F = F' + 1 := ⟨F - 1, by omega⟩
    rw [f_X7_settles_2]
    simp (disch := omega) only [zn_lit, zn_le, zn_add, z_gd_nI, zn_cl, z_bst_eq]
    rw [if_neg (by omega), hg 2 (by omega), hA i (by omega)]
    refine ih (i + 1) F _ (by omega) (by omega) (fun c hc => by rw [z_put_ne hc]; exact hg c hc) (fun j h => ?_) (fun j h => ?_)
    · rw [z_put_eq]
      by_cases e : j = i
      · subst e; rw [z_upd_eq]
      · rw [z_upd_ne e]; exact h1 j (by omega)
    · rw [z_put_eq, z_upd_ne (by omega)]; exact h2 j (by omega)
theorem m_settles (hA : m_A σ a) : ∃ σ', f_X7_settles σ = some (0, σ') ∧ m_G σ σ' ∧ (∀ j, j < 45 → σ' 1 j = nI (a j)) ∧ (∀ j, 45 ≤ j → σ' 1 j = σ 1 j) := m_se_loop hA 45 0 200 σ (by omega) (by omega) (fun _ _ => rfl) (fun j h => absurd h (by omega)) (fun _ _ => rfl)
/-- copies(to, from), of rows apart -/
theorem m_co_loop {st : Nat → Nat} {to fr : Nat} (hs : ∀ j, j < 135 → σ 1 j = nI (st j)) (ht : to + 45 ≤ 135) (hf : fr + 45 ≤ 135) (hd : to + 45 ≤ fr ∨ fr + 45 ≤ to) : ∀ (m i F : Nat) (σ' : z_St), 45 = i + m → m < F → m_G σ σ' → (∀ j, j < i → σ' 1 (to + j) = nI (st (fr + j))) → (∀ j, (j < to ∨ to + i ≤ j) → σ' 1 j = σ 1 j) → ∃ σ'', f_X7_copies_2 F (nI to) (nI fr) (nI i) σ' = some (0, σ'') ∧ m_G σ σ'' ∧ (∀ j, j < 45 → σ'' 1 (to + j) = nI (st (fr + j))) ∧ (∀ j, (j < to ∨ to + 45 ≤ j) → σ'' 1 j = σ 1 j) := by
  intro m
  induction m with
  | zero =>
    intro i F σ' hm hF hg h1 h2
    obtain ⟨F, rfl⟩ : ∃ F', F = F' + 1 := ⟨F - 1, by omega⟩
    refine ⟨σ', ?_, hg, fun j h => h1 j (by omega), fun j h => h2 j (by omega)⟩
    rw [f_X7_copies_2, if_pos (by simp (disch := omega) only [zn_lit, zn_le]; omega)]
  | succ m ih =>
    intro i F σ' hm hF hg h1 h2
    obtain ⟨F, rfl⟩ : ∃ F', F = F' + 1 := ⟨F - 1, by omega⟩
    rw [f_X7_copies_2]
    simp (disch := omega) only [zn_lit, zn_le, zn_add, z_gd_nI, zn_cl, z_bst_eq]
    rw [if_neg (by omega), h2 (fr + i) (by omega), hs (fr + i) (by omega)]
    refine ih (i + 1) F _ (by omega) (by omega) (fun c hc => by rw [z_put_ne hc]; exact hg c hc) (fun j h => ?_) (fun j h => ?_)
    · rw [z_put_eq]
      by_cases e : j = i
      · subst e; rw [z_upd_eq]
      · rw [z_upd_ne (by omega)]; exact h1 j (by omega)
    · rw [z_put_eq, z_upd_ne (by omega)]; exact h2 j (by omega)
theorem m_copies {st : Nat → Nat} {to fr : Nat} (hs : ∀ j, j < 135 → σ 1 j = nI (st j)) (ht : to + 45 ≤ 135) (hf : fr + 45 ≤ 135) (hd : to + 45 ≤ fr ∨ fr + 45 ≤ to) : ∃ σ', f_X7_copies (nI to) (nI fr) σ = some (0, σ') ∧ m_G σ σ' ∧ (∀ j, j < 45 → σ' 1 (to + j) = nI (st (fr + j))) ∧ (∀ j, (j < to ∨ to + 45 ≤ j) → σ' 1 j = σ 1 j) := m_co_loop hs ht hf hd 45 0 200 σ (by omega) (by omega) (fun _ _ => rfl) (fun j h => absurd h (by omega)) (fun _ _ => rfl)
/-! sums over the people: w = 1 in hand, 2 at the bank -/
def w_sm (a : Nat → Nat) (w : Nat) : Nat → Nat
  | 0 => 0
  | p + 1 => w_sm a w p + a (4 * p + w)
theorem m_all_loop (hA : m_A σ a) (hN : σ 0 3 = nI n) (hn : n ≤ 4) {w : Nat} (hw : w ≤ 3) : ∀ (m p F : Nat), n = p + m → m < F → f_X7_allOf_4 F (nI w) (nI (w_sm a w p)) (nI p) σ = some (nI (w_sm a w n), σ) := by
  intro m
  induction m with
  | zero =>
    intro p F hm hF
    obtain ⟨F, rfl⟩ : ∃ F', F = F' + 1 := ⟨F - 1, by omega⟩
    have e : p = n := by omega
    subst e
    rw [f_X7_allOf_4, hN, if_pos (by simp (disch := omega) only [zn_le]; omega)]
  | succ m ih =>
    intro p F hm hF
    obtain ⟨F, rfl⟩ : ∃ F', F = F' + 1 := ⟨F - 1, by omega⟩
    rw [f_X7_allOf_4, hN, if_neg (by simp (disch := omega) only [zn_le]; omega), m_of hA (by omega), z_bind_eq]
    simp only [zn_lit, zn_add]
    exact ih (p + 1) F (by omega) (by omega)
theorem m_allOf (hA : m_A σ a) (hN : σ 0 3 = nI n) (hn : n ≤ 4) {w : Nat} (hw : w ≤ 3) : f_X7_allOf (nI w) σ = some (nI (w_sm a w n), σ) := m_all_loop hA hN hn hw n 0 200 (by omega) (by omega)
theorem x_sh_loop (hL : x_L σ b n k a) (hn : n ≤ 4) : ∀ (m p F : Nat), n = p + m → m < F → f_X1_sumInHand_4 b F (nI (w_sm a 1 p)) (nI p) σ = some (nI (w_sm a 1 n), σ) := by
  intro m
  induction m with
  | zero =>
    intro p F hm hF
    obtain ⟨F, rfl⟩ : ∃ F', F = F' + 1 := ⟨F - 1, by omega⟩
    have e : p = n := by omega
    subst e
    rw [f_X1_sumInHand_4, hL.1, if_pos (by simp (disch := omega) only [zn_le]; omega)]
  | succ m ih =>
    intro p F hm hF
    obtain ⟨F, rfl⟩ : ∃ F', F = F' + 1 := ⟨F - 1, by omega⟩
    rw [f_X1_sumInHand_4, hL.1]
    simp (disch := omega) only [zn_le, z_gd_nI, zn_cl, (hL.2.1 p (by omega)).2.1, z_bi_eq, zn_lit, zn_add]
    rw [if_neg (by omega)]
    exact ih (p + 1) F (by omega) (by omega)
theorem x_sumInHand (hL : x_L σ b n k a) (hn : n ≤ 4) : f_X1_sumInHand b σ = some (nI (w_sm a 1 n), σ) := x_sh_loop hL hn n 0 200 (by omega) (by omega)
theorem x_sb_loop (hL : x_L σ b n k a) (hn : n ≤ 4) : ∀ (m p F : Nat), n = p + m → m < F → f_X1_sumAtBank_4 b F (nI (w_sm a 2 p)) (nI p) σ = some (nI (w_sm a 2 n), σ) := by
  intro m
  induction m with
  | zero =>
    intro p F hm hF
    obtain ⟨F, rfl⟩ : ∃ F', F = F' + 1 := ⟨F - 1, by omega⟩
    have e : p = n := by omega
    subst e
    rw [f_X1_sumAtBank_4, hL.1, if_pos (by simp (disch := omega) only [zn_le]; omega)]
  | succ m ih =>
    intro p F hm hF
    obtain ⟨F, rfl⟩ : ∃ F', F = F' + 1 := ⟨F - 1, by omega⟩
    rw [f_X1_sumAtBank_4, hL.1]
    simp (disch := omega) only [zn_le, z_gd_nI, zn_cl, (hL.2.1 p (by omega)).2.2.1, z_bi_eq, zn_lit, zn_add]
    rw [if_neg (by omega)]
    exact ih (p + 1) F (by omega) (by omega)
theorem x_sumAtBank (hL : x_L σ b n k a) (hn : n ≤ 4) : f_X1_sumAtBank b σ = some (nI (w_sm a 2 n), σ) := x_sb_loop hL hn n 0 200 (by omega) (by omega)
/-! how often more than at the start -/
theorem m_bm_loop {st : Nat → Nat} (hA : m_A σ a) (hs : ∀ j, j < 135 → σ 1 j = nI (st j)) (hN : σ 0 3 = nI n) (hn : n ≤ 4) (hle : ∀ p, p < n → st (4 * p + 3) ≤ a (4 * p + 3)) : ∀ (m p F : Nat), n = p + m → m < F → f_X7_brazenMore_4 F (nI (w_bs a p - w_bs st p)) (nI p) σ = some (nI (w_bs a n - w_bs st n), σ) := by
  have mono : ∀ p, p ≤ n → w_bs st p ≤ w_bs a p := by
    intro p
    induction p with
    | zero => intro _; exact Nat.le_refl _
    | succ p ih => intro h; rw [w_bs, w_bs]; have := ih (by omega); have := hle p (by omega); omega
  intro m
  induction m with
  | zero =>
    intro p F hm hF
    obtain ⟨F, rfl⟩ : ∃ F', F = F' + 1 := ⟨F - 1, by omega⟩
    have e : p = n := by omega
    subst e
    rw [f_X7_brazenMore_4, hN, if_pos (by simp (disch := omega) only [zn_le]; omega)]
  | succ m ih =>
    intro p F hm hF
    obtain ⟨F, rfl⟩ : ∃ F', F = F' + 1 := ⟨F - 1, by omega⟩
    have hl := hle p (by omega)
    have hm1 := mono p (by omega)
    rw [f_X7_brazenMore_4, hN]
    simp (disch := omega) only [zn_le, zn_lit, m_of hA, z_bind_eq, zn_mul, zn_add, z_gd_nI, zn_cl, hs, zn_sub, z_bi_eq]
    rw [if_neg (by omega), show w_bs a p - w_bs st p + (a (4 * p + 3) - st (4 * p + 3)) = w_bs a (p + 1) - w_bs st (p + 1) by rw [w_bs, w_bs]; omega]
    exact ih (p + 1) F (by omega) (by omega)
theorem m_brazenMore {st : Nat → Nat} (hA : m_A σ a) (hs : ∀ j, j < 135 → σ 1 j = nI (st j)) (hN : σ 0 3 = nI n) (hn : n ≤ 4) (hle : ∀ p, p < n → st (4 * p + 3) ≤ a (4 * p + 3)) : f_X7_brazenMore σ = some (nI (w_bs a n - w_bs st n), σ) := m_bm_loop hA hs hN hn hle n 0 200 (by omega) (by omega)
/-- brazenIn: N weeks from a ledger a that has been brazen as often as st -/
theorem m_brazenIn {st : Nat → Nat} (wS : w_S n k q s) (wR : w_R n k B a) {N : Nat} (hN : a 25 + N ≤ 200) (hN2 : N < 200) (hB : B + 6 * N ≤ 980) (hS : m_S σ n k q s) (hA : m_A σ a) (hs : ∀ j, j < 135 → σ 1 j = nI (st j)) (hb : ∀ p, p < n → a (4 * p + 3) = st (4 * p + 3)) : ∃ σ', f_X7_brazenIn (nI N) σ = some (nI (w_wts s n k q a N), σ') ∧ m_A σ' (w_ws s n k q a N) ∧ m_F σ σ' := by
  obtain ⟨σ1, g1, g2, g3⟩ := m_weeksGo wS wR hN hN2 hB hS hA
  have hn := wS.1
  have hs1 : ∀ j, j < 135 → σ1 1 j = nI (st j) := by rw [g3.1 1 (by omega) (by omega)]; exact hs
  have e : w_bs st n = w_bs a n := by
    have : ∀ p, p ≤ n → w_bs st p = w_bs a p := by
      intro p
      induction p with
      | zero => intro _; rfl
      | succ p ih => intro h; rw [w_bs, w_bs, ih (by omega), hb p (by omega)]
    exact this n (Nat.le_refl n)
  refine ⟨σ1, ?_, g2, g3⟩
  unfold f_X7_brazenIn
  rw [g1, z_bind_eq, m_brazenMore (st := st) g2 hs1 (hS.fr g3).1 hn (fun p hp => by rw [← hb p hp]; exact w_br_ws wS (by omega) N), z_bind_eq, w_bs_ws wS, e, show w_bs a n + w_wts s n k q a N - w_bs a n = w_wts s n k q a N by omega]
end BA
