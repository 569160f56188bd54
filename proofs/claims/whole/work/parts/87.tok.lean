/-! ===== the text: tokens ===== -/
def t_sk (tp : Nat → Nat) (ln : Nat) : Nat → Nat → Nat
  | 0, p => p
  | m + 1, p => if p < ln ∧ tp p = 32 then t_sk tp ln m (p + 1) else p
def t_rn (tp : Nat → Nat) (ln lo hi : Nat) : Nat → Nat → Nat
  | 0, p => p
  | m + 1, p => if p < ln ∧ lo ≤ tp p ∧ tp p ≤ hi then t_rn tp ln lo hi m (p + 1) else p
def t_st (tp : Nat → Nat) (ln p : Nat) : Nat := t_sk tp ln (ln - p) p
def t_nm (tp : Nat → Nat) (ln a : Nat) : Nat := t_rn tp ln 97 122 (ln - a) a
def t_dg (tp : Nat → Nat) (ln a : Nat) : Nat := t_rn tp ln 48 57 (ln - a) a
def t_kd (tp : Nat → Nat) (ln p : Nat) : Nat := if ln ≤ t_st tp ln p then 0 else if 97 ≤ tp (t_st tp ln p) ∧ tp (t_st tp ln p) ≤ 122 then 1 else if 48 ≤ tp (t_st tp ln p) ∧ tp (t_st tp ln p) ≤ 57 then (if 2 < t_dg tp ln (t_st tp ln p) - t_st tp ln p then 4 else 2) else if tp (t_st tp ln p) = 59 then 3 else 4
def t_en (tp : Nat → Nat) (ln p : Nat) : Nat := if t_kd tp ln p = 1 then t_nm tp ln (t_st tp ln p) else if t_kd tp ln p = 2 then t_dg tp ln (t_st tp ln p) else if t_kd tp ln p = 3 then t_st tp ln p + 1 else t_st tp ln p
def t_vv (tp : Nat → Nat) (a p : Nat) : Nat := if p = a then 0 else if p = a + 1 then tp a - 48 else 10 * (tp a - 48) + (tp (a + 1) - 48)
def t_vl (tp : Nat → Nat) (ln p : Nat) : Nat := t_vv tp (t_st tp ln p) (t_dg tp ln (t_st tp ln p))
section TK
variable {σ : z_St} {tp : Nat → Nat} {ln : Nat}
theorem t_sk_ge : ∀ (m p : Nat), p ≤ t_sk tp ln m p
  | 0, p => Nat.le_refl p
  | m + 1, p => by
    rw [t_sk]; split
    · exact Nat.le_trans (Nat.le_succ p) (t_sk_ge m (p + 1))
    · exact Nat.le_refl p
theorem t_sk_le : ∀ (m p : Nat), p ≤ ln → t_sk tp ln m p ≤ ln
  | 0, p, h => h
  | m + 1, p, h => by
    rw [t_sk]; split
    · exact t_sk_le m (p + 1) (by omega)
    · exact h
theorem t_sk_no : ∀ (m p : Nat), ln ≤ p + m → ¬ (t_sk tp ln m p < ln ∧ tp (t_sk tp ln m p) = 32)
  | 0, p, h => by rw [t_sk]; omega
  | m + 1, p, h => by
    rw [t_sk]; split
    · exact t_sk_no m (p + 1) (by omega)
    · assumption
theorem t_rn_ge {lo hi : Nat} : ∀ (m p : Nat), p ≤ t_rn tp ln lo hi m p
  | 0, p => Nat.le_refl p
  | m + 1, p => by
    rw [t_rn]; split
    · exact Nat.le_trans (Nat.le_succ p) (t_rn_ge m (p + 1))
    · exact Nat.le_refl p
theorem t_rn_le {lo hi : Nat} : ∀ (m p : Nat), p ≤ ln → t_rn tp ln lo hi m p ≤ ln
  | 0, p, h => h
  | m + 1, p, h => by
    rw [t_rn]; split
    · exact t_rn_le m (p + 1) (by omega)
    · exact h
theorem t_rn_in {lo hi : Nat} : ∀ (m p j : Nat), p ≤ j → j < t_rn tp ln lo hi m p → lo ≤ tp j ∧ tp j ≤ hi
  | 0, p, j, h1, h2 => by rw [t_rn] at h2; omega
  | m + 1, p, j, h1, h2 => by
    rw [t_rn] at h2
    split at h2
    · by_cases e : j = p
      · subst e; omega
      · exact t_rn_in m (p + 1) j (by omega) h2
    · omega
theorem t_st_ge (p : Nat) : p ≤ t_st tp ln p := t_sk_ge _ _
theorem t_st_le {p : Nat} (h : p ≤ ln) : t_st tp ln p ≤ ln := t_sk_le _ _ h
theorem t_rn_up {lo hi a : Nat} (h : a < ln) (h1 : lo ≤ tp a) (h2 : tp a ≤ hi) : a < t_rn tp ln lo hi (ln - a) a := by
  obtain ⟨m, e⟩ : ∃ m, ln - a = m + 1 := ⟨ln - a - 1, by omega⟩
  rw [e, t_rn, if_pos ⟨h, h1, h2⟩]
  exact t_rn_ge m (a + 1)
theorem t_kd_0 {p : Nat} (h : p ≤ ln) : t_kd tp ln p = 0 ↔ ln ≤ t_st tp ln p := by
  unfold t_kd
  constructor
  · intro e
    by_cases c : ln ≤ t_st tp ln p
    · exact c
    · rw [if_neg c] at e
      split at e
      · omega
      · split at e
        · split at e <;> omega
        · split at e <;> omega
  · intro c; rw [if_pos c]
theorem t_en_le {p : Nat} (h : p ≤ ln) : t_en tp ln p ≤ ln := by
  have h1 := t_st_le (tp := tp) h
  unfold t_en
  split
  · exact t_rn_le _ _ h1
  · split
    · exact t_rn_le _ _ h1
    · split
      · rename_i e
        have : ¬ ln ≤ t_st tp ln p := fun q => by have := (t_kd_0 h).mpr q; omega
        omega
      · exact h1
/-- a token goes on -/
theorem t_en_up {p : Nat} (h : p ≤ ln) (h0 : t_kd tp ln p ≠ 0) (h4 : t_kd tp ln p ≠ 4) : t_st tp ln p < t_en tp ln p := by
  have hs : ¬ ln ≤ t_st tp ln p := fun q => h0 ((t_kd_0 h).mpr q)
  have hk : t_kd tp ln p = 1 ∨ t_kd tp ln p = 2 ∨ t_kd tp ln p = 3 := by
    have : t_kd tp ln p ≤ 4 := by
      unfold t_kd
      split
      · omega
      · split
        · omega
        · split
          · split <;> omega
          · split <;> omega
    omega
  unfold t_en
  by_cases c1 : t_kd tp ln p = 1
  · rw [if_pos c1]
    have c := c1
    unfold t_kd at c
    rw [if_neg hs] at c
    by_cases d : 97 ≤ tp (t_st tp ln p) ∧ tp (t_st tp ln p) ≤ 122
    · exact t_rn_up (by omega) d.1 d.2
    · rw [if_neg d] at c
      split at c
      · split at c <;> omega
      · split at c <;> omega
  · rw [if_neg c1]
    by_cases c2 : t_kd tp ln p = 2
    · rw [if_pos c2]
      have c := c2
      unfold t_kd at c
      rw [if_neg hs] at c
      by_cases d : 97 ≤ tp (t_st tp ln p) ∧ tp (t_st tp ln p) ≤ 122
      · rw [if_pos d] at c; omega
      · rw [if_neg d] at c
        by_cases d2 : 48 ≤ tp (t_st tp ln p) ∧ tp (t_st tp ln p) ≤ 57
        · exact t_rn_up (by omega) d2.1 d2.2
        · rw [if_neg d2] at c
          split at c <;> omega
    · rw [if_neg c2, if_pos (by omega)]; omega
/-! the class -/
def x_K (σ σ' : z_St) : Prop := (∀ c, c ≠ 27 → σ' c = σ c) ∧ (∀ j, (j < 3 ∨ 10 ≤ j) → σ' 27 j = σ 27 j)
theorem x_K.rf : x_K σ σ := ⟨fun _ _ => rfl, fun _ _ => rfl⟩
theorem x_K.tr {σ σ' σ'' : z_St} (h : x_K σ σ') (h' : x_K σ' σ'') : x_K σ σ'' := ⟨fun c hc => (h'.1 c hc).trans (h.1 c hc), fun j hj => (h'.2 j hj).trans (h.2 j hj)⟩
theorem x_K.put {σ σ' : z_St} (h : x_K σ σ') {j : Nat} {v : Int32} (hj : 3 ≤ j) (hj2 : j < 10) : x_K σ (z_put σ' 27 j v) := ⟨fun c hc => by rw [z_put_ne hc]; exact h.1 c hc, fun i hi => by rw [z_put_eq, z_upd_ne (by omega)]; exact h.2 i hi⟩
def x_T (σ : z_St) (tp : Nat → Nat) (ln : Nat) : Prop := ln ≤ 160 ∧ (∀ j, j < ln → tp j ≤ 127) ∧ σ 27 2 = nI ln ∧ (∀ j, j < ln → σ 28 j = nI (tp j))
theorem x_T.fr {σ' : z_St} (h : x_T σ tp ln) (hK : x_K σ σ') : x_T σ' tp ln := by
  unfold x_T
  rw [hK.1 28 (by omega), hK.2 2 (by omega)]; exact h
theorem x_let {p : Nat} (h : x_T σ tp ln) (hp : p < ln) : f_X3_isLetter (nI p) σ = some (if 97 ≤ tp p ∧ tp p ≤ 122 then 1 else 0, σ) := by
  obtain ⟨h1, h2, h3, h4⟩ := h
  have := h2 p hp
  unfold f_X3_isLetter
  simp (disch := omega) only [z_gd_nI, zn_cl, h4 p hp, zn_lit, zn_lt]
  by_cases c1 : tp p < 97
  · rw [if_pos c1, if_neg (by omega)]
  · rw [if_neg c1]
    by_cases c2 : 122 < tp p
    · rw [if_pos c2, if_neg (by omega)]
    · rw [if_neg c2, if_pos (by omega)]
theorem x_fig {p : Nat} (h : x_T σ tp ln) (hp : p < ln) : f_X3_isFigure (nI p) σ = some (if 48 ≤ tp p ∧ tp p ≤ 57 then 1 else 0, σ) := by
  obtain ⟨h1, h2, h3, h4⟩ := h
  have := h2 p hp
  unfold f_X3_isFigure
  simp (disch := omega) only [z_gd_nI, zn_cl, h4 p hp, zn_lit, zn_lt]
  by_cases c1 : tp p < 48
  · rw [if_pos c1, if_neg (by omega)]
  · rw [if_neg c1]
    by_cases c2 : 57 < tp p
    · rw [if_pos c2, if_neg (by omega)]
    · rw [if_neg c2, if_pos (by omega)]
theorem x_sk : ∀ (m p F : Nat) (σ : z_St), ln - p = m → m < F → p ≤ ln → x_T σ tp ln → σ 27 7 = nI p → ∃ σ', f_X3_nextToken_0 F σ = f_X3_nextToken_38 σ' ∧ σ' 27 7 = nI (t_sk tp ln m p) ∧ x_K σ σ' ∧ σ' 27 3 = σ 27 3 := by
  intro m
  induction m with
  | zero =>
    intro p F σ hm hF hp hT h7
    obtain ⟨F, rfl⟩ : ∃ F', F = F' + 1 := ⟨F - 1, by omega⟩
    have h160 := hT.1
    refine ⟨σ, ?_, h7, x_K.rf, rfl⟩
    rw [f_X3_nextToken_0, hT.2.2.1, h7, if_pos (show nI ln ≤ nI p from nI_le (by omega) (by omega))]
  | succ m ih =>
    intro p F σ hm hF hp hT h7
    obtain ⟨F, rfl⟩ : ∃ F', F = F' + 1 := ⟨F - 1, by omega⟩
    have h160 := hT.1
    have h127 := hT.2.1 p (by omega)
    have ep : nI p + 1 = nI (p + 1) := nI_1 p
    rw [f_X3_nextToken_0, hT.2.2.1, h7, if_neg (show ¬ nI ln ≤ nI p from nI_ge (by omega) (by omega))]
    simp (disch := omega) only [z_gd_nI, zn_cl, hT.2.2.2 p (by omega)]
    rw [t_sk]
    by_cases c : tp p = 32
    · rw [if_pos (show nI (tp p) = (32 : Int32) by rw [c]; rfl), if_pos ⟨by omega, c⟩, z_bst_eq, ep]
      obtain ⟨σ', g1, g2, g3, g4⟩ := ih (p + 1) F (z_put σ 27 7 (nI (p + 1))) (by omega) (by omega) (by omega) (hT.fr (x_K.rf.put (by omega) (by omega))) (by rw [z_put_eq, z_upd_eq])
      exact ⟨σ', g1, g2, (x_K.rf.put (by omega) (by omega)).tr g3, by rw [g4, z_put_eq, z_upd_ne (by omega)]⟩
    · rw [if_neg (show ¬ nI (tp p) = (32 : Int32) by rw [show (32 : Int32) = nI 32 from rfl, zn_eq (by omega) (by omega)]; exact c), if_neg (fun q => c q.2)]
      exact ⟨σ, rfl, h7, x_K.rf, rfl⟩
theorem x_nm : ∀ (m p F : Nat) (σ : z_St), ln - p = m → m < F → p ≤ ln → x_T σ tp ln → σ 27 7 = nI p → ∃ σ', f_X3_nextToken_81 F σ = some (0, σ') ∧ σ' 27 7 = nI (t_rn tp ln 97 122 m p) ∧ x_K σ σ' ∧ (∀ j, j ≠ 7 → σ' 27 j = σ 27 j) := by
  intro m
  induction m with
  | zero =>
    intro p F σ hm hF hp hT h7
    obtain ⟨F, rfl⟩ : ∃ F', F = F' + 1 := ⟨F - 1, by omega⟩
    have h160 := hT.1
    refine ⟨σ, ?_, h7, x_K.rf, fun _ _ => rfl⟩
    rw [f_X3_nextToken_81, hT.2.2.1, h7, if_pos (show nI ln ≤ nI p from nI_le (by omega) (by omega))]
  | succ m ih =>
    intro p F σ hm hF hp hT h7
    obtain ⟨F, rfl⟩ : ∃ F', F = F' + 1 := ⟨F - 1, by omega⟩
    have h160 := hT.1
    have ep : nI p + 1 = nI (p + 1) := nI_1 p
    rw [f_X3_nextToken_81, hT.2.2.1, h7, if_neg (show ¬ nI ln ≤ nI p from nI_ge (by omega) (by omega)), x_let hT (by omega)]
    simp only [z_be]
    rw [t_rn]
    by_cases c : 97 ≤ tp p ∧ tp p ≤ 122
    · rw [if_pos c, z_f1, if_pos ⟨by omega, c⟩, z_bst_eq, h7, ep]
      obtain ⟨σ', g1, g2, g3, g4⟩ := ih (p + 1) F (z_put σ 27 7 (nI (p + 1))) (by omega) (by omega) (by omega) (hT.fr (x_K.rf.put (by omega) (by omega))) (by rw [z_put_eq, z_upd_eq])
      exact ⟨σ', g1, g2, (x_K.rf.put (by omega) (by omega)).tr g3, fun j hj => by rw [g4 j hj, z_put_eq, z_upd_ne hj]⟩
    · rw [if_neg c, if_pos rfl, if_neg (fun q => c q.2)]
      exact ⟨σ, rfl, h7, x_K.rf, fun _ _ => rfl⟩
theorem x_dg : ∀ (m p F : Nat) (σ : z_St), ln - p = m → m < F → p ≤ ln → x_T σ tp ln → σ 27 7 = nI p → ∃ σ', f_X3_nextToken_132 F σ = f_X3_nextToken_167 σ' ∧ σ' 27 7 = nI (t_rn tp ln 48 57 m p) ∧ x_K σ σ' ∧ (∀ j, j ≠ 7 → σ' 27 j = σ 27 j) := by
  intro m
  induction m with
  | zero =>
    intro p F σ hm hF hp hT h7
    obtain ⟨F, rfl⟩ : ∃ F', F = F' + 1 := ⟨F - 1, by omega⟩
    have h160 := hT.1
    refine ⟨σ, ?_, h7, x_K.rf, fun _ _ => rfl⟩
    rw [f_X3_nextToken_132, hT.2.2.1, h7, if_pos (show nI ln ≤ nI p from nI_le (by omega) (by omega))]
  | succ m ih =>
    intro p F σ hm hF hp hT h7
    obtain ⟨F, rfl⟩ : ∃ F', F = F' + 1 := ⟨F - 1, by omega⟩
    have h160 := hT.1
    have ep : nI p + 1 = nI (p + 1) := nI_1 p
    rw [f_X3_nextToken_132, hT.2.2.1, h7, if_neg (show ¬ nI ln ≤ nI p from nI_ge (by omega) (by omega)), x_fig hT (by omega)]
    simp only [z_be]
    rw [t_rn]
    by_cases c : 48 ≤ tp p ∧ tp p ≤ 57
    · rw [if_pos c, z_f1, if_pos ⟨by omega, c⟩, z_bst_eq, h7, ep]
      obtain ⟨σ', g1, g2, g3, g4⟩ := ih (p + 1) F (z_put σ 27 7 (nI (p + 1))) (by omega) (by omega) (by omega) (hT.fr (x_K.rf.put (by omega) (by omega))) (by rw [z_put_eq, z_upd_eq])
      exact ⟨σ', g1, g2, (x_K.rf.put (by omega) (by omega)).tr g3, fun j hj => by rw [g4 j hj, z_put_eq, z_upd_ne hj]⟩
    · rw [if_neg c, if_pos rfl, if_neg (fun q => c q.2)]
      exact ⟨σ, rfl, h7, x_K.rf, fun _ _ => rfl⟩
theorem x_refuse {f a : Nat} (h9 : σ 27 9 = nI a) : ∃ σ', f_X3_refuse (nI f) σ = some (0, σ') ∧ σ' 27 3 = nI f ∧ σ' 27 6 = nI a ∧ x_K σ σ' ∧ (∀ j, j ≠ 3 → j ≠ 6 → σ' 27 j = σ 27 j) := by
  unfold f_X3_refuse
  simp only [z_bst_eq]
  refine ⟨_, rfl, ?_, ?_, (x_K.rf.put (by omega) (by omega)).put (by omega) (by omega), fun j h3 h6 => ?_⟩
  · rw [z_put_eq, z_upd_ne (by omega), z_put_eq, z_upd_eq]
  · rw [z_put_eq, z_upd_eq, z_put_eq, z_upd_ne (by omega), h9]
  · rw [z_put_eq, z_upd_ne h6, z_put_eq, z_upd_ne h3]
/-- the class's number for a kind of token (0 end, 1 word, 2 number, 3 semicolon) -/
def t_xk : Nat → Int32
  | 0 => 3
  | 1 => 0
  | 2 => 1
  | _ => 2
theorem x_next {p : Nat} (hT : x_T σ tp ln) (hp : p ≤ ln) (h7 : σ 27 7 = nI p) : ∃ σ', f_X3_nextToken σ = some (0, σ') ∧ x_K σ σ' ∧ σ' 27 9 = nI (t_st tp ln p) ∧ (t_kd tp ln p = 4 → σ' 27 3 = 1 ∧ σ' 27 6 = nI (t_st tp ln p)) ∧ (t_kd tp ln p ≠ 4 → σ' 27 3 = σ 27 3 ∧ σ' 27 7 = nI (t_en tp ln p) ∧ σ' 27 8 = t_xk (t_kd tp ln p)) := by
  have h160 := hT.1
  obtain ⟨σ1, g1, g2, g3, g4⟩ := x_sk (ln - p) p 200 σ rfl (by omega) hp hT h7
  have e : t_sk tp ln (ln - p) p = t_st tp ln p := rfl
  rw [e] at g2
  unfold f_X3_nextToken
  rw [g1]
  unfold f_X3_nextToken_38
  rw [z_bst_eq, g2]
  have ha := t_st_le (tp := tp) hp
  have e2 : t_kd tp ln p = t_kd tp ln p := rfl
  generalize haa : t_st tp ln p = a at *
  have K1 : x_K σ (z_put σ1 27 9 (nI a)) := g3.put (by omega) (by omega)
  have hT1 : x_T (z_put σ1 27 9 (nI a)) tp ln := hT.fr K1
  have r7 : z_put σ1 27 9 (nI a) 27 7 = nI a := by rw [z_put_eq, z_upd_ne (by omega), g2]
  have r9 : z_put σ1 27 9 (nI a) 27 9 = nI a := by rw [z_put_eq, z_upd_eq]
  have r3 : z_put σ1 27 9 (nI a) 27 3 = σ 27 3 := by rw [z_put_eq, z_upd_ne (by omega), g4]
  generalize z_put σ1 27 9 (nI a) = τ at *
  have hkd : t_kd tp ln p = if ln ≤ a then 0 else if 97 ≤ tp a ∧ tp a ≤ 122 then 1 else if 48 ≤ tp a ∧ tp a ≤ 57 then (if 2 < t_dg tp ln a - a then 4 else 2) else if tp a = 59 then 3 else 4 := by
    unfold t_kd; rw [haa]
  rw [hT1.2.2.1, r7]
  by_cases c0 : ln ≤ a
  · rw [if_neg (show ¬ nI a < nI ln from nI_nlt (by omega) (by omega)), z_bst_eq]
    rw [if_pos c0] at hkd
    refine ⟨_, rfl, K1.put (by omega) (by omega), by rw [z_put_eq, z_upd_ne (by omega), r9], fun q => by omega, fun _ => ⟨?_, ?_, ?_⟩⟩
    · rw [z_put_eq, z_upd_ne (by omega), r3]
    · rw [z_put_eq, z_upd_ne (by omega), r7]; unfold t_en; rw [hkd, if_neg (by omega), if_neg (by omega), if_neg (by omega), haa]
    · rw [z_put_eq, z_upd_eq, hkd]; rfl
  rw [if_pos (show nI a < nI ln from nI_lt (by omega) (by omega)), x_let hT1 (by omega)]
  rw [if_neg c0] at hkd
  simp only [z_be]
  by_cases c1 : 97 ≤ tp a ∧ tp a ≤ 122
  · rw [if_pos c1] at hkd
    rw [if_pos c1, z_f1, z_bst_eq]
    obtain ⟨σ2, i1, i2, i3, i4⟩ := x_nm (ln - a) a 200 (z_put τ 27 8 0) rfl (by omega) (by omega) (hT1.fr (x_K.rf.put (by omega) (by omega))) (by rw [z_put_eq, z_upd_ne (by omega), r7])
    refine ⟨σ2, i1, (K1.put (by omega) (by omega)).tr i3, ?_, fun q => by omega, fun _ => ⟨?_, ?_, ?_⟩⟩
    · rw [i4 9 (by omega), z_put_eq, z_upd_ne (by omega), r9]
    · rw [i4 3 (by omega), z_put_eq, z_upd_ne (by omega), r3]
    · rw [i2]; unfold t_en; rw [if_pos hkd, haa]; rfl
    · rw [i4 8 (by omega), z_put_eq, z_upd_eq, hkd]; rfl
  rw [if_neg c1] at hkd
  rw [if_neg c1, if_pos rfl, r7, x_fig hT1 (by omega)]
  simp only [z_be]
  by_cases c2 : 48 ≤ tp a ∧ tp a ≤ 57
  · rw [if_pos c2] at hkd
    rw [if_pos c2, z_f1, z_bst_eq]
    obtain ⟨σ2, i1, i2, i3, i4⟩ := x_dg (ln - a) a 200 (z_put τ 27 8 1) rfl (by omega) (by omega) (hT1.fr (x_K.rf.put (by omega) (by omega))) (by rw [z_put_eq, z_upd_ne (by omega), r7])
    have e3 : t_rn tp ln 48 57 (ln - a) a = t_dg tp ln a := rfl
    rw [e3] at i2
    have hd1 : t_dg tp ln a ≤ ln := t_rn_le _ _ (by omega)
    have hd2 : a < t_dg tp ln a := t_rn_up (by omega) c2.1 c2.2
    have s9 : σ2 27 9 = nI a := by rw [i4 9 (by omega), z_put_eq, z_upd_ne (by omega), r9]
    rw [i1]
    unfold f_X3_nextToken_167
    rw [i2, s9, zn_sub (by omega)]
    by_cases c3 : 2 < t_dg tp ln a - a
    · rw [if_pos c3] at hkd
      rw [if_neg (show ¬ nI (t_dg tp ln a - a) ≤ (2 : Int32) from nI_ge (a := 2) (by omega) (by omega))]
      obtain ⟨σ3, j1, j2, j3, j4, j5⟩ := x_refuse (f := 1) s9
      rw [show f_X3_refuse 1 σ2 = _ from j1, z_be]
      exact ⟨σ3, rfl, ((K1.put (by omega) (by omega)).tr i3).tr j4, by rw [j5 9 (by omega) (by omega), s9], fun _ => ⟨j2, j3⟩, fun q => absurd hkd q⟩
    · rw [if_neg c3] at hkd
      rw [if_pos (show nI (t_dg tp ln a - a) ≤ (2 : Int32) from nI_le (b := 2) (by omega) (by omega))]
      refine ⟨σ2, rfl, (K1.put (by omega) (by omega)).tr i3, s9, fun q => by omega, fun _ => ⟨?_, ?_, ?_⟩⟩
      · rw [i4 3 (by omega), z_put_eq, z_upd_ne (by omega), r3]
      · rw [i2]; unfold t_en; rw [if_neg (by omega), if_pos hkd, haa]
      · rw [i4 8 (by omega), z_put_eq, z_upd_eq, hkd]; rfl
  rw [if_neg c2] at hkd
  rw [if_neg c2, if_pos rfl, r7, z_gd_nI (by omega) (by omega), zn_cl (by omega), hT1.2.2.2 a (by omega)]
  have h127 := hT.2.1 a (by omega)
  by_cases c3 : tp a = 59
  · rw [if_pos c3] at hkd
    rw [if_pos (show nI (tp a) = (59 : Int32) by rw [c3]; rfl), z_bst_eq, z_bst_eq]
    refine ⟨_, rfl, (K1.put (by omega) (by omega)).put (by omega) (by omega), ?_, fun q => by omega, fun _ => ⟨?_, ?_, ?_⟩⟩
    · rw [z_put_eq, z_upd_ne (by omega), z_put_eq, z_upd_ne (by omega), r9]
    · rw [z_put_eq, z_upd_ne (by omega), z_put_eq, z_upd_ne (by omega), r3]
    · rw [z_put_eq, z_upd_eq, z_put_eq, z_upd_ne (by omega), r7]; unfold t_en; rw [if_neg (by omega), if_neg (by omega), if_pos hkd, haa]; exact nI_1 a
    · rw [z_put_eq, z_upd_ne (by omega), z_put_eq, z_upd_eq, hkd]; rfl
  · rw [if_neg c3] at hkd
    rw [if_neg (show ¬ nI (tp a) = (59 : Int32) by rw [show (59 : Int32) = nI 59 from rfl, zn_eq (by omega) (by omega)]; exact c3)]
    obtain ⟨σ3, j1, j2, j3, j4, j5⟩ := x_refuse (f := 1) r9
    rw [show f_X3_refuse 1 τ = _ from j1, z_be]
    exact ⟨σ3, rfl, K1.tr j4, by rw [j5 9 (by omega) (by omega), r9], fun _ => ⟨j2, j3⟩, fun q => absurd hkd q⟩
/-! the reference -/
def m_N (σ σ' : z_St) : Prop := (∀ c, c ≠ 0 → σ' c = σ c) ∧ (∀ j, (j < 26 ∨ 31 < j) → σ' 0 j = σ 0 j)
theorem m_N.rf : m_N σ σ := ⟨fun _ _ => rfl, fun _ _ => rfl⟩
theorem m_N.tr {σ σ' σ'' : z_St} (h : m_N σ σ') (h' : m_N σ' σ'') : m_N σ σ'' := ⟨fun c hc => (h'.1 c hc).trans (h.1 c hc), fun j hj => (h'.2 j hj).trans (h.2 j hj)⟩
theorem m_N.put {σ σ' : z_St} (h : m_N σ σ') {j : Nat} {v : Int32} (hj : 26 ≤ j) (hj2 : j ≤ 31) : m_N σ (z_put σ' 0 j v) := ⟨fun c hc => by rw [z_put_ne hc]; exact h.1 c hc, fun i hi => by rw [z_put_eq, z_upd_ne (by omega)]; exact h.2 i hi⟩
def m_T (σ : z_St) (tp : Nat → Nat) (ln : Nat) : Prop := ln ≤ 160 ∧ (∀ j, j < ln → tp j ≤ 127) ∧ σ 0 25 = nI ln ∧ (∀ j, j < ln → σ 17 j = nI (tp j))
theorem m_T.fr {σ' : z_St} (h : m_T σ tp ln) (hK : m_N σ σ') : m_T σ' tp ln := by
  unfold m_T
  rw [hK.1 17 (by omega), hK.2 25 (by omega)]; exact h
theorem m_byte {p : Nat} (h : m_T σ tp ln) (hp : p ≤ 1000) : f_X7_byteAt (nI p) σ = some (if ln ≤ p then -1 else nI (tp p), σ) := by
  obtain ⟨h1, h2, h3, h4⟩ := h
  unfold f_X7_byteAt
  rw [h3]
  by_cases c : ln ≤ p
  · rw [if_pos (nI_le c (by omega)), if_pos c]
  · rw [if_neg (nI_ge (by omega) (by omega)), if_neg c, z_gd_nI (by omega) (by omega), zn_cl (by omega), h4 p (by omega)]
theorem m_in_b {b lo hi : Nat} {L H : Int64} (e1 : L.toInt = lo) (e2 : H.toInt = hi) (hb : b < 2147483648) : f_X7_in (nI b).toInt64 L H σ = some (if lo ≤ b ∧ b ≤ hi then 1 else 0, σ) := by
  by_cases c : lo ≤ b ∧ b ≤ hi
  · rw [if_pos c, m_in_in (by rw [e1, nI_toInt hb]; omega) (by rw [e2, nI_toInt hb]; omega)]
  · rw [if_neg c, m_in_out (by rw [e1, e2, nI_toInt hb]; omega)]
theorem m_in_n {lo : Nat} {L H : Int64} (e1 : L.toInt = lo) : f_X7_in (-1 : Int32).toInt64 L H σ = some (0, σ) := m_in_out (Or.inl (by rw [e1, show (-1 : Int32).toInt = -1 from rfl]; omega))
theorem m_sk : ∀ (m p F : Nat) (σ : z_St), ln - p = m → m < F → p ≤ ln → m_T σ tp ln → σ 0 26 = nI p → ∃ σ' F', f_X7_next_8 F σ = f_X7_next_8 (F' + 1) σ' ∧ σ' 0 26 = nI (t_sk tp ln m p) ∧ m_N σ σ' ∧ (∀ j, j ≠ 26 → σ' 0 j = σ 0 j) := by
  intro m
  induction m with
  | zero =>
    intro p F σ hm hF hp hT h7
    obtain ⟨F, rfl⟩ : ∃ F', F = F' + 1 := ⟨F - 1, by omega⟩
    exact ⟨σ, F, rfl, h7, m_N.rf, fun _ _ => rfl⟩
  | succ m ih =>
    intro p F σ hm hF hp hT h7
    obtain ⟨F, rfl⟩ : ∃ F', F = F' + 1 := ⟨F - 1, by omega⟩
    have h160 := hT.1
    have h127 := hT.2.1 p (by omega)
    have ep : nI p + 1 = nI (p + 1) := nI_1 p
    rw [t_sk]
    by_cases c : tp p = 32
    · rw [if_pos ⟨by omega, c⟩]
      obtain ⟨σ', F', g1, g2, g3, g4⟩ := ih (p + 1) F (z_put σ 0 26 (nI (p + 1))) (by omega) (by omega) (by omega) (hT.fr (m_N.rf.put (by omega) (by omega))) (by rw [z_put_eq, z_upd_eq])
      refine ⟨σ', F', ?_, g2, (m_N.rf.put (by omega) (by omega)).tr g3, fun j hj => by rw [g4 j hj, z_put_eq, z_upd_ne hj]⟩
      rw [f_X7_next_8, h7, m_byte hT (by omega), if_neg (by omega)]
      simp only [z_be]
      rw [if_pos (show nI (tp p) = (32 : Int32) by rw [c]; rfl), z_bst_eq, h7, ep]
      exact g1
    · rw [if_neg (fun q => c q.2)]
      exact ⟨σ, F, rfl, h7, m_N.rf, fun _ _ => rfl⟩
theorem m_nm : ∀ (m p F : Nat) (σ : z_St), ln - p = m → m < F → p ≤ ln → m_T σ tp ln → σ 0 26 = nI p → ∃ σ', f_X7_next_82 F σ = some (0, σ') ∧ σ' 0 26 = nI (t_rn tp ln 97 122 m p) ∧ m_N σ σ' ∧ (∀ j, j ≠ 26 → σ' 0 j = σ 0 j) := by
  intro m
  induction m with
  | zero =>
    intro p F σ hm hF hp hT h7
    obtain ⟨F, rfl⟩ : ∃ F', F = F' + 1 := ⟨F - 1, by omega⟩
    have h160 := hT.1
    refine ⟨σ, ?_, h7, m_N.rf, fun _ _ => rfl⟩
    rw [f_X7_next_82, h7, m_byte hT (by omega), if_pos (by omega)]
    simp only [z_be]
    rw [m_in_n (lo := 97) (by decide)]
    simp only [z_be]
    rw [if_pos trivial]
  | succ m ih =>
    intro p F σ hm hF hp hT h7
    obtain ⟨F, rfl⟩ : ∃ F', F = F' + 1 := ⟨F - 1, by omega⟩
    have h160 := hT.1
    have h127 := hT.2.1 p (by omega)
    have ep : nI p + 1 = nI (p + 1) := nI_1 p
    rw [t_rn, f_X7_next_82, h7, m_byte hT (by omega), if_neg (by omega)]
    simp only [z_be]
    rw [m_in_b (lo := 97) (hi := 122) (by decide) (by decide) (by omega)]
    simp only [z_be]
    by_cases c : 97 ≤ tp p ∧ tp p ≤ 122
    · rw [if_pos c, z_f1, if_pos ⟨by omega, c⟩, z_bst_eq, h7, ep]
      obtain ⟨σ', g1, g2, g3, g4⟩ := ih (p + 1) F (z_put σ 0 26 (nI (p + 1))) (by omega) (by omega) (by omega) (hT.fr (m_N.rf.put (by omega) (by omega))) (by rw [z_put_eq, z_upd_eq])
      exact ⟨σ', g1, g2, (m_N.rf.put (by omega) (by omega)).tr g3, fun j hj => by rw [g4 j hj, z_put_eq, z_upd_ne hj]⟩
    · rw [if_neg c, if_pos rfl, if_neg (fun q => c q.2)]
      exact ⟨σ, rfl, h7, m_N.rf, fun _ _ => rfl⟩
theorem m_needs1 (x : Int32) : f_X7_needs 1 x σ = some (0, σ) := by
  unfold f_X7_needs
  rw [z_f1]
theorem m_needs0 (x : Int32) (h : σ 0 30 = 0) : f_X7_needs 0 x σ = some (0, z_put (z_put σ 0 30 x) 0 31 (σ 0 27)) := by
  unfold f_X7_needs
  rw [if_pos rfl, if_pos h, z_bst_eq, z_bst_eq, z_put_eq, z_upd_ne (by omega)]
theorem m_dg {a : Nat} : ∀ (m p F : Nat) (σ : z_St), ln - p = m → m < F → p ≤ ln → m_T σ tp ln → σ 0 26 = nI p → σ 0 27 = nI a → a ≤ p → (∀ j, a ≤ j → j < p → 48 ≤ tp j ∧ tp j ≤ 57) → σ 0 29 = nI (t_vv tp a p) → σ 0 30 = 0 → ∃ σ', f_X7_next_140 F σ = some (0, σ') ∧ m_N σ σ' ∧ σ' 0 27 = nI a ∧ σ' 0 28 = σ 0 28 ∧ (2 < t_rn tp ln 48 57 m p - a → σ' 0 30 = 1 ∧ σ' 0 31 = nI a) ∧ (¬ 2 < t_rn tp ln 48 57 m p - a → σ' 0 30 = 0 ∧ σ' 0 26 = nI (t_rn tp ln 48 57 m p) ∧ σ' 0 29 = nI (t_vv tp a (t_rn tp ln 48 57 m p))) := by
  have fin : ∀ (p : Nat) (σ : z_St), p ≤ 160 → σ 0 26 = nI p → σ 0 27 = nI a → a ≤ p → σ 0 29 = nI (t_vv tp a p) → σ 0 30 = 0 → ∃ σ', (if (2 : Int32) < ((σ 0 26) - (σ 0 27)) then (f_X7_needs (0 : Int32) (1 : Int32) σ).bind fun r13 => some ((0 : Int32), r13.2) else (f_X7_needs (1 : Int32) (1 : Int32) σ).bind fun r14 => some ((0 : Int32), r14.2)) = some ((0 : Int32), σ') ∧ m_N σ σ' ∧ σ' 0 27 = nI a ∧ σ' 0 28 = σ 0 28 ∧ (2 < p - a → σ' 0 30 = 1 ∧ σ' 0 31 = nI a) ∧ (¬ 2 < p - a → σ' 0 30 = 0 ∧ σ' 0 26 = nI p ∧ σ' 0 29 = nI (t_vv tp a p)) := by
    intro p σ hp h6 h7 hap h9 h0
    by_cases c : 2 < p - a
    · rw [if_pos (show (2 : Int32) < σ 0 26 - σ 0 27 by rw [h6, h7, zn_sub hap]; exact nI_lt (a := 2) (by omega) (by omega)), m_needs0 1 h0, z_be]
      dsimp only
      refine ⟨_, rfl, (m_N.rf.put (by omega) (by omega)).put (by omega) (by omega), ?_, ?_, fun _ => ⟨?_, ?_⟩, fun q => absurd c q⟩
      · rw [z_put_eq, z_upd_ne (by omega), z_put_eq, z_upd_ne (by omega), h7]
      · rw [z_put_eq, z_upd_ne (by omega), z_put_eq, z_upd_ne (by omega)]
      · rw [z_put_eq, z_upd_ne (by omega), z_put_eq, z_upd_eq]
      · rw [z_put_eq, z_upd_eq, h7]
    · rw [if_neg (show ¬ (2 : Int32) < σ 0 26 - σ 0 27 by rw [h6, h7, zn_sub hap]; exact nI_nlt (a := 2) (by omega) (by omega)), m_needs1, z_be]
      exact ⟨σ, rfl, m_N.rf, h7, rfl, fun q => absurd q c, fun _ => ⟨h0, h6, h9⟩⟩
  intro m
  induction m with
  | zero =>
    intro p F σ hm hF hp hT h6 h7 hap hd h9 h0
    obtain ⟨F, rfl⟩ : ∃ F', F = F' + 1 := ⟨F - 1, by omega⟩
    have h160 := hT.1
    rw [f_X7_next_140, h6, m_byte hT (by omega), if_pos (by omega)]
    simp only [z_be]
    rw [m_in_n (lo := 48) (by decide)]
    simp only [z_be]
    rw [if_pos trivial, t_rn]
    exact fin p σ (by omega) h6 h7 hap h9 h0
  | succ m ih =>
    intro p F σ hm hF hp hT h6 h7 hap hd h9 h0
    obtain ⟨F, rfl⟩ : ∃ F', F = F' + 1 := ⟨F - 1, by omega⟩
    have h160 := hT.1
    have h127 := hT.2.1 p (by omega)
    have ep : nI p + 1 = nI (p + 1) := nI_1 p
    rw [t_rn, f_X7_next_140, h6, m_byte hT (by omega), if_neg (by omega)]
    simp only [z_be]
    rw [m_in_b (lo := 48) (hi := 57) (by decide) (by decide) (by omega)]
    simp only [z_be]
    by_cases c : 48 ≤ tp p ∧ tp p ≤ 57
    · rw [if_pos c, z_f1, if_pos (show p < ln ∧ 48 ≤ tp p ∧ tp p ≤ 57 from ⟨by omega, c⟩)]
      have step : (if (2 : Int32) ≤ ((σ 0 26) - (σ 0 27)) then f_X7_next_201 (fun σ => f_X7_next_140 F σ) (σ 0 29) σ else (f_X7_byteAt (σ 0 26) σ).bind fun r17 => f_X7_next_201 (fun σ => f_X7_next_140 F σ) ((((10 : Int32) * (σ 0 29)) + r17.1) - (48 : Int32)) r17.2) = f_X7_next_140 F (z_put (z_put σ 0 29 (nI (t_vv tp a (p + 1)))) 0 26 (nI (p + 1))) := by
        rw [h6, h7, zn_sub hap]
        unfold f_X7_next_201
        simp only [z_bst_eq]
        rw [z_put_eq, z_upd_ne (show (26 : Nat) ≠ 29 by omega), h6, ep]
        by_cases c2 : 2 ≤ p - a
        · rw [if_pos (show (2 : Int32) ≤ nI (p - a) from nI_le (a := 2) (by omega) (by omega)), h9, show t_vv tp a (p + 1) = t_vv tp a p by unfold t_vv; rw [if_neg (by omega), if_neg (by omega), if_neg (by omega), if_neg (by omega)]]
        · rw [if_neg (show ¬ (2 : Int32) ≤ nI (p - a) from nI_ge (b := 2) (by omega) (by omega)), m_byte hT (by omega), if_neg (by omega)]
          simp only [z_be]
          rw [h9, show (10 : Int32) = nI 10 from rfl, zn_mul, zn_add, show (48 : Int32) = nI 48 from rfl, zn_sub (by omega)]
          rw [z_put_eq, z_upd_ne (show (26 : Nat) ≠ 29 by omega), h6, ep]
          have ev : 10 * t_vv tp a p + tp p - 48 = t_vv tp a (p + 1) := by
            unfold t_vv
            by_cases c3 : p = a
            · subst c3; rw [if_pos rfl, if_neg (by omega), if_pos rfl]; omega
            · have c4 : p = a + 1 := by omega
              subst c4
              have := hd a (by omega) (by omega)
              rw [if_neg (by omega), if_pos rfl, if_neg (by omega), if_neg (by omega)]; omega
          rw [ev]
      rw [step]
      have K1 : m_N σ (z_put (z_put σ 0 29 (nI (t_vv tp a (p + 1)))) 0 26 (nI (p + 1))) := (m_N.rf.put (by omega) (by omega)).put (by omega) (by omega)
      obtain ⟨σ', g1, g2, g3, g3', g4, g5⟩ := ih (p + 1) F (z_put (z_put σ 0 29 (nI (t_vv tp a (p + 1)))) 0 26 (nI (p + 1))) (by omega) (by omega) (by omega) (hT.fr K1) (by rw [z_put_eq, z_upd_eq]) (by rw [z_put_eq, z_upd_ne (by omega), z_put_eq, z_upd_ne (by omega), h7]) (by omega) (fun j h1 h2 => by
        by_cases e : j = p
        · subst e; exact c
        · exact hd j h1 (by omega)) (by rw [z_put_eq, z_upd_ne (by omega), z_put_eq, z_upd_eq]) (by rw [z_put_eq, z_upd_ne (by omega), z_put_eq, z_upd_ne (by omega), h0])
      exact ⟨σ', g1, K1.tr g2, g3, by rw [g3', z_put_eq, z_upd_ne (by omega), z_put_eq, z_upd_ne (by omega)], g4, g5⟩
    · rw [if_neg c, if_pos rfl, if_neg (show ¬ (p < ln ∧ 48 ≤ tp p ∧ tp p ≤ 57) from fun q => c q.2)]
      exact fin p σ (by omega) h6 h7 hap h9 h0
/-- where the parse is: a fault and its place, or the place where the next token is looked for -/
abbrev z_P : Type := Nat × Nat × Nat
def t_lk (tp : Nat → Nat) (ln : Nat) (s : z_P) : z_P := if s.1 = 0 then (if t_kd tp ln s.2.2 = 4 then (1, t_st tp ln s.2.2, s.2.2) else s) else s
def m_Z (tp : Nat → Nat) (ln : Nat) (σ : z_St) (s : z_P) : Prop := s.1 ≤ 6 ∧ σ 0 30 = nI s.1 ∧ (s.1 ≠ 0 → σ 0 31 = nI s.2.1) ∧ (s.1 = 0 → s.2.2 ≤ ln ∧ t_kd tp ln s.2.2 ≠ 4 ∧ σ 0 27 = nI (t_st tp ln s.2.2) ∧ σ 0 26 = nI (t_en tp ln s.2.2) ∧ σ 0 28 = nI (t_kd tp ln s.2.2) ∧ (t_kd tp ln s.2.2 = 2 → σ 0 29 = nI (t_vl tp ln s.2.2)))
def x_Z (ln : Nat) (σ : z_St) (s : z_P) : Prop := s.1 ≤ 6 ∧ σ 27 3 = nI s.1 ∧ (s.1 ≠ 0 → σ 27 6 = nI s.2.1) ∧ (s.1 = 0 → s.2.2 ≤ ln ∧ σ 27 7 = nI s.2.2)
theorem m_next {p : Nat} (hT : m_T σ tp ln) (hp : p ≤ ln) (h6 : σ 0 26 = nI p) (h0 : σ 0 30 = 0) : ∃ σ', f_X7_next σ = some (0, σ') ∧ m_N σ σ' ∧ m_Z tp ln σ' (t_lk tp ln (0, 0, p)) := by
  have h160 := hT.1
  obtain ⟨σ1, F', g1, g2, g3, g4⟩ := m_sk (ln - p) p 200 σ rfl (by omega) hp hT h6
  have e : t_sk tp ln (ln - p) p = t_st tp ln p := rfl
  have hno := t_sk_no (tp := tp) (ln := ln) (ln - p) p (by omega)
  rw [e] at g2 hno
  unfold f_X7_next
  rw [h0, if_pos (show (0 : Int32) ≤ 0 by decide), g1]
  have ha := t_st_le (tp := tp) hp
  have haa : t_st tp ln p = t_st tp ln p := rfl
  generalize hab : t_st tp ln p = a at g2 hno ha
  have hT1 : m_T σ1 tp ln := hT.fr g3
  have hkd : t_kd tp ln p = if ln ≤ a then 0 else if 97 ≤ tp a ∧ tp a ≤ 122 then 1 else if 48 ≤ tp a ∧ tp a ≤ 57 then (if 2 < t_dg tp ln a - a then 4 else 2) else if tp a = 59 then 3 else 4 := by
    unfold t_kd; rw [hab]
  have hb : ¬ (if ln ≤ a then (-1 : Int32) else nI (tp a)) = 32 := by
    by_cases c : ln ≤ a
    · rw [if_pos c]; decide
    · have := hT.2.1 a (by omega)
      rw [if_neg c, show (32 : Int32) = nI 32 from rfl, zn_eq (by omega) (by omega)]
      exact fun q => hno ⟨by omega, q⟩
  rw [f_X7_next_8, g2, m_byte hT1 (by omega)]
  simp only [z_be]
  rw [if_neg hb, z_bst_eq, g2]
  have K1 : m_N σ (z_put σ1 0 27 (nI a)) := g3.put (by omega) (by omega)
  have hT2 : m_T (z_put σ1 0 27 (nI a)) tp ln := hT.fr K1
  have r6 : z_put σ1 0 27 (nI a) 0 26 = nI a := by rw [z_put_eq, z_upd_ne (by omega), g2]
  have r7 : z_put σ1 0 27 (nI a) 0 27 = nI a := by rw [z_put_eq, z_upd_eq]
  have r0 : z_put σ1 0 27 (nI a) 0 30 = 0 := by rw [z_put_eq, z_upd_ne (by omega), g4 30 (by omega), h0]
  generalize z_put σ1 0 27 (nI a) = τ at *
  rw [r6, m_byte hT2 (by omega)]
  simp only [z_be]
  have ok : ∀ τ' : z_St, t_kd tp ln p ≠ 4 → τ' 0 30 = 0 → τ' 0 27 = nI a → τ' 0 26 = nI (t_en tp ln p) → τ' 0 28 = nI (t_kd tp ln p) → (t_kd tp ln p = 2 → τ' 0 29 = nI (t_vl tp ln p)) → m_Z tp ln τ' (t_lk tp ln (0, 0, p)) := by
    intro τ' k4 q0 q7 q6 q8 q9
    unfold t_lk
    rw [if_pos rfl, if_neg k4]
    exact ⟨by show 0 ≤ 6; omega, q0, fun h => absurd rfl h, fun _ => ⟨hp, k4, by rw [q7, hab], q6, q8, q9⟩⟩
  have bad : ∀ τ' : z_St, t_kd tp ln p = 4 → τ' 0 30 = 1 → τ' 0 31 = nI a → m_Z tp ln τ' (t_lk tp ln (0, 0, p)) := by
    intro τ' k4 q0 q1
    unfold t_lk
    rw [if_pos rfl, if_pos k4]
    exact ⟨by show 1 ≤ 6; omega, q0, fun _ => by rw [q1, hab], fun h => absurd (show (1 : Nat) = 0 from h) (by decide)⟩
  by_cases c0 : ln ≤ a
  · rw [if_pos c0] at hkd
    rw [if_pos c0, if_neg (show ¬ (0 : Int32) ≤ -1 by decide), z_bst_eq]
    refine ⟨_, rfl, K1.put (by omega) (by omega), ok _ (by omega) ?_ ?_ ?_ ?_ (fun q => by omega)⟩
    · rw [z_put_eq, z_upd_ne (by omega), r0]
    · rw [z_put_eq, z_upd_ne (by omega), r7]
    · rw [z_put_eq, z_upd_ne (by omega), r6]; unfold t_en; rw [hkd, if_neg (by omega), if_neg (by omega), if_neg (by omega), hab]
    · rw [z_put_eq, z_upd_eq, hkd]; rfl
  rw [if_neg c0] at hkd
  have h127 := hT.2.1 a (by omega)
  rw [if_neg c0, if_pos (show (0 : Int32) ≤ nI (tp a) from nI_le (a := 0) (by omega) (by omega)), m_in_b (lo := 97) (hi := 122) (by decide) (by decide) (by omega)]
  simp only [z_be]
  by_cases c1 : 97 ≤ tp a ∧ tp a ≤ 122
  · rw [if_pos c1] at hkd
    rw [if_pos c1, z_f1, z_bst_eq]
    obtain ⟨σ2, i1, i2, i3, i4⟩ := m_nm (ln - a) a 200 (z_put τ 0 28 1) rfl (by omega) (by omega) (hT2.fr (m_N.rf.put (by omega) (by omega))) (by rw [z_put_eq, z_upd_ne (by omega), r6])
    refine ⟨σ2, i1, (K1.put (by omega) (by omega)).tr i3, ok _ (by omega) ?_ ?_ ?_ ?_ (fun q => by omega)⟩
    · rw [i4 30 (by omega), z_put_eq, z_upd_ne (by omega), r0]
    · rw [i4 27 (by omega), z_put_eq, z_upd_ne (by omega), r7]
    · rw [i2]; unfold t_en; rw [if_pos hkd, hab]; rfl
    · rw [i4 28 (by omega), z_put_eq, z_upd_eq, hkd]; rfl
  rw [if_neg c1] at hkd
  rw [if_neg c1, if_pos rfl, m_in_b (lo := 48) (hi := 57) (by decide) (by decide) (by omega)]
  simp only [z_be]
  by_cases c2 : 48 ≤ tp a ∧ tp a ≤ 57
  · rw [if_pos c2] at hkd
    rw [if_pos c2, z_f1, z_bst_eq, z_bst_eq]
    have K2 : m_N τ (z_put (z_put τ 0 28 2) 0 29 0) := (m_N.rf.put (by omega) (by omega)).put (by omega) (by omega)
    obtain ⟨σ2, i1, i2, i3, i3', i4, i5⟩ := m_dg (a := a) (ln - a) a 200 (z_put (z_put τ 0 28 2) 0 29 0) rfl (by omega) (by omega) (hT2.fr K2) (by rw [z_put_eq, z_upd_ne (by omega), z_put_eq, z_upd_ne (by omega), r6]) (by rw [z_put_eq, z_upd_ne (by omega), z_put_eq, z_upd_ne (by omega), r7]) (Nat.le_refl a) (fun j h1 h2 => absurd h2 (by omega)) (by rw [z_put_eq, z_upd_eq]; unfold t_vv; rw [if_pos rfl]; rfl) (by rw [z_put_eq, z_upd_ne (by omega), z_put_eq, z_upd_ne (by omega), r0])
    have e3 : t_rn tp ln 48 57 (ln - a) a = t_dg tp ln a := rfl
    rw [e3] at i4 i5
    by_cases c3 : 2 < t_dg tp ln a - a
    · rw [if_pos c3] at hkd
      exact ⟨σ2, i1, (K1.tr K2).tr i2, bad _ hkd (i4 c3).1 (i4 c3).2⟩
    · rw [if_neg c3] at hkd
      obtain ⟨w1, w2, w3⟩ := i5 c3
      refine ⟨σ2, i1, (K1.tr K2).tr i2, ok _ (by omega) w1 i3 ?_ ?_ (fun _ => ?_)⟩
      · rw [w2]; unfold t_en; rw [if_neg (by omega), if_pos hkd, hab]
      · rw [i3', z_put_eq, z_upd_ne (by omega), z_put_eq, z_upd_eq, hkd]; rfl
      · rw [w3]; unfold t_vl; rw [hab]
  rw [if_neg c2] at hkd
  rw [if_neg c2, if_pos rfl, z_bst_eq]
  unfold f_X7_next_260
  by_cases c3 : tp a = 59
  · rw [if_pos c3] at hkd
    rw [if_pos (show nI (tp a) = (59 : Int32) by rw [c3]; rfl), m_needs1, z_be]
    dsimp only
    rw [z_bst_eq]
    refine ⟨_, rfl, (K1.put (by omega) (by omega)).put (by omega) (by omega), ok _ (by omega) ?_ ?_ ?_ ?_ (fun q => by omega)⟩
    · rw [z_put_eq, z_upd_ne (by omega), z_put_eq, z_upd_ne (by omega), r0]
    · rw [z_put_eq, z_upd_ne (by omega), z_put_eq, z_upd_ne (by omega), r7]
    · rw [z_put_eq, z_upd_eq, z_put_eq, z_upd_ne (by omega), r6]; unfold t_en; rw [if_neg (by omega), if_neg (by omega), if_pos hkd, hab]; exact nI_1 a
    · rw [z_put_eq, z_upd_ne (by omega), z_put_eq, z_upd_eq, hkd]; rfl
  · rw [if_neg c3] at hkd
    rw [if_neg (show ¬ nI (tp a) = (59 : Int32) by rw [show (59 : Int32) = nI 59 from rfl, zn_eq (by omega) (by omega)]; exact c3), m_needs0 1 (by rw [z_put_eq, z_upd_ne (by omega), r0]), z_be]
    dsimp only
    rw [z_bst_eq]
    refine ⟨_, rfl, (((K1.put (by omega) (by omega)).put (by omega) (by omega)).put (by omega) (by omega)).put (by omega) (by omega), bad _ hkd ?_ ?_⟩
    · rw [z_put_eq, z_upd_ne (by omega), z_put_eq, z_upd_ne (by omega), z_put_eq, z_upd_eq]
    · rw [z_put_eq, z_upd_ne (by omega), z_put_eq, z_upd_eq, z_put_eq, z_upd_ne (by omega), r7]
end TK
