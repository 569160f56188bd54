/-! ===== the text: all its lines; text ===== -/
section TB
variable {σ σ' σ'' σX σM : z_St} {tp : Nat → Nat} {ln : Nat} {n k q hI hC : Nat} {sy : z_Sy} {a : Nat → Nat} {H : Int}
theorem z_tloop : ∀ (N p F F' x2 : Nat) (x1 : Int32) (σX σM : z_St) (n k q : Nat) (sy : z_Sy) (a : Nat → Nat) (hI hC : Nat) (H : Int), ln - p < N → N ≤ F → N ≤ F' → x2 ≤ p → p ≤ ln → x_T σX tp ln → m_T σM tp ln → σX 27 3 = 0 → σX 27 7 = nI p → m_Z tp ln σM (t_lk tp ln (0, 0, p)) → d_V n k q sy a hI hC H → d_X n k q sy a hI hC σX → d_M n k q sy a hI hC H σM → ∃ (f pl : Nat) (l l' : Int32) (σX' σM' : z_St), f_X3_readTape_8 F x1 (nI x2) σX = f_X3_readTape_65 l σX' ∧ f_X7_text_20 F' x1 σM = f_X7_text_44 l' σM' ∧ x_Q σX σX' ∧ σX' 27 2 = σX 27 2 ∧ m_Q σM σM' ∧ f ≤ 6 ∧ σX' 27 3 = nI f ∧ σM' 0 30 = nI f ∧ (f ≠ 0 → σX' 27 6 = nI pl ∧ σM' 0 31 = nI pl) ∧ (f = 0 → l = l' ∧ σM' 0 27 = nI ln ∧ ∃ (n k q : Nat) (sy : z_Sy) (a : Nat → Nat) (hI hC : Nat) (H : Int), d_V n k q sy a hI hC H ∧ d_X n k q sy a hI hC σX' ∧ d_M n k q sy a hI hC H σM') := by
  intro N
  induction N with
  | zero => intro p F F' x2 x1 σX σM n k q sy a hI hC H h0; exact absurd h0 (by omega)
  | succ N ih =>
    intro p F F' x2 x1 σX σM n k q sy a hI hC H h0 hF hF' hx2 hp hTX hTM h3 h7 hZ dV dX dM
    obtain ⟨F, rfl⟩ : ∃ G, F = G + 1 := ⟨F - 1, by omega⟩
    obtain ⟨F', rfl⟩ : ∃ G, F' = G + 1 := ⟨F' - 1, by omega⟩
    have h160 := hTX.1
    obtain ⟨σ1, g1, g2, g3, g4, g5⟩ := x_next hTX hp h7
    rw [f_X3_readTape_8, f_X7_text_20, if_neg (show ¬ (160 : Int32) < nI x2 from nI_nlt (a := 160) (b := x2) (by omega) (by omega)), g1]
    simp only [z_be]
    have ex2 : nI x2 + 1 = nI (x2 + 1) := nI_1 x2
    by_cases k4 : t_kd tp ln p = 4
    · obtain ⟨u1, u2⟩ := g4 k4
      have n3 : ¬ σ1 27 3 = 0 := by rw [u1]; decide
      have elk : t_lk tp ln (0, 0, p) = (1, t_st tp ln p, p) := by unfold t_lk; rw [if_pos rfl, if_pos k4]
      rw [elk] at hZ
      have z30 : σM 0 30 = nI 1 := hZ.2.1
      have z31 : σM 0 31 = nI (t_st tp ln p) := hZ.2.2.1 (by show (1 : Nat) ≠ 0; omega)
      unfold f_X3_readTape_41
      rw [if_neg n3, if_neg n3, if_neg (show ¬ σM 0 30 = 0 by rw [z30]; decide)]
      exact ⟨1, t_st tp ln p, x1, x1, σ1, σM, rfl, rfl, g2.kn.qq, g2.2 2 (by omega), m_Q.rf, by omega, u1, z30, fun _ => ⟨u2, z31⟩, fun h => absurd h (by omega)⟩
    · obtain ⟨u1, u2, u3⟩ := g5 k4
      have e3 : σ1 27 3 = 0 := by rw [u1, h3]
      have elk : t_lk tp ln (0, 0, p) = (0, 0, p) := by unfold t_lk; rw [if_pos rfl, if_neg k4]
      rw [elk] at hZ
      have z30 : σM 0 30 = 0 := hZ.2.1
      have z28 : σM 0 28 = nI (t_kd tp ln p) := (hZ.2.2.2 rfl).2.2.2.2.1
      have z27 : σM 0 27 = nI (t_st tp ln p) := (hZ.2.2.2 rfl).2.2.1
      have hkl := t_kd_le (tp := tp) (ln := ln) p
      rw [if_pos e3, if_pos z30]
      by_cases k0 : t_kd tp ln p = 0
      · have e8 : σ1 27 8 = 3 := by rw [u3, k0]; rfl
        have hln : t_st tp ln p = ln := by
          have := (t_kd_0 hp).mp k0
          have := t_st_le (tp := tp) hp
          omega
        unfold f_X3_readTape_41
        rw [if_pos e8, if_pos e3, if_pos e8, if_pos (show σM 0 28 = 0 by rw [z28, k0]; rfl)]
        exact ⟨0, 0, x1, x1, σ1, σM, rfl, rfl, g2.kn.qq, g2.2 2 (by omega), m_Q.rf, by omega, e3, z30, fun h => absurd rfl h, fun _ => ⟨rfl, by rw [z27, hln], n, k, q, sy, a, hI, hC, H, dV, dX.fr g2.kn, dM⟩⟩
      · have n8 : ¬ σ1 27 8 = 3 := by
          rw [u3]; intro e
          exact k0 (t_xk_inj (i := t_kd tp ln p) (j := 0) (by omega) (by omega) e)
        obtain ⟨S, σX', σM', l1, l2, l3, l4, l5, l6, l7, l8⟩ := z_line dV (dX.fr g2.kn) dM (hTX.fr g2) hTM hp k0 k4 e3 u2 u3 g3 hZ
        rw [if_neg n8, if_neg (show ¬ σM 0 28 = 0 by rw [z28]; exact nI_ne0 (by omega) (by omega)), l1, l2]
        simp only [z_be]
        unfold f_X3_readTape_41
        have hst1 : ¬ ln ≤ t_st tp ln p := fun q => k0 ((t_kd_0 hp).mpr q)
        have hst2 := t_st_ge (tp := tp) (ln := ln) p
        by_cases cS : S.1 = 0
        · obtain ⟨s1, s2, s3, n', k', q', sy', a', hI', hC', H', dV', dX', dM'⟩ := l8 cS
          obtain ⟨f0, pl0, p0⟩ := S
          have f00 : f0 = 0 := cS
          subst f00
          have elk2 : t_lk tp ln (0, pl0, p0) = t_lk tp ln (0, 0, p0) ∨ t_kd tp ln p0 ≠ 4 := by
            by_cases c : t_kd tp ln p0 = 4
            · left; unfold t_lk; rw [if_pos rfl, if_pos c, if_pos rfl, if_pos c]
            · right; exact c
          have hZ' : m_Z tp ln σM' (t_lk tp ln (0, 0, p0)) := by
            rcases elk2 with e | e
            · rw [← e]; exact l7
            · have e1 : t_lk tp ln (0, pl0, p0) = (0, pl0, p0) := by unfold t_lk; rw [if_pos rfl, if_neg e]
              have e2 : t_lk tp ln (0, 0, p0) = (0, 0, p0) := by unfold t_lk; rw [if_pos rfl, if_neg e]
              rw [e1] at l7
              rw [e2]
              exact ⟨l7.1, l7.2.1, fun h => absurd rfl h, l7.2.2.2⟩
          have t3 : σX' 27 3 = 0 := l6.2.1
          have t7 : σX' 27 7 = nI p0 := (l6.2.2.2 rfl).2
          have q1 : p < p0 := s1
          have q2 : p0 ≤ ln := s2
          rw [if_pos t3, if_neg (show ¬ σX' 27 8 = 3 by rw [s3]; decide), ex2]
          have hTX' : x_T σX' tp ln := by
            unfold x_T
            rw [l4, l3.1 28 (by omega), g2.2 2 (by omega), g2.1 28 (by omega)]; exact hTX
          obtain ⟨f, pl, l, l', τX, τM, r1, r2, r3, r4, r5, r6, r7, r8, r9, r10⟩ := ih p0 F F' (x2 + 1) (x1 + 1) σX' σM' n' k' q' sy' a' hI' hC' H' (by omega) (by omega) (by omega) (by omega) q2 hTX' (hTM.qq l5) t3 t7 hZ' dV' dX' dM'
          exact ⟨f, pl, l, l', τX, τM, r1, r2, (g2.kn.qq.tr l3).tr r3, by rw [r4, l4, g2.2 2 (by omega)], l5.tr r5, r6, r7, r8, r9, r10⟩
        · have hSle := l6.1
          have n3 : ¬ σX' 27 3 = 0 := by rw [l6.2.1]; exact nI_ne0 (by omega) (by omega)
          obtain ⟨F', rfl⟩ : ∃ G, F' = G + 1 := ⟨F' - 1, by omega⟩
          rw [t_lk_f cS] at l7
          rw [if_neg n3, f_X7_text_20, if_neg (show ¬ σM' 0 30 = 0 by rw [l7.2.1]; exact nI_ne0 (by omega) (by omega))]
          exact ⟨S.1, S.2.1, x1 + 1, x1 + 1, σX', σM', rfl, rfl, g2.kn.qq.tr l3, by rw [l4, g2.2 2 (by omega)], l5, hSle, l6.2.1, l7.2.1, fun _ => ⟨l6.2.2.1 cS, l7.2.2.1 cS⟩, fun h => absurd h cS⟩
/-! all of whom the story tells are known -/
theorem x_kn30 (hx : x_S σ 30 k q sy) (hq : q ≤ 6) (hv : ∀ j, j < q → sy 3 j ≤ 3) (hn : n ≤ 4) : ∀ (m j F : Nat), q = j + m → m < F → ((∀ i, j ≤ i → i < q → sy 3 i < n) → f_X5_knowsAllOf_30 30 F (nI n) (nI j) σ = some (1, σ)) ∧ (¬ (∀ i, j ≤ i → i < q → sy 3 i < n) → f_X5_knowsAllOf_30 30 F (nI n) (nI j) σ = some (0, σ)) := by
  intro m
  induction m with
  | zero =>
    intro j F hm hF
    obtain ⟨F, rfl⟩ : ∃ F', F = F' + 1 := ⟨F - 1, by omega⟩
    rw [f_X5_knowsAllOf_30, hx.2.1, if_pos (show nI q ≤ nI j from nI_le (by omega) (by omega))]
    exact ⟨fun _ => rfl, fun h => absurd (fun i h1 h2 => absurd h1 (by omega)) h⟩
  | succ m ih =>
    intro j F hm hF
    obtain ⟨F, rfl⟩ : ∃ F', F = F' + 1 := ⟨F - 1, by omega⟩
    have ej : nI j + 1 = nI (j + 1) := nI_1 j
    have hvj := hv j (by omega)
    obtain ⟨i1, i2⟩ := ih (j + 1) F (by omega) (by omega)
    rw [f_X5_knowsAllOf_30, hx.2.1, if_neg (show ¬ nI q ≤ nI j from nI_ge (by omega) (by omega)), z_gd_nI (by omega) (by omega), zn_cl (by omega), (hx.2.2.2 j (by omega)).1, ej]
    by_cases c : sy 3 j < n
    · rw [if_pos (nI_lt c (by omega))]
      refine ⟨fun h => i1 (fun i h1 h2 => h i (by omega) h2), fun h => i2 (fun h' => h (fun i h1 h2 => ?_))⟩
      by_cases e : i = j
      · subst e; exact c
      · exact h' i (by omega) h2
    · rw [if_neg (nI_nlt (by omega) (by omega))]
      exact ⟨fun h => absurd (h j (by omega) (by omega)) c, fun _ => rfl⟩
theorem x_kn2 (hx : x_S σ 30 k q sy) (hk : k ≤ 6) (hq : q ≤ 6) (hv0 : ∀ j, j < k → sy 0 j ≤ 3) (hv : ∀ j, j < q → sy 3 j ≤ 3) (hn : n ≤ 4) : ∀ (m j F : Nat), k = j + m → m < F → (((∀ i, j ≤ i → i < k → sy 0 i < n) ∧ (∀ i, 0 ≤ i → i < q → sy 3 i < n)) → f_X5_knowsAllOf_2 30 F (nI n) (nI j) σ = some (1, σ)) ∧ (¬ ((∀ i, j ≤ i → i < k → sy 0 i < n) ∧ (∀ i, 0 ≤ i → i < q → sy 3 i < n)) → f_X5_knowsAllOf_2 30 F (nI n) (nI j) σ = some (0, σ)) := by
  intro m
  induction m with
  | zero =>
    intro j F hm hF
    obtain ⟨F, rfl⟩ : ∃ F', F = F' + 1 := ⟨F - 1, by omega⟩
    obtain ⟨i1, i2⟩ := x_kn30 hx hq hv hn q 0 200 (by omega) (by omega)
    rw [f_X5_knowsAllOf_2, hx.1, if_pos (show nI k ≤ nI j from nI_le (by omega) (by omega))]
    exact ⟨fun h => i1 h.2, fun h => i2 (fun h' => h ⟨fun i h1 h2 => absurd h1 (by omega), h'⟩)⟩
  | succ m ih =>
    intro j F hm hF
    obtain ⟨F, rfl⟩ : ∃ F', F = F' + 1 := ⟨F - 1, by omega⟩
    have ej : nI j + 1 = nI (j + 1) := nI_1 j
    have hvj := hv0 j (by omega)
    obtain ⟨i1, i2⟩ := ih (j + 1) F (by omega) (by omega)
    rw [f_X5_knowsAllOf_2, hx.1, if_neg (show ¬ nI k ≤ nI j from nI_ge (by omega) (by omega)), z_gd_nI (by omega) (by omega), zn_cl (by omega), (hx.2.2.1 j (by omega)).1, ej]
    by_cases c : sy 0 j < n
    · rw [if_pos (nI_lt c (by omega))]
      refine ⟨fun h => i1 ⟨fun i h1 h2 => h.1 i (by omega) h2, h.2⟩, fun h => i2 (fun h' => h ⟨fun i h1 h2 => ?_, h'.2⟩)⟩
      by_cases e : i = j
      · subst e; exact c
      · exact h'.1 i (by omega) h2
    · rw [if_neg (nI_nlt (by omega) (by omega))]
      exact ⟨fun h => absurd (h.1 j (by omega) (by omega)) c, fun _ => rfl⟩
/-! the reference keeps its draft -/
theorem m_kd2 : ∀ (m i F : Nat) (σ : z_St), 45 = i + m → m < F → (∀ j, j < i → σ 1 j = σ 10 j) → ∃ σ', f_X7_keepDraft_2 F (nI i) σ = f_X7_keepDraft_52 200 0 (z_put (z_put (z_put σ' 0 3 (σ 0 13)) 0 4 (σ 0 14)) 0 5 (σ 0 15)) ∧ (∀ c, c ≠ 1 → σ' c = σ c) ∧ (∀ j, j < 45 → σ' 1 j = σ 10 j) ∧ (∀ j, 45 ≤ j → σ' 1 j = σ 1 j) := by
  intro m
  induction m with
  | zero =>
    intro i F σ hm hF h1
    obtain ⟨F, rfl⟩ : ∃ F', F = F' + 1 := ⟨F - 1, by omega⟩
    refine ⟨σ, ?_, fun _ _ => rfl, fun j hj => h1 j (by omega), fun _ _ => rfl⟩
    rw [f_X7_keepDraft_2, if_pos (show (45 : Int32) ≤ nI i from nI_le (a := 45) (by omega) (by omega)), z_bst_eq, z_bst_eq, z_bst_eq]
    rw [show z_put σ 0 3 (σ 0 13) 0 14 = σ 0 14 by rw [z_put_eq, z_upd_ne (by omega)], show z_put (z_put σ 0 3 (σ 0 13)) 0 4 (σ 0 14) 0 15 = σ 0 15 by rw [z_put_eq, z_upd_ne (by omega), z_put_eq, z_upd_ne (by omega)]]
  | succ m ih =>
    intro i F σ hm hF h1
    obtain ⟨F, rfl⟩ : ∃ F', F = F' + 1 := ⟨F - 1, by omega⟩
    have ei : nI i + 1 = nI (i + 1) := nI_1 i
    obtain ⟨σ', g1, g2, g3, g4⟩ := ih (i + 1) F (z_put σ 1 i (σ 10 i)) (by omega) (by omega) (fun j hj => by
      rw [z_put_eq, z_put_ne (by omega)]
      by_cases e : j = i
      · subst e; rw [z_upd_eq]
      · rw [z_upd_ne (by omega)]; exact h1 j (by omega))
    refine ⟨σ', ?_, fun d hd => by rw [g2 d hd, z_put_ne hd], fun j hj => by rw [g3 j hj, z_put_ne (by omega)], fun j hj => by rw [g4 j hj, z_put_eq, z_upd_ne (by omega)]⟩
    rw [f_X7_keepDraft_2, if_neg (show ¬ (45 : Int32) ≤ nI i from nI_ge (b := 45) (by omega) (by omega)), z_gd_nI (by omega) (by omega), z_gd_nI (by omega) (by omega), zn_cl (by omega), z_bst_eq, ei, g1, z_put_ne (by omega)]
theorem m_kd52 (hk : k ≤ 6) : ∀ (m i F : Nat) (σ : z_St), k = i + m → m < F → σ 0 4 = nI k → (∀ j, j < i → σ 4 j = σ 11 j ∧ σ 5 j = σ 12 j ∧ σ 6 j = σ 13 j) → ∃ σ', f_X7_keepDraft_52 F (nI i) σ = f_X7_keepDraft_104 200 0 σ' ∧ (∀ c, (c < 4 ∨ 6 < c) → σ' c = σ c) ∧ (∀ j, j < k → σ' 4 j = σ 11 j ∧ σ' 5 j = σ 12 j ∧ σ' 6 j = σ 13 j) := by
  intro m
  induction m with
  | zero =>
    intro i F σ hm hF h4 h1
    obtain ⟨F, rfl⟩ : ∃ F', F = F' + 1 := ⟨F - 1, by omega⟩
    refine ⟨σ, ?_, fun _ _ => rfl, fun j hj => h1 j (by omega)⟩
    rw [f_X7_keepDraft_52, h4, if_pos (show nI k ≤ nI i from nI_le (by omega) (by omega))]
  | succ m ih =>
    intro i F σ hm hF h4 h1
    obtain ⟨F, rfl⟩ : ∃ F', F = F' + 1 := ⟨F - 1, by omega⟩
    have ei : nI i + 1 = nI (i + 1) := nI_1 i
    obtain ⟨σ', g1, g2, g3⟩ := ih (i + 1) F (z_put (z_put (z_put σ 4 i (σ 11 i)) 5 i (σ 12 i)) 6 i (σ 13 i)) (by omega) (by omega) (by simp (disch := omega) only [z_put_ne]; exact h4) (fun j hj => by
      by_cases e : j = i
      · subst e
        simp (disch := omega) only [z_put_ne, z_put_eq, z_upd_eq]
        exact ⟨trivial, trivial, trivial⟩
      · simp (disch := omega) only [z_put_ne, z_put_eq, z_upd_ne]; exact h1 j (by omega))
    refine ⟨σ', ?_, fun d hd => by rw [g2 d hd]; simp (disch := omega) only [z_put_ne], fun j hj => by have := g3 j hj; simp (disch := omega) only [z_put_ne] at this; exact this⟩
    rw [f_X7_keepDraft_52, h4, if_neg (show ¬ nI k ≤ nI i from nI_ge (by omega) (by omega))]
    simp (disch := omega) only [z_gd_nI, zn_cl, z_bst_eq, z_put_ne]
    rw [ei]; exact g1
theorem m_kd104 (hk : k ≤ 6) : ∀ (m i F : Nat) (σ : z_St), k = i + m → m < F → σ 0 5 = nI k → (∀ j, j < i → σ 7 j = σ 14 j ∧ σ 8 j = σ 15 j ∧ σ 9 j = σ 16 j) → ∃ σ', f_X7_keepDraft_104 F (nI i) σ = some (0, z_put (z_put σ' 3 0 0) 3 1 0) ∧ (∀ c, (c < 7 ∨ 9 < c) → σ' c = σ c) ∧ (∀ j, j < k → σ' 7 j = σ 14 j ∧ σ' 8 j = σ 15 j ∧ σ' 9 j = σ 16 j) := by
  intro m
  induction m with
  | zero =>
    intro i F σ hm hF h4 h1
    obtain ⟨F, rfl⟩ : ∃ F', F = F' + 1 := ⟨F - 1, by omega⟩
    refine ⟨σ, ?_, fun _ _ => rfl, fun j hj => h1 j (by omega)⟩
    rw [f_X7_keepDraft_104, h4, if_pos (show nI k ≤ nI i from nI_le (by omega) (by omega)), show vp_nar .boolean (0 : Int32) = 0 from rfl, z_bst_eq, z_bst_eq]
  | succ m ih =>
    intro i F σ hm hF h4 h1
    obtain ⟨F, rfl⟩ : ∃ F', F = F' + 1 := ⟨F - 1, by omega⟩
    have ei : nI i + 1 = nI (i + 1) := nI_1 i
    obtain ⟨σ', g1, g2, g3⟩ := ih (i + 1) F (z_put (z_put (z_put σ 7 i (σ 14 i)) 8 i (σ 15 i)) 9 i (σ 16 i)) (by omega) (by omega) (by simp (disch := omega) only [z_put_ne]; exact h4) (fun j hj => by
      by_cases e : j = i
      · subst e
        simp (disch := omega) only [z_put_ne, z_put_eq, z_upd_eq]
        exact ⟨trivial, trivial, trivial⟩
      · simp (disch := omega) only [z_put_ne, z_put_eq, z_upd_ne]; exact h1 j (by omega))
    refine ⟨σ', ?_, fun d hd => by rw [g2 d hd]; simp (disch := omega) only [z_put_ne], fun j hj => by have := g3 j hj; simp (disch := omega) only [z_put_ne] at this; exact this⟩
    rw [f_X7_keepDraft_104, h4, if_neg (show ¬ nI k ≤ nI i from nI_ge (by omega) (by omega))]
    simp (disch := omega) only [z_gd_nI, zn_cl, z_bst_eq, z_put_ne]
    rw [ei]; exact g1
theorem m_keep (hk : k ≤ 6) (hq : q ≤ 6) (hD : d_M n k q sy a hI hC H σ) : ∃ σ', f_X7_keepDraft σ = some (0, σ') ∧ m_S σ' n k q sy ∧ (∀ j, j < 45 → σ' 1 j = nI (a j)) ∧ (∀ j, 45 ≤ j → σ' 1 j = σ 1 j) ∧ (σ' 3 0 = 0 ∧ σ' 3 1 = 0) ∧ (∀ c, 10 ≤ c → σ' c = σ c) ∧ (∀ j, 6 ≤ j → σ' 0 j = σ 0 j) := by
  obtain ⟨d1, d2, d3, d4, d5, d6, d7, d8⟩ := hD
  obtain ⟨σ1, g1, g2, g3, g4⟩ := m_kd2 45 0 200 σ (by omega) (by omega) (fun j hj => absurd hj (by omega))
  rw [d1, d2, d3] at g1
  obtain ⟨σ2, i1, i2, i3⟩ := m_kd52 hk k 0 200 (z_put (z_put (z_put σ1 0 3 (nI n)) 0 4 (nI k)) 0 5 (nI q)) (by omega) (by omega) (by rw [z_put_eq, z_upd_ne (by omega), z_put_eq, z_upd_eq]) (fun j hj => absurd hj (by omega))
  have z0 : ∀ j, σ2 0 j = z_put (z_put (z_put σ1 0 3 (nI n)) 0 4 (nI k)) 0 5 (nI q) 0 j := fun j => by rw [i2 0 (by omega)]
  obtain ⟨σ3, j1, j2, j3⟩ := m_kd104 hq q 0 200 σ2 (by omega) (by omega) (by rw [z0, z_put_eq, z_upd_eq]) (fun j hj => absurd hj (by omega))
  refine ⟨z_put (z_put σ3 3 0 0) 3 1 0, ?_, ⟨?_, ?_, ?_, fun i hi => ?_, fun i hi => ?_⟩, fun j hj => ?_, fun j hj => ?_, ⟨?_, ?_⟩, fun c hc => ?_, fun j hj => ?_⟩
  · unfold f_X7_keepDraft
    rw [show f_X7_keepDraft_2 200 0 σ = _ from g1, show f_X7_keepDraft_52 200 0 (z_put (z_put (z_put σ1 0 3 (nI n)) 0 4 (nI k)) 0 5 (nI q)) = _ from i1, show f_X7_keepDraft_104 200 0 σ2 = _ from j1]
  · rw [z_put_ne (by omega), z_put_ne (by omega), j2 0 (by omega), z0, z_put_eq, z_upd_ne (by omega), z_put_eq, z_upd_ne (by omega), z_put_eq, z_upd_eq]
  · rw [z_put_ne (by omega), z_put_ne (by omega), j2 0 (by omega), z0, z_put_eq, z_upd_ne (by omega), z_put_eq, z_upd_eq]
  · rw [z_put_ne (by omega), z_put_ne (by omega), j2 0 (by omega), z0, z_put_eq, z_upd_eq]
  · obtain ⟨u1, u2, u3⟩ := i3 i hi
    simp (disch := omega) only [z_put_ne] at u1 u2 u3
    simp (disch := omega) only [z_put_ne]
    rw [j2 4 (by omega), j2 5 (by omega), j2 6 (by omega), u1, u2, u3, g2 11 (by omega), g2 12 (by omega), g2 13 (by omega)]
    exact d7 i hi
  · obtain ⟨u1, u2, u3⟩ := j3 i hi
    simp (disch := omega) only [z_put_ne]
    rw [u1, u2, u3, i2 14 (by omega), i2 15 (by omega), i2 16 (by omega)]
    simp (disch := omega) only [z_put_ne]
    rw [g2 14 (by omega), g2 15 (by omega), g2 16 (by omega)]
    exact d8 i hi
  · simp (disch := omega) only [z_put_ne]
    rw [j2 1 (by omega), i2 1 (by omega)]
    simp (disch := omega) only [z_put_ne]
    rw [g3 j hj, d6 j hj]
  · simp (disch := omega) only [z_put_ne]
    rw [j2 1 (by omega), i2 1 (by omega)]
    simp (disch := omega) only [z_put_ne]
    rw [g4 j hj]
  · rw [z_put_eq, z_upd_ne (by omega), z_put_eq, z_upd_eq]
  · rw [z_put_eq, z_upd_eq]
  · simp (disch := omega) only [z_put_ne]
    rw [j2 c (by omega), i2 c (by omega)]
    simp (disch := omega) only [z_put_ne]
    rw [g2 c (by omega)]
  · simp (disch := omega) only [z_put_ne]
    rw [j2 0 (by omega), z0, z_put_eq, z_upd_ne (by omega), z_put_eq, z_upd_ne (by omega), z_put_eq, z_upd_ne (by omega), g2 0 (by omega)]
/-! the beginnings -/
def d_a0 : Nat → Nat := fun j => if j = 23 then 1 else if j = 24 then 20 else 0
theorem m_fd : ∀ (m i F : Nat) (σ : z_St), 45 = i + m → m < F → (∀ j, j < i → σ 10 j = 0) → ∃ σ', f_X7_firstDraft_2 F (nI i) σ = some (0, σ') ∧ (∀ c, c ≠ 0 → c ≠ 10 → σ' c = σ c) ∧ (∀ j, j < 45 → σ' 10 j = nI (d_a0 j)) ∧ (σ' 0 13 = 0 ∧ σ' 0 14 = 0 ∧ σ' 0 15 = 0 ∧ σ' 0 22 = 0 ∧ σ' 0 23 = -4) ∧ (∀ j, (j < 13 ∨ (16 ≤ j ∧ j < 22) ∨ 24 ≤ j) → σ' 0 j = σ 0 j) := by
  intro m
  induction m with
  | zero =>
    intro i F σ hm hF h1
    obtain ⟨F, rfl⟩ : ∃ F', F = F' + 1 := ⟨F - 1, by omega⟩
    rw [f_X7_firstDraft_2, if_pos (show (45 : Int32) ≤ nI i from nI_le (a := 45) (by omega) (by omega))]
    simp only [z_bst_eq]
    refine ⟨_, rfl, fun c hc hc2 => ?_, fun j hj => ?_, ⟨?_, ?_, ?_, ?_, ?_⟩, fun j hj => ?_⟩
    · simp (disch := omega) only [z_put_ne]
    · simp (disch := omega) only [z_put_ne]
      rw [z_put_eq]
      unfold d_a0
      by_cases e24 : j = 24
      · subst e24; rw [z_upd_eq, if_neg (by omega), if_pos rfl]; rfl
      · rw [z_upd_ne e24, z_put_eq]
        by_cases e23 : j = 23
        · subst e23; rw [z_upd_eq, if_pos rfl]; rfl
        · rw [z_upd_ne e23, if_neg e23, if_neg e24, h1 j (by omega)]; rfl
    all_goals simp (disch := omega) only [z_put_ne, z_put_eq, z_upd_eq, z_upd_ne]
  | succ m ih =>
    intro i F σ hm hF h1
    obtain ⟨F, rfl⟩ : ∃ F', F = F' + 1 := ⟨F - 1, by omega⟩
    have ei : nI i + 1 = nI (i + 1) := nI_1 i
    obtain ⟨σ', g1, g2, g3, g4, g5⟩ := ih (i + 1) F (z_put σ 10 i 0) (by omega) (by omega) (fun j hj => by
      rw [z_put_eq]
      by_cases e : j = i
      · subst e; rw [z_upd_eq]
      · rw [z_upd_ne (by omega)]; exact h1 j (by omega))
    refine ⟨σ', ?_, fun c hc hc2 => by rw [g2 c hc hc2, z_put_ne hc2], g3, g4, fun j hj => by rw [g5 j hj, z_put_ne (by omega)]⟩
    rw [f_X7_firstDraft_2, if_neg (show ¬ (45 : Int32) ≤ nI i from nI_ge (b := 45) (by omega) (by omega)), z_gd_nI (by omega) (by omega), zn_cl (by omega), z_bst_eq, ei]
    exact g1
end TB
