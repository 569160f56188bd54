/-! ===== the text: numbers, semicolons, words ===== -/
def t_num (tp : Nat → Nat) (ln hi : Nat) (s : z_P) : z_P := if s.1 = 0 then (if t_kd tp ln s.2.2 = 4 then (1, t_st tp ln s.2.2, s.2.2) else if t_kd tp ln s.2.2 = 2 then (if hi < t_vl tp ln s.2.2 then (3, t_st tp ln s.2.2, s.2.2) else (0, 0, t_en tp ln s.2.2)) else (2, t_st tp ln s.2.2, s.2.2)) else s
def t_semi (tp : Nat → Nat) (ln : Nat) (s : z_P) : z_P := if s.1 = 0 then (if t_kd tp ln s.2.2 = 4 then (1, t_st tp ln s.2.2, s.2.2) else if t_kd tp ln s.2.2 = 3 then (0, 0, t_en tp ln s.2.2) else (2, t_st tp ln s.2.2, s.2.2)) else s
def t_nums (tp : Nat → Nat) (ln : Nat) : List Nat → z_P → z_P
  | [], s => s
  | h :: hs, s => t_nums tp ln hs (t_num tp ln h s)
def t_v (tp : Nat → Nat) (ln : Nat) : List Nat → z_P → Nat → Nat
  | [], _, _ => 0
  | _ :: _, s, 0 => t_vl tp ln s.2.2
  | h :: hs, s, i + 1 => t_v tp ln hs (t_num tp ln h s) i
section NU
variable {σ : z_St} {tp : Nat → Nat} {ln : Nat} {s : z_P}
def t_ok (ln : Nat) (s : z_P) : Prop := s.1 = 0 → s.2.2 ≤ ln
theorem t_num_f {hi : Nat} (h : s.1 ≠ 0) : t_num tp ln hi s = s := by rw [t_num, if_neg h]
theorem t_semi_f (h : s.1 ≠ 0) : t_semi tp ln s = s := by rw [t_semi, if_neg h]
theorem t_nums_f : ∀ (hs : List Nat), s.1 ≠ 0 → t_nums tp ln hs s = s
  | [], _ => rfl
  | h :: hs, q => by rw [t_nums, t_num_f q, t_nums_f hs q]
theorem t_lk_f (h : s.1 ≠ 0) : t_lk tp ln s = s := by rw [t_lk, if_neg h]
theorem t_lk_num {hi : Nat} (h : (t_lk tp ln s).1 ≠ 0) : t_lk tp ln (t_num tp ln hi s) = t_lk tp ln s := by
  by_cases c : s.1 = 0
  · unfold t_lk at h ⊢
    rw [if_pos c] at h ⊢
    by_cases k : t_kd tp ln s.2.2 = 4
    · have en : t_num tp ln hi s = (1, t_st tp ln s.2.2, s.2.2) := by unfold t_num; rw [if_pos c, if_pos k]
      rw [en, if_neg (show ¬ ((1, t_st tp ln s.2.2, s.2.2) : z_P).1 = 0 from fun q => absurd (show (1 : Nat) = 0 from q) (by omega)), if_pos k]
    · rw [if_neg k] at h; exact absurd c h
  · rw [t_num_f c]
theorem t_lk_semi (h : (t_lk tp ln s).1 ≠ 0) : t_lk tp ln (t_semi tp ln s) = t_lk tp ln s := by
  by_cases c : s.1 = 0
  · unfold t_lk at h ⊢
    rw [if_pos c] at h ⊢
    by_cases k : t_kd tp ln s.2.2 = 4
    · have en : t_semi tp ln s = (1, t_st tp ln s.2.2, s.2.2) := by unfold t_semi; rw [if_pos c, if_pos k]
      rw [en, if_neg (show ¬ ((1, t_st tp ln s.2.2, s.2.2) : z_P).1 = 0 from fun q => absurd (show (1 : Nat) = 0 from q) (by omega)), if_pos k]
    · rw [if_neg k] at h; exact absurd c h
  · rw [t_semi_f c]
theorem t_lk_nums : ∀ (hs : List Nat) (s : z_P), (t_lk tp ln s).1 ≠ 0 → t_lk tp ln (t_nums tp ln hs s) = t_lk tp ln s
  | [], _, _ => rfl
  | h :: hs, s, q => by
    rw [t_nums, t_lk_nums hs _ (by rw [t_lk_num q]; exact q), t_lk_num q]
theorem t_num_ok {hi : Nat} (h : t_ok ln s) : t_ok ln (t_num tp ln hi s) := by
  unfold t_num
  by_cases c : s.1 = 0
  · rw [if_pos c]
    split
    · exact fun q => absurd (show (1 : Nat) = 0 from q) (by omega)
    · split
      · split
        · exact fun q => absurd (show (3 : Nat) = 0 from q) (by omega)
        · exact fun _ => t_en_le (h c)
      · exact fun q => absurd (show (2 : Nat) = 0 from q) (by omega)
  · rw [if_neg c]; exact h
theorem t_semi_ok (h : t_ok ln s) : t_ok ln (t_semi tp ln s) := by
  unfold t_semi
  by_cases c : s.1 = 0
  · rw [if_pos c]
    split
    · exact fun q => absurd (show (1 : Nat) = 0 from q) (by omega)
    · split
      · exact fun _ => t_en_le (h c)
      · exact fun q => absurd (show (2 : Nat) = 0 from q) (by omega)
  · rw [if_neg c]; exact h
theorem t_num_0 {hi : Nat} (h : (t_num tp ln hi s).1 = 0) : s.1 = 0 ∧ t_kd tp ln s.2.2 = 2 ∧ t_vl tp ln s.2.2 ≤ hi ∧ t_num tp ln hi s = (0, 0, t_en tp ln s.2.2) := by
  unfold t_num at h ⊢
  by_cases c : s.1 = 0
  · rw [if_pos c] at h ⊢
    by_cases k4 : t_kd tp ln s.2.2 = 4
    · rw [if_pos k4] at h; exact absurd (show (1 : Nat) = 0 from h) (by omega)
    · rw [if_neg k4] at h ⊢
      by_cases k2 : t_kd tp ln s.2.2 = 2
      · rw [if_pos k2] at h ⊢
        by_cases c3 : hi < t_vl tp ln s.2.2
        · rw [if_pos c3] at h; exact absurd (show (3 : Nat) = 0 from h) (by omega)
        · rw [if_neg c3]; exact ⟨c, k2, by omega, rfl⟩
      · rw [if_neg k2] at h; exact absurd (show (2 : Nat) = 0 from h) (by omega)
  · rw [if_neg c] at h; exact absurd h c
theorem t_semi_0 (h : (t_semi tp ln s).1 = 0) : s.1 = 0 ∧ t_kd tp ln s.2.2 = 3 ∧ t_semi tp ln s = (0, 0, t_en tp ln s.2.2) := by
  unfold t_semi at h ⊢
  by_cases c : s.1 = 0
  · rw [if_pos c] at h ⊢
    by_cases k4 : t_kd tp ln s.2.2 = 4
    · rw [if_pos k4] at h; exact absurd (show (1 : Nat) = 0 from h) (by omega)
    · rw [if_neg k4] at h ⊢
      by_cases k2 : t_kd tp ln s.2.2 = 3
      · rw [if_pos k2]; exact ⟨c, k2, rfl⟩
      · rw [if_neg k2] at h; exact absurd (show (2 : Nat) = 0 from h) (by omega)
  · rw [if_neg c] at h; exact absurd h c
theorem t_nums_0 : ∀ (hs : List Nat) (s : z_P), (t_nums tp ln hs s).1 = 0 → s.1 = 0
  | [], _, h => h
  | h :: hs, s, q => (t_num_0 (t_nums_0 hs _ q)).1
/-! the reference -/
theorem m_next0 {f : Nat} (h0 : σ 0 30 = nI f) (hf : f ≠ 0) (hf6 : f ≤ 6) : f_X7_next σ = some (0, σ) := by
  unfold f_X7_next
  rw [h0, if_neg (show ¬ nI f ≤ (0 : Int32) from nI_ge (a := 0) (by omega) (by omega))]
theorem m_num {hi : Nat} (hhi : hi ≤ 99) (hT : m_T σ tp ln) (hs : t_ok ln s) (hZ : m_Z tp ln σ (t_lk tp ln s)) : ∃ v σ', f_X7_readNumber 0 (nI hi) σ = some (v, σ') ∧ m_N σ σ' ∧ m_Z tp ln σ' (t_lk tp ln (t_num tp ln hi s)) ∧ ((t_num tp ln hi s).1 = 0 → v = nI (t_vl tp ln s.2.2)) := by
  by_cases c : (t_lk tp ln s).1 = 0
  · have c1 : s.1 = 0 := by
      by_cases e : s.1 = 0
      · exact e
      · rw [t_lk_f e] at c; exact c
    have k4 : t_kd tp ln s.2.2 ≠ 4 := fun k => by
      unfold t_lk at c; rw [if_pos c1, if_pos k] at c; exact absurd (show (1 : Nat) = 0 from c) (by omega)
    have el : t_lk tp ln s = s := by unfold t_lk; rw [if_pos c1, if_neg k4]
    rw [el] at hZ
    obtain ⟨-, z0, -, z1⟩ := hZ
    obtain ⟨zp, -, z27, z26, z28, z29⟩ := z1 c1
    rw [c1] at z0
    have z0' : σ 0 30 = 0 := z0
    have hsl := t_st_le (tp := tp) zp
    have h160 := hT.1
    have hkl : t_kd tp ln s.2.2 ≤ 4 := by
      unfold t_kd
      split
      · omega
      · split
        · omega
        · split
          · split <;> omega
          · split <;> omega
    unfold f_X7_readNumber
    rw [if_pos z0', z28]
    by_cases k2 : t_kd tp ln s.2.2 = 2
    · rw [if_pos (show nI (t_kd tp ln s.2.2) = (2 : Int32) by rw [k2]; rfl), m_needs1, z_be]
      dsimp only
      unfold f_X7_readNumber_25
      have hv : t_vl tp ln s.2.2 < 2147483648 := by
        have hd : t_dg tp ln (t_st tp ln s.2.2) ≤ ln := t_rn_le _ _ hsl
        have hnl : ¬ ln ≤ t_st tp ln s.2.2 := fun q => by have := (t_kd_0 zp).mpr q; omega
        have t1 := hT.2.1 (t_st tp ln s.2.2) (by omega)
        unfold t_vl t_vv
        split
        · omega
        · split
          · omega
          · have t2 : t_st tp ln s.2.2 + 1 < ln := by
              have hup := t_en_up zp (by omega) k4
              have : t_en tp ln s.2.2 = t_dg tp ln (t_st tp ln s.2.2) := by unfold t_en; rw [if_neg (by omega), if_pos k2]
              omega
            have t3 := hT.2.1 _ t2
            omega
      rw [if_pos z0', z29 k2, m_in_b (lo := 0) (hi := hi) (by decide) (by rw [Int32.toInt_toInt64, nI_toInt (by omega)]) hv]
      simp only [z_be]
      by_cases c3 : hi < t_vl tp ln s.2.2
      · rw [if_neg (show ¬ (0 ≤ t_vl tp ln s.2.2 ∧ t_vl tp ln s.2.2 ≤ hi) by omega), m_needs0 3 z0', z_be]
        dsimp only
        unfold f_X7_readNumber_49
        have e30 : z_put (z_put σ 0 30 3) 0 31 (σ 0 27) 0 30 = nI 3 := by rw [z_put_eq, z_upd_ne (by omega), z_put_eq, z_upd_eq]; rfl
        rw [if_neg (show ¬ z_put (z_put σ 0 30 3) 0 31 (σ 0 27) 0 30 = 0 by rw [e30]; decide), m_next0 e30 (by omega) (by omega), z_be]
        dsimp only
        have en : t_num tp ln hi s = (3, t_st tp ln s.2.2, s.2.2) := by unfold t_num; rw [if_pos c1, if_neg k4, if_pos k2, if_pos c3]
        rw [en]
        refine ⟨_, _, rfl, (m_N.rf.put (by omega) (by omega)).put (by omega) (by omega), ⟨by show 3 ≤ 6; omega, e30, fun _ => ?_, fun q => absurd (show (3 : Nat) = 0 from q) (by omega)⟩, fun q => absurd (show (3 : Nat) = 0 from q) (by omega)⟩
        rw [z_put_eq, z_upd_eq, z27]; rfl
      · rw [if_pos (show 0 ≤ t_vl tp ln s.2.2 ∧ t_vl tp ln s.2.2 ≤ hi by omega), m_needs1, z_be]
        dsimp only
        unfold f_X7_readNumber_49
        obtain ⟨σ1, g1, g2, g3⟩ := m_next hT (t_en_le zp) z26 z0'
        rw [if_pos z0', g1, z_be]
        dsimp only
        have en : t_num tp ln hi s = (0, 0, t_en tp ln s.2.2) := by unfold t_num; rw [if_pos c1, if_neg k4, if_pos k2, if_neg c3]
        rw [en]
        exact ⟨_, σ1, rfl, g2, g3, fun _ => z29 k2⟩
    · rw [if_neg (show ¬ nI (t_kd tp ln s.2.2) = (2 : Int32) by rw [show (2 : Int32) = nI 2 from rfl, zn_eq (by omega) (by omega)]; exact k2), m_needs0 2 z0', z_be]
      dsimp only
      unfold f_X7_readNumber_25 f_X7_readNumber_49
      have e30 : z_put (z_put σ 0 30 2) 0 31 (σ 0 27) 0 30 = nI 2 := by rw [z_put_eq, z_upd_ne (by omega), z_put_eq, z_upd_eq]; rfl
      have n30 : ¬ z_put (z_put σ 0 30 2) 0 31 (σ 0 27) 0 30 = 0 := by rw [e30]; decide
      rw [if_neg n30, if_neg n30, m_next0 e30 (by omega) (by omega), z_be]
      dsimp only
      have en : t_num tp ln hi s = (2, t_st tp ln s.2.2, s.2.2) := by unfold t_num; rw [if_pos c1, if_neg k4, if_neg k2]
      rw [en]
      refine ⟨_, _, rfl, (m_N.rf.put (by omega) (by omega)).put (by omega) (by omega), ⟨by show 2 ≤ 6; omega, e30, fun _ => ?_, fun q => absurd (show (2 : Nat) = 0 from q) (by omega)⟩, fun q => absurd (show (2 : Nat) = 0 from q) (by omega)⟩
      rw [z_put_eq, z_upd_eq, z27]; rfl
  · have n30 : ¬ σ 0 30 = 0 := by rw [hZ.2.1]; exact nI_ne0 (by omega) (by have := hZ.1; omega)
    refine ⟨0, σ, ?_, m_N.rf, by rw [t_lk_num c]; exact hZ, fun q => ?_⟩
    · unfold f_X7_readNumber f_X7_readNumber_25 f_X7_readNumber_49
      rw [if_neg n30, if_neg n30, if_neg n30, m_next0 hZ.2.1 c hZ.1, z_be]
    · obtain ⟨q1, q2, -, -⟩ := t_num_0 q
      refine absurd ?_ c
      unfold t_lk; rw [if_pos q1, if_neg (by omega)]; exact q1
/-- after the numbers of a line -/
theorem m_semi (hT : m_T σ tp ln) (hs : t_ok ln s) (hZ : m_Z tp ln σ (t_lk tp ln s)) : ∃ σ', (if (σ 0 30) = (0 : Int32) then (if (σ 0 28) = (3 : Int32) then (f_X7_needs (1 : Int32) (2 : Int32) σ).bind fun r9 => (f_X7_next r9.2).bind fun r10 => some ((0 : Int32), r10.2) else (f_X7_needs (0 : Int32) (2 : Int32) σ).bind fun r7 => (f_X7_next r7.2).bind fun r8 => some ((0 : Int32), r8.2)) else (f_X7_next σ).bind fun r6 => some ((0 : Int32), r6.2)) = some ((0 : Int32), σ') ∧ m_N σ σ' ∧ m_Z tp ln σ' (t_lk tp ln (t_semi tp ln s)) := by
  by_cases c : (t_lk tp ln s).1 = 0
  · have c1 : s.1 = 0 := by
      by_cases e : s.1 = 0
      · exact e
      · rw [t_lk_f e] at c; exact c
    have k4 : t_kd tp ln s.2.2 ≠ 4 := fun k => by
      unfold t_lk at c; rw [if_pos c1, if_pos k] at c; exact absurd (show (1 : Nat) = 0 from c) (by omega)
    have el : t_lk tp ln s = s := by unfold t_lk; rw [if_pos c1, if_neg k4]
    rw [el] at hZ
    obtain ⟨-, z0, -, z1⟩ := hZ
    obtain ⟨zp, -, z27, z26, z28, z29⟩ := z1 c1
    rw [c1] at z0
    have z0' : σ 0 30 = 0 := z0
    have hkl : t_kd tp ln s.2.2 ≤ 4 := by
      unfold t_kd
      split
      · omega
      · split
        · omega
        · split
          · split <;> omega
          · split <;> omega
    rw [if_pos z0', z28]
    by_cases k3 : t_kd tp ln s.2.2 = 3
    · rw [if_pos (show nI (t_kd tp ln s.2.2) = (3 : Int32) by rw [k3]; rfl), m_needs1, z_be]
      dsimp only
      obtain ⟨σ1, g1, g2, g3⟩ := m_next hT (t_en_le zp) z26 z0'
      rw [g1, z_be]
      have en : t_semi tp ln s = (0, 0, t_en tp ln s.2.2) := by unfold t_semi; rw [if_pos c1, if_neg k4, if_pos k3]
      rw [en]
      exact ⟨σ1, rfl, g2, g3⟩
    · rw [if_neg (show ¬ nI (t_kd tp ln s.2.2) = (3 : Int32) by rw [show (3 : Int32) = nI 3 from rfl, zn_eq (by omega) (by omega)]; exact k3), m_needs0 2 z0', z_be]
      dsimp only
      have e30 : z_put (z_put σ 0 30 2) 0 31 (σ 0 27) 0 30 = nI 2 := by rw [z_put_eq, z_upd_ne (by omega), z_put_eq, z_upd_eq]; rfl
      rw [m_next0 e30 (by omega) (by omega), z_be]
      have en : t_semi tp ln s = (2, t_st tp ln s.2.2, s.2.2) := by unfold t_semi; rw [if_pos c1, if_neg k4, if_neg k3]
      rw [en]
      refine ⟨_, rfl, (m_N.rf.put (by omega) (by omega)).put (by omega) (by omega), ⟨by show 2 ≤ 6; omega, e30, fun _ => ?_, fun q => absurd (show (2 : Nat) = 0 from q) (by omega)⟩⟩
      dsimp only
      rw [z_put_eq, z_upd_eq, z27]; rfl
  · have n30 : ¬ σ 0 30 = 0 := by rw [hZ.2.1]; exact nI_ne0 (by omega) (by have := hZ.1; omega)
    refine ⟨σ, ?_, m_N.rf, by rw [t_lk_semi c]; exact hZ⟩
    rw [if_neg n30, m_next0 hZ.2.1 c hZ.1, z_be]
/-! the class -/
theorem t_kd_le (p : Nat) : t_kd tp ln p ≤ 4 := by
  unfold t_kd
  split
  · omega
  · split
    · omega
    · split
      · split <;> omega
      · split <;> omega
theorem t_xk_inj {i j : Nat} (hi : i ≤ 3) (hj : j ≤ 3) (h : t_xk i = t_xk j) : i = j := by
  have e : ∀ i, i < 4 → ∀ j, j < 4 → t_xk i = t_xk j → i = j := by decide
  exact e i (by omega) j (by omega) h
theorem x_expect {p κ : Nat} (hκ : κ ≤ 3) (hT : x_T σ tp ln) (hp : p ≤ ln) (h7 : σ 27 7 = nI p) (h3 : σ 27 3 = 0) : ∃ σ', f_X3_expect (t_xk κ) σ = some (0, σ') ∧ x_K σ σ' ∧ x_Z ln σ' (if t_kd tp ln p = 4 then (1, t_st tp ln p, p) else if t_kd tp ln p = κ then (0, 0, t_en tp ln p) else (2, t_st tp ln p, p)) ∧ (t_kd tp ln p = κ → σ' 27 8 = t_xk κ ∧ σ' 27 9 = nI (t_st tp ln p)) := by
  obtain ⟨σ1, g1, g2, g3, g4, g5⟩ := x_next hT hp h7
  have hk := t_kd_le (tp := tp) (ln := ln) p
  unfold f_X3_expect
  rw [g1, z_be]
  dsimp only
  by_cases k4 : t_kd tp ln p = 4
  · obtain ⟨u1, u2⟩ := g4 k4
    rw [if_neg (show ¬ σ1 27 3 = 0 by rw [u1]; decide)]
    refine ⟨σ1, rfl, g2, ?_, fun q => by omega⟩
    rw [if_pos k4]
    exact ⟨by show 1 ≤ 6; omega, u1, fun _ => u2, fun q => absurd (show (1 : Nat) = 0 from q) (by omega)⟩
  · obtain ⟨u1, u2, u3⟩ := g5 k4
    rw [if_pos (show σ1 27 3 = 0 by rw [u1, h3])]
    by_cases kk : t_kd tp ln p = κ
    · rw [if_pos (show σ1 27 8 = t_xk κ by rw [u3, kk])]
      refine ⟨σ1, rfl, g2, ?_, fun _ => ⟨by rw [u3, kk], g3⟩⟩
      rw [if_neg k4, if_pos kk]
      exact ⟨by show 0 ≤ 6; omega, by rw [u1, h3]; rfl, fun q => absurd rfl q, fun _ => ⟨t_en_le hp, u2⟩⟩
    · rw [if_neg (show ¬ σ1 27 8 = t_xk κ from fun q => kk (t_xk_inj (by omega) hκ (u3.symm.trans q)))]
      obtain ⟨σ2, j1, j2, j3, j4, j5⟩ := x_refuse (f := 2) g3
      rw [show f_X3_refuse 2 σ1 = _ from j1, z_be]
      refine ⟨σ2, rfl, g2.tr j4, ?_, fun q => absurd q kk⟩
      rw [if_neg k4, if_neg kk]
      exact ⟨by show 2 ≤ 6; omega, j2, fun _ => j3, fun q => absurd (show (2 : Nat) = 0 from q) (by omega)⟩
theorem x_num_loop {hi a e : Nat} (h7 : σ 27 7 = nI e) (hT : x_T σ tp ln) (he : e ≤ ln) (h2 : e ≤ a + 2) (hd : ∀ j, a ≤ j → j < e → 48 ≤ tp j ∧ tp j ≤ 57) : ∀ (m i F : Nat), e = i + m → m < F → a ≤ i → f_X3_readNumber_21 F (nI hi) (nI (t_vv tp a i)) (nI i) σ = (if nI (t_vv tp a e) ≤ nI hi then some (nI (t_vv tp a e), σ) else (f_X3_refuse (3 : Int32) σ).bind fun r2 => some (nI (t_vv tp a e), r2.2)) := by
  have h160 := hT.1
  intro m
  induction m with
  | zero =>
    intro i F hm hF hai
    obtain ⟨F, rfl⟩ : ∃ F', F = F' + 1 := ⟨F - 1, by omega⟩
    have ee : e = i := by omega
    subst ee
    rw [f_X3_readNumber_21, h7, if_pos (show nI e ≤ nI e from nI_le (by omega) (by omega))]
  | succ m ih =>
    intro i F hm hF hai
    obtain ⟨F, rfl⟩ : ∃ F', F = F' + 1 := ⟨F - 1, by omega⟩
    have ei : nI i + 1 = nI (i + 1) := nI_1 i
    have hdi := hd i hai (by omega)
    rw [f_X3_readNumber_21, h7, if_neg (show ¬ nI e ≤ nI i from nI_ge (by omega) (by omega)), z_gd_nI (by omega) (by omega), zn_cl (by omega), hT.2.2.2 i (by omega), z_bi_eq, ei, show (10 : Int32) = nI 10 from rfl, zn_mul, zn_add, show (48 : Int32) = nI 48 from rfl, zn_sub (by omega)]
    have ev : t_vv tp a i * 10 + tp i - 48 = t_vv tp a (i + 1) := by
      unfold t_vv
      by_cases c3 : i = a
      · subst c3; rw [if_pos rfl, if_neg (by omega), if_pos rfl]; omega
      · have c4 : i = a + 1 := by omega
        subst c4
        have := hd a (by omega) (by omega)
        rw [if_neg (by omega), if_pos rfl, if_neg (by omega), if_neg (by omega)]; omega
    rw [ev]
    exact ih (i + 1) F (by omega) (by omega) (by omega)
theorem x_num {hi p : Nat} (hhi : hi ≤ 99) (hT : x_T σ tp ln) (hZ : x_Z ln σ (0, 0, p)) : ∃ v σ', f_X3_readNumber (nI hi) σ = some (v, σ') ∧ x_K σ σ' ∧ x_Z ln σ' (t_num tp ln hi (0, 0, p)) ∧ ((t_num tp ln hi (0, 0, p)).1 = 0 → v = nI (t_vl tp ln p)) := by
  have z3 : σ 27 3 = 0 := hZ.2.1
  have hp : p ≤ ln := (hZ.2.2.2 rfl).1
  have h7 : σ 27 7 = nI p := (hZ.2.2.2 rfl).2
  have h160 := hT.1
  obtain ⟨σ1, g1, g2, g3, g4⟩ := x_expect (κ := 2) (by omega) hT hp h7 z3
  unfold f_X3_readNumber
  rw [show f_X3_expect 1 σ = _ from g1, z_be]
  dsimp only
  by_cases k4 : t_kd tp ln p = 4
  · rw [if_pos k4] at g3
    have en : t_num tp ln hi (0, 0, p) = (1, t_st tp ln p, p) := by unfold t_num; rw [if_pos rfl, if_pos k4]
    rw [if_neg (show ¬ σ1 27 3 = 0 by rw [show σ1 27 3 = nI 1 from g3.2.1]; decide), en]
    exact ⟨0, σ1, rfl, g2, g3, fun q => absurd (show (1 : Nat) = 0 from q) (by omega)⟩
  rw [if_neg k4] at g3
  by_cases k2 : t_kd tp ln p = 2
  · rw [if_pos k2] at g3
    obtain ⟨g8, g9⟩ := g4 k2
    have q3 : σ1 27 3 = 0 := g3.2.1
    have q7 : σ1 27 7 = nI (t_en tp ln p) := (g3.2.2.2 rfl).2
    have hsl := t_st_le (tp := tp) hp
    have een : t_en tp ln p = t_dg tp ln (t_st tp ln p) := by unfold t_en; rw [if_neg (by omega), if_pos k2]
    have hup := t_en_up hp (by omega) k4
    have hd2 : ¬ 2 < t_dg tp ln (t_st tp ln p) - t_st tp ln p := fun q => by
      have hk := k2
      unfold t_kd at hk
      split at hk
      · omega
      · split at hk
        · omega
        · split at hk
          · omega
          · split at hk <;> omega
    have hloop := x_num_loop (hi := hi) (a := t_st tp ln p) (e := t_en tp ln p) q7 (hT.fr g2) (t_en_le hp) (by omega) (fun j h1 h2 => t_rn_in _ _ j h1 (by rw [een] at h2; exact h2)) (t_en tp ln p - t_st tp ln p) (t_st tp ln p) 200 (by omega) (by have := t_en_le (tp := tp) hp; omega) (Nat.le_refl _)
    rw [if_pos (show σ1 27 3 = 0 from q3), g9]
    rw [show t_vv tp (t_st tp ln p) (t_st tp ln p) = 0 by unfold t_vv; rw [if_pos rfl]] at hloop
    rw [show f_X3_readNumber_21 200 (nI hi) 0 (nI (t_st tp ln p)) σ1 = _ from hloop, show t_vv tp (t_st tp ln p) (t_en tp ln p) = t_vl tp ln p by unfold t_vl; rw [een]]
    have hv : t_vl tp ln p < 2147483648 := by
      have t1 := hT.2.1 (t_st tp ln p) (by have := t_en_le (tp := tp) hp; omega)
      unfold t_vl t_vv
      split
      · omega
      · split
        · omega
        · have t3 := hT.2.1 (t_st tp ln p + 1) (by have := t_en_le (tp := tp) hp; omega)
          omega
    by_cases c3 : hi < t_vl tp ln p
    · have en : t_num tp ln hi (0, 0, p) = (3, t_st tp ln p, p) := by unfold t_num; rw [if_pos rfl, if_neg k4, if_pos k2, if_pos c3]
      rw [if_neg (show ¬ nI (t_vl tp ln p) ≤ nI hi from nI_ge c3 hv), en]
      obtain ⟨σ2, j1, j2, j3, j4, j5⟩ := x_refuse (f := 3) g9
      rw [show f_X3_refuse 3 σ1 = _ from j1, z_be]
      exact ⟨_, σ2, rfl, g2.tr j4, ⟨by show 3 ≤ 6; omega, j2, fun _ => j3, fun q => absurd (show (3 : Nat) = 0 from q) (by omega)⟩, fun q => absurd (show (3 : Nat) = 0 from q) (by omega)⟩
    · have en : t_num tp ln hi (0, 0, p) = (0, 0, t_en tp ln p) := by unfold t_num; rw [if_pos rfl, if_neg k4, if_pos k2, if_neg c3]
      rw [if_pos (show nI (t_vl tp ln p) ≤ nI hi from nI_le (by omega) (by omega)), en]
      exact ⟨_, σ1, rfl, g2, ⟨by show 0 ≤ 6; omega, q3, fun q => absurd rfl q, fun _ => ⟨t_en_le hp, q7⟩⟩, fun _ => rfl⟩
  · rw [if_neg k2] at g3
    have en : t_num tp ln hi (0, 0, p) = (2, t_st tp ln p, p) := by unfold t_num; rw [if_pos rfl, if_neg k4, if_neg k2]
    rw [if_neg (show ¬ σ1 27 3 = 0 by rw [show σ1 27 3 = nI 2 from g3.2.1]; decide), en]
    exact ⟨0, σ1, rfl, g2, g3, fun q => absurd (show (2 : Nat) = 0 from q) (by omega)⟩
/-- the numbers behind a word, and the semicolon -/
def x_Kn (σ σ' : z_St) : Prop := (∀ c, c ≠ 27 → c ≠ 29 → σ' c = σ c) ∧ (∀ j, (j < 3 ∨ 10 ≤ j) → σ' 27 j = σ 27 j)
theorem x_Kn.rf : x_Kn σ σ := ⟨fun _ _ _ => rfl, fun _ _ => rfl⟩
theorem x_Kn.tr {σ σ' σ'' : z_St} (h : x_Kn σ σ') (h' : x_Kn σ' σ'') : x_Kn σ σ'' := ⟨fun c hc hd => (h'.1 c hc hd).trans (h.1 c hc hd), fun j hj => (h'.2 j hj).trans (h.2 j hj)⟩
theorem x_K.kn {σ' : z_St} (h : x_K σ σ') : x_Kn σ σ' := ⟨fun c hc _ => h.1 c hc, h.2⟩
theorem x_T.frn {σ' : z_St} (h : x_T σ tp ln) (hK : x_Kn σ σ') : x_T σ' tp ln := by
  unfold x_T
  rw [hK.1 28 (by omega) (by omega), hK.2 2 (by omega)]; exact h
theorem x_nums {w : Nat} (hw : w < 8) : ∀ (hs : List Nat) (j F : Nat) (s : z_P) (σ : z_St), hs.length + 1 < F → j + hs.length ≤ 4 → z_k_NUMBERS_OF (nI w) = nI (j + hs.length) → (∀ i, i < hs.length → z_k_BOUNDS (nI w * 4 + nI (j + i)) = nI (hs.getD i 0) ∧ hs.getD i 0 ≤ 99) → t_ok ln s → x_T σ tp ln → x_Z ln σ s → ∃ σ', f_X3_readLine_45 F (nI w) (nI j) σ = f_X3_readLine_98 (nI w) σ' ∧ x_Kn σ σ' ∧ x_Z ln σ' (t_semi tp ln (t_nums tp ln hs s)) ∧ (∀ i, i < j → σ' 29 i = σ 29 i) ∧ ((t_semi tp ln (t_nums tp ln hs s)).1 = 0 → σ' 27 8 = 2 ∧ ∀ i, i < hs.length → σ' 29 (j + i) = nI (t_v tp ln hs s i)) := by
  intro hs
  induction hs with
  | nil =>
    intro j F s σ hF hj hn hb hs hT hZ
    obtain ⟨F, rfl⟩ : ∃ F', F = F' + 1 := ⟨F - 1, by omega⟩
    rw [f_X3_readLine_45, z_gd_nI hw (by omega), hn, if_pos (show nI (j + [].length) ≤ nI j from nI_le (by simp) (by omega))]
    by_cases c : s.1 = 0
    · obtain ⟨f, pl, p⟩ := s
      have c' : f = 0 := c
      subst c'
      have z3 : σ 27 3 = 0 := hZ.2.1
      have hp : p ≤ ln := (hZ.2.2.2 rfl).1
      have h7 : σ 27 7 = nI p := (hZ.2.2.2 rfl).2
      obtain ⟨σ1, g1, g2, g3, g4⟩ := x_expect (κ := 3) (by omega) hT hp h7 z3
      rw [if_pos z3, show f_X3_expect 2 σ = _ from g1, z_be]
      dsimp only
      refine ⟨σ1, rfl, g2.kn, ?_, fun i hi => by rw [g2.1 29 (by omega)], fun q => ?_⟩
      · unfold t_nums t_semi
        rw [if_pos rfl]
        exact g3
      · obtain ⟨-, q2, -⟩ := t_semi_0 q
        exact ⟨(g4 q2).1, fun i hi => absurd hi (by simp)⟩
    · rw [if_neg (show ¬ σ 27 3 = 0 by rw [hZ.2.1]; exact nI_ne0 (by omega) (by have := hZ.1; omega))]
      refine ⟨σ, rfl, x_Kn.rf, ?_, fun _ _ => rfl, fun q => ?_⟩
      · unfold t_nums; rw [t_semi_f c]; exact hZ
      · unfold t_nums at q; rw [t_semi_f c] at q; exact absurd q c
  | cons h hs ih =>
    intro j F s σ hF hj hn hb hs' hT hZ
    have hl : (h :: hs).length = hs.length + 1 := rfl
    rw [hl] at hF hj hn hb
    obtain ⟨F, rfl⟩ : ∃ F', F = F' + 1 := ⟨F - 1, by omega⟩
    have ej : nI j + 1 = nI (j + 1) := nI_1 j
    rw [f_X3_readLine_45, z_gd_nI hw (by omega), hn, if_neg (show ¬ nI (j + (hs.length + 1)) ≤ nI j from nI_ge (by omega) (by omega))]
    by_cases c : s.1 = 0
    · obtain ⟨f, pl, p⟩ := s
      have c' : f = 0 := c
      subst c'
      obtain ⟨b1, b2⟩ := hb 0 (by omega)
      have b1' : z_k_BOUNDS (nI w * 4 + nI j) = nI h := b1
      have b2' : h ≤ 99 := b2
      have hZ' : x_Z ln σ (0, 0, p) := ⟨hZ.1, hZ.2.1, fun q => absurd rfl q, hZ.2.2.2⟩
      have en : t_num tp ln h (0, pl, p) = t_num tp ln h (0, 0, p) := by unfold t_num; rw [if_pos rfl, if_pos rfl]
      obtain ⟨v, σ1, g1, g2, g3, g4⟩ := x_num b2' hT hZ'
      have ebd : nI w * 4 + nI j = nI (w * 4 + j) := by rw [show (4 : Int32) = nI 4 from rfl, zn_mul, zn_add]
      rw [if_pos (show σ 27 3 = 0 from hZ.2.1), ebd, z_gd_nI (by omega) (by omega), ← ebd, b1', g1, z_be]
      dsimp only
      rw [z_gd_nI (by omega) (by omega), zn_cl (by omega), z_bst_eq, ej]
      have K1 : x_Kn σ (z_put σ1 29 j v) := g2.kn.tr ⟨fun c _ hc => z_put_ne hc, fun i _ => by rw [z_put_ne (by omega)]⟩
      have hZ2 : x_Z ln (z_put σ1 29 j v) (t_num tp ln h (0, pl, p)) := by
        rw [en]; unfold x_Z
        rw [z_put_ne (by omega)]; exact g3
      obtain ⟨σ2, i1, i2, i3, i4, i5⟩ := ih (j + 1) F (t_num tp ln h (0, pl, p)) (z_put σ1 29 j v) (by omega) (by omega) (by rw [hn]; congr 1; omega) (fun i hi => by
        have := hb (i + 1) (by omega)
        rw [show j + (i + 1) = j + 1 + i by omega] at this
        exact this) (t_num_ok hs') (hT.frn K1) hZ2
      refine ⟨σ2, i1, K1.tr i2, i3, fun i hi => by rw [i4 i (by omega), z_put_eq, z_upd_ne (by omega), g2.1 29 (by omega)], fun q => ?_⟩
      obtain ⟨u1, u2⟩ := i5 q
      refine ⟨u1, fun i hi => ?_⟩
      rcases Nat.eq_zero_or_pos i with rfl | hp
      · rw [show j + 0 = j from rfl, i4 j (by omega), z_put_eq, z_upd_eq]
        rw [en] at i3
        have t0 : (t_num tp ln h (0, 0, p)).1 = 0 := by
          have := t_nums_0 hs _ (t_semi_0 q).1
          rw [en] at this; exact this
        rw [g4 t0]; rfl
      · obtain ⟨i', rfl⟩ : ∃ i', i = i' + 1 := ⟨i - 1, by omega⟩
        have := u2 i' (by rw [hl] at hi; omega)
        rw [show j + (i' + 1) = j + 1 + i' by omega]
        exact this
    · rw [if_neg (show ¬ σ 27 3 = 0 by rw [hZ.2.1]; exact nI_ne0 (by omega) (by have := hZ.1; omega)), if_neg (show ¬ σ 27 3 = 0 by rw [hZ.2.1]; exact nI_ne0 (by omega) (by have := hZ.1; omega))]
      refine ⟨σ, rfl, x_Kn.rf, ?_, fun _ _ => rfl, fun q => ?_⟩
      · rw [t_nums_f _ c, t_semi_f c]; exact hZ
      · rw [t_nums_f _ c, t_semi_f c] at q; exact absurd q c
end NU
/-! words -/
def t_words : List (List Nat) := [[112, 108, 97, 105, 110], [98, 105, 115, 104, 111, 112], [98, 114, 105, 100, 101], [119, 105, 100, 111, 119], [116, 114, 105, 112], [97, 115, 107, 101, 100], [105, 110, 116, 101, 114, 101, 115, 116], [99, 111, 118, 101, 114]]
def t_wc (o j : Nat) : Nat := (t_words.getD o []).getD j 0
def t_wl (o : Nat) : Nat := (t_words.getD o []).length
def t_ms (tp : Nat → Nat) (a o : Nat) : Nat → Nat → Bool
  | 0, _ => true
  | m + 1, j => decide (tp (a + j) = t_wc o j) && t_ms tp a o m (j + 1)
def t_is (tp : Nat → Nat) (a b o : Nat) : Bool := decide (b - a = t_wl o) && t_ms tp a o (t_wl o) 0
def t_w (tp : Nat → Nat) (a b : Nat) : Nat := if t_is tp a b 0 = true then 0 else if t_is tp a b 1 = true then 1 else if t_is tp a b 2 = true then 2 else if t_is tp a b 3 = true then 3 else if t_is tp a b 4 = true then 4 else if t_is tp a b 5 = true then 5 else if t_is tp a b 6 = true then 6 else if t_is tp a b 7 = true then 7 else 8
theorem t_wlen : ∀ o, o < 8 → z_slen.getD o 0 = t_wl o ∧ t_wl o ≤ 8 := by decide +kernel
theorem t_wch : ∀ o, o < 8 → ∀ j, j < 8 → j < t_wl o → z_ch o (nI j) = nI (t_wc o j) ∧ t_wc o j < 128 := by decide +kernel
section WO
variable {σ : z_St} {tp : Nat → Nat} {ln a b : Nat}
theorem x_word_loop {o : Nat} (ho : o < 8) (hT : x_T σ tp ln) (h9 : σ 27 9 = nI a) (hb : a + t_wl o ≤ ln) : ∀ (m j F : Nat), t_wl o = j + m → m < F → f_X3_isWord_20 o F (nI j) σ = some (if t_ms tp a o m j = true then 1 else 0, σ) := by
  obtain ⟨l1, l2⟩ := t_wlen o ho
  have h160 := hT.1
  intro m
  induction m with
  | zero =>
    intro j F hm hF
    obtain ⟨F, rfl⟩ : ∃ F', F = F' + 1 := ⟨F - 1, by omega⟩
    rw [f_X3_isWord_20]
    unfold f_J0_length_8abf5
    rw [z_be]
    dsimp only
    rw [l1, if_pos (show nI (t_wl o) ≤ nI j from nI_le (by omega) (by omega))]
    rfl
  | succ m ih =>
    intro j F hm hF
    obtain ⟨F, rfl⟩ : ∃ F', F = F' + 1 := ⟨F - 1, by omega⟩
    have ej : nI j + 1 = nI (j + 1) := nI_1 j
    obtain ⟨c1, c2⟩ := t_wch o ho j (by omega) (by omega)
    have t1 := hT.2.1 (a + j) (by omega)
    rw [f_X3_isWord_20]
    unfold f_J0_length_8abf5 f_J0_charAt_5068e
    simp only [z_be, l1, h9, zn_add]
    rw [if_neg (show ¬ nI (t_wl o) ≤ nI j from nI_ge (by omega) (by omega)), z_gd_nI (by omega) (by omega), z_gd_nI (by omega) (by omega)]
    simp only [z_be]
    rw [zn_cl (by omega), hT.2.2.2 (a + j) (by omega), c1, ej, ih (j + 1) F (by omega) (by omega), t_ms]
    by_cases c : tp (a + j) = t_wc o j
    · rw [if_pos (by rw [c])]
      simp only [c, decide_true, Bool.true_and]
    · rw [if_neg (by rw [zn_eq (by omega) (by omega)]; exact c)]
      simp only [c, decide_false, Bool.false_and, Bool.false_eq_true, if_false]
theorem x_isWord {o : Nat} (ho : o < 8) (hT : x_T σ tp ln) (h9 : σ 27 9 = nI a) (h7 : σ 27 7 = nI b) (hab : a ≤ b) (hb : b ≤ ln) : f_X3_isWord o σ = some (if t_is tp a b o = true then 1 else 0, σ) := by
  obtain ⟨l1, l2⟩ := t_wlen o ho
  have h160 := hT.1
  unfold f_X3_isWord
  rw [show f_J0_length_8abf5 o σ = some (nI (t_wl o), σ) by unfold f_J0_length_8abf5; rw [l1]]
  simp only [z_be, h9, h7, zn_sub hab]
  unfold t_is
  by_cases c : b - a = t_wl o
  · rw [if_pos (by rw [c]), show f_X3_isWord_20 o 200 0 σ = _ from x_word_loop ho hT h9 (by omega) (t_wl o) 0 200 (by omega) (by omega)]
    simp only [c, decide_true, Bool.true_and]
  · rw [if_neg (by rw [zn_eq (by omega) (by omega)]; exact fun e => c e.symm)]
    simp only [c, decide_false, Bool.false_and, Bool.false_eq_true, if_false]
theorem x_word (hT : x_T σ tp ln) (h9 : σ 27 9 = nI a) (h7 : σ 27 7 = nI b) (hab : a ≤ b) (hb : b ≤ ln) : f_X3_wordRead σ = some (if t_w tp a b = 8 then -1 else nI (t_w tp a b), σ) := by
  have step : ∀ {o : Nat} (A B : Int32 × z_St → Option (Int32 × z_St)), o < 8 → ((f_X3_isWord o σ).bind fun r => if r.1 = 0 then A r else B r) = if t_is tp a b o = true then B (1, σ) else A (0, σ) := by
    intro o A B ho
    rw [x_isWord ho hT h9 h7 hab hb, z_be]
    dsimp only
    by_cases c : t_is tp a b o = true
    · rw [if_pos c, if_pos c, z_f1]
    · rw [if_neg c, if_neg c, if_pos rfl]
  unfold f_X3_wordRead t_w
  rw [step _ _ (by omega)]
  by_cases c0 : t_is tp a b 0 = true
  · simp only [if_pos c0]; rfl
  simp only [if_neg c0]
  rw [step _ _ (by omega)]
  by_cases c1 : t_is tp a b 1 = true
  · simp only [if_pos c1]; rfl
  simp only [if_neg c1]
  rw [step _ _ (by omega)]
  by_cases c2 : t_is tp a b 2 = true
  · simp only [if_pos c2]; rfl
  simp only [if_neg c2]
  rw [step _ _ (by omega)]
  by_cases c3 : t_is tp a b 3 = true
  · simp only [if_pos c3]; rfl
  simp only [if_neg c3]
  rw [step _ _ (by omega)]
  by_cases c4 : t_is tp a b 4 = true
  · simp only [if_pos c4]; rfl
  simp only [if_neg c4]
  rw [step _ _ (by omega)]
  by_cases c5 : t_is tp a b 5 = true
  · simp only [if_pos c5]; rfl
  simp only [if_neg c5]
  rw [step _ _ (by omega)]
  by_cases c6 : t_is tp a b 6 = true
  · simp only [if_pos c6]; rfl
  simp only [if_neg c6]
  rw [step _ _ (by omega)]
  by_cases c7 : t_is tp a b 7 = true
  · simp only [if_pos c7]; rfl
  simp only [if_neg c7]
  rfl
/-! the reference's words -/
theorem m_is {l c0 c1 c2 c3 : Nat} (hT : m_T σ tp ln) (h7 : σ 0 27 = nI a) (h6 : σ 0 26 = nI b) (hab : a ≤ b) (hb : b ≤ ln) (hl : 4 ≤ l) (hl2 : l ≤ 8) (hc : c0 < 128 ∧ c1 < 128 ∧ c2 < 128 ∧ c3 < 128) : f_X7_is (nI l) (nI c0) (nI c1) (nI c2) (nI c3) σ = some (if b - a = l ∧ tp a = c0 ∧ tp (a + 1) = c1 ∧ tp (a + 2) = c2 ∧ tp (a + 3) = c3 then 1 else 0, σ) := by
  have h160 := hT.1
  unfold f_X7_is
  rw [h6, h7, zn_sub hab]
  by_cases c : b - a = l
  · have t0 := hT.2.1 a (by omega)
    have t1 := hT.2.1 (a + 1) (by omega)
    have t2 := hT.2.1 (a + 2) (by omega)
    have t3 := hT.2.1 (a + 3) (by omega)
    rw [if_pos (by rw [c]), m_byte hT (by omega), if_neg (by omega), z_be]
    dsimp only
    by_cases d0 : tp a = c0
    · rw [if_pos (by rw [d0]), h7, show nI a + (1 : Int32) = nI (a + 1) from nI_1 a, m_byte hT (by omega), if_neg (by omega), z_be]
      dsimp only
      by_cases d1 : tp (a + 1) = c1
      · rw [if_pos (by rw [d1]), h7, show nI a + (2 : Int32) = nI (a + 2) from zn_add a 2, m_byte hT (by omega), if_neg (by omega), z_be]
        dsimp only
        by_cases d2 : tp (a + 2) = c2
        · rw [if_pos (by rw [d2]), h7, show nI a + (3 : Int32) = nI (a + 3) from zn_add a 3, m_byte hT (by omega), if_neg (by omega), z_be]
          dsimp only
          by_cases d3 : tp (a + 3) = c3
          · rw [if_pos (by rw [d3]), if_pos ⟨c, d0, d1, d2, d3⟩]
          · rw [if_neg (by rw [zn_eq (by omega) (by omega)]; exact d3), if_neg (fun q => d3 q.2.2.2.2)]
        · rw [if_neg (by rw [zn_eq (by omega) (by omega)]; exact d2), if_neg (fun q => d2 q.2.2.2.1)]
      · rw [if_neg (by rw [zn_eq (by omega) (by omega)]; exact d1), if_neg (fun q => d1 q.2.2.1)]
    · rw [if_neg (by rw [zn_eq (by omega) (by omega)]; exact d0), if_neg (fun q => d0 q.2.1)]
  · rw [if_neg (by rw [zn_eq (by omega) (by omega)]; exact c), if_neg (fun q => c q.1)]
theorem m_ends1 {c4 : Nat} (hT : m_T σ tp ln) (h7 : σ 0 27 = nI a) (hb : a + 5 ≤ ln) (hc : c4 < 128) : f_X7_ends (nI c4) 0 0 0 σ = some (if tp (a + 4) = c4 then 1 else 0, σ) := by
  have h160 := hT.1
  have t4 := hT.2.1 (a + 4) (by omega)
  unfold f_X7_ends f_X7_ends_32 f_X7_ends_51
  rw [h7, show nI a + (4 : Int32) = nI (a + 4) from zn_add a 4, m_byte hT (by omega), if_neg (by omega), z_be]
  dsimp only
  rw [if_pos (show (0 : Int32) = 0 from rfl), if_pos (show (0 : Int32) = 0 from rfl), if_pos (show (0 : Int32) = 0 from rfl)]
  by_cases d : tp (a + 4) = c4
  · rw [if_pos (by rw [d]), if_pos d]
  · rw [if_neg (by rw [zn_eq (by omega) (by omega)]; exact d), if_neg d]
theorem m_ends2 {c4 c5 : Nat} (hT : m_T σ tp ln) (h7 : σ 0 27 = nI a) (hb : a + 6 ≤ ln) (hc : c4 < 128) (hc5 : c5 < 128) (h50 : c5 ≠ 0) : f_X7_ends (nI c4) (nI c5) 0 0 σ = some (if tp (a + 4) = c4 ∧ tp (a + 5) = c5 then 1 else 0, σ) := by
  have h160 := hT.1
  have t4 := hT.2.1 (a + 4) (by omega)
  have t5 := hT.2.1 (a + 5) (by omega)
  unfold f_X7_ends f_X7_ends_32 f_X7_ends_51
  rw [h7, show nI a + (4 : Int32) = nI (a + 4) from zn_add a 4, m_byte hT (by omega), if_neg (by omega), z_be]
  dsimp only
  by_cases d : tp (a + 4) = c4
  · rw [if_pos (by rw [d]), if_neg (show ¬ nI c5 = (0 : Int32) from nI_ne0 (by omega) (by omega)), h7, show nI a + (5 : Int32) = nI (a + 5) from zn_add a 5, m_byte hT (by omega), if_neg (by omega), z_be]
    dsimp only
    rw [if_pos (show (0 : Int32) = 0 from rfl), if_pos (show (0 : Int32) = 0 from rfl)]
    by_cases d5 : tp (a + 5) = c5
    · rw [if_pos (by rw [d5]), if_pos ⟨d, d5⟩]
    · rw [if_neg (by rw [zn_eq (by omega) (by omega)]; exact d5), if_neg (fun q => d5 q.2)]
  · rw [if_neg (by rw [zn_eq (by omega) (by omega)]; exact d), if_neg (fun q => d q.1)]
theorem m_ends4 {c4 c5 c6 c7 : Nat} (hT : m_T σ tp ln) (h7 : σ 0 27 = nI a) (hb : a + 8 ≤ ln) (hc : c4 < 128 ∧ c5 < 128 ∧ c6 < 128 ∧ c7 < 128) (h50 : c5 ≠ 0 ∧ c6 ≠ 0 ∧ c7 ≠ 0) : f_X7_ends (nI c4) (nI c5) (nI c6) (nI c7) σ = some (if tp (a + 4) = c4 ∧ tp (a + 5) = c5 ∧ tp (a + 6) = c6 ∧ tp (a + 7) = c7 then 1 else 0, σ) := by
  have h160 := hT.1
  have t4 := hT.2.1 (a + 4) (by omega)
  have t5 := hT.2.1 (a + 5) (by omega)
  have t6 := hT.2.1 (a + 6) (by omega)
  have t7 := hT.2.1 (a + 7) (by omega)
  unfold f_X7_ends f_X7_ends_32 f_X7_ends_51
  rw [h7, show nI a + (4 : Int32) = nI (a + 4) from zn_add a 4, m_byte hT (by omega), if_neg (by omega), z_be]
  dsimp only
  by_cases d : tp (a + 4) = c4
  · rw [if_pos (by rw [d]), if_neg (show ¬ nI c5 = (0 : Int32) from nI_ne0 (by omega) (by omega)), h7, show nI a + (5 : Int32) = nI (a + 5) from zn_add a 5, m_byte hT (by omega), if_neg (by omega), z_be]
    dsimp only
    by_cases d5 : tp (a + 5) = c5
    · rw [if_pos (by rw [d5]), if_neg (show ¬ nI c6 = (0 : Int32) from nI_ne0 (by omega) (by omega)), h7, show nI a + (6 : Int32) = nI (a + 6) from zn_add a 6, m_byte hT (by omega), if_neg (by omega), z_be]
      dsimp only
      by_cases d6 : tp (a + 6) = c6
      · rw [if_pos (by rw [d6]), if_neg (show ¬ nI c7 = (0 : Int32) from nI_ne0 (by omega) (by omega)), h7, show nI a + (7 : Int32) = nI (a + 7) from zn_add a 7, m_byte hT (by omega), if_neg (by omega), z_be]
        dsimp only
        by_cases d7 : tp (a + 7) = c7
        · rw [if_pos (by rw [d7]), if_pos ⟨d, d5, d6, d7⟩]
        · rw [if_neg (by rw [zn_eq (by omega) (by omega)]; exact d7), if_neg (fun q => d7 q.2.2.2)]
      · rw [if_neg (by rw [zn_eq (by omega) (by omega)]; exact d6), if_neg (fun q => d6 q.2.2.1)]
    · rw [if_neg (by rw [zn_eq (by omega) (by omega)]; exact d5), if_neg (fun q => d5 q.2.1)]
  · rw [if_neg (by rw [zn_eq (by omega) (by omega)]; exact d), if_neg (fun q => d q.1)]
/-- a word of five letters -/
theorem m_wd5 {c0 c1 c2 c3 c4 : Nat} {w : Int32} (hT : m_T σ tp ln) (h7 : σ 0 27 = nI a) (h6 : σ 0 26 = nI b) (hab : a ≤ b) (hb : b ≤ ln) (hc : (c0 < 128 ∧ c1 < 128 ∧ c2 < 128 ∧ c3 < 128) ∧ c4 < 128) (A : z_St → Option (Int32 × z_St)) : ((f_X7_is (nI 5) (nI c0) (nI c1) (nI c2) (nI c3) σ).bind fun r => if r.1 = (0 : Int32) then A r.2 else (f_X7_ends (nI c4) 0 0 0 r.2).bind fun r' => if r'.1 = (0 : Int32) then A r'.2 else some (w, r'.2)) = if b - a = 5 ∧ tp a = c0 ∧ tp (a + 1) = c1 ∧ tp (a + 2) = c2 ∧ tp (a + 3) = c3 ∧ tp (a + 4) = c4 then some (w, σ) else A σ := by
  rw [m_is hT h7 h6 hab hb (by omega) (by omega) hc.1, z_be]
  dsimp only
  by_cases c : b - a = 5 ∧ tp a = c0 ∧ tp (a + 1) = c1 ∧ tp (a + 2) = c2 ∧ tp (a + 3) = c3
  · rw [if_pos c, z_f1, m_ends1 hT h7 (by omega) hc.2, z_be]
    dsimp only
    by_cases d : tp (a + 4) = c4
    · rw [if_pos d, z_f1, if_pos ⟨c.1, c.2.1, c.2.2.1, c.2.2.2.1, c.2.2.2.2, d⟩]
    · rw [if_neg d, if_pos rfl, if_neg (fun q => d q.2.2.2.2.2)]
  · rw [if_neg c, if_pos rfl, if_neg (fun q => c ⟨q.1, q.2.1, q.2.2.1, q.2.2.2.1, q.2.2.2.2.1⟩)]
theorem t_is5 {o c0 c1 c2 c3 c4 : Nat} (h : t_words.getD o [] = [c0, c1, c2, c3, c4]) : (t_is tp a b o = true) = (b - a = 5 ∧ tp a = c0 ∧ tp (a + 1) = c1 ∧ tp (a + 2) = c2 ∧ tp (a + 3) = c3 ∧ tp (a + 4) = c4) := by
  apply propext
  have e : t_wl o = 5 := by unfold t_wl; rw [h]; rfl
  unfold t_is
  rw [e]
  simp only [t_ms, t_wc, h, Bool.and_eq_true, decide_eq_true_eq, Bool.and_true, Nat.add_zero, List.getD_cons_zero, List.getD_cons_succ]
theorem t_is4 {o c0 c1 c2 c3 : Nat} (h : t_words.getD o [] = [c0, c1, c2, c3]) : (t_is tp a b o = true) = (b - a = 4 ∧ tp a = c0 ∧ tp (a + 1) = c1 ∧ tp (a + 2) = c2 ∧ tp (a + 3) = c3) := by
  apply propext
  have e : t_wl o = 4 := by unfold t_wl; rw [h]; rfl
  unfold t_is
  rw [e]
  simp only [t_ms, t_wc, h, Bool.and_eq_true, decide_eq_true_eq, Bool.and_true, Nat.add_zero, List.getD_cons_zero, List.getD_cons_succ]
theorem t_is6 {o c0 c1 c2 c3 c4 c5 : Nat} (h : t_words.getD o [] = [c0, c1, c2, c3, c4, c5]) : (t_is tp a b o = true) = (b - a = 6 ∧ tp a = c0 ∧ tp (a + 1) = c1 ∧ tp (a + 2) = c2 ∧ tp (a + 3) = c3 ∧ tp (a + 4) = c4 ∧ tp (a + 5) = c5) := by
  apply propext
  have e : t_wl o = 6 := by unfold t_wl; rw [h]; rfl
  unfold t_is
  rw [e]
  simp only [t_ms, t_wc, h, Bool.and_eq_true, decide_eq_true_eq, Bool.and_true, Nat.add_zero, List.getD_cons_zero, List.getD_cons_succ]
theorem t_is8 {o c0 c1 c2 c3 c4 c5 c6 c7 : Nat} (h : t_words.getD o [] = [c0, c1, c2, c3, c4, c5, c6, c7]) : (t_is tp a b o = true) = (b - a = 8 ∧ tp a = c0 ∧ tp (a + 1) = c1 ∧ tp (a + 2) = c2 ∧ tp (a + 3) = c3 ∧ tp (a + 4) = c4 ∧ tp (a + 5) = c5 ∧ tp (a + 6) = c6 ∧ tp (a + 7) = c7) := by
  apply propext
  have e : t_wl o = 8 := by unfold t_wl; rw [h]; rfl
  unfold t_is
  rw [e]
  simp only [t_ms, t_wc, h, Bool.and_eq_true, decide_eq_true_eq, Bool.and_true, Nat.add_zero, List.getD_cons_zero, List.getD_cons_succ]
theorem m_word (hT : m_T σ tp ln) (h7 : σ 0 27 = nI a) (h6 : σ 0 26 = nI b) (hab : a ≤ b) (hb : b ≤ ln) : f_X7_lineNow σ = some (if t_w tp a b = 8 then -4 else nI (t_w tp a b), σ) := by
  have e0 := t_is5 (tp := tp) (a := a) (b := b) (o := 0) rfl
  have e1 := t_is6 (tp := tp) (a := a) (b := b) (o := 1) rfl
  have e2 := t_is5 (tp := tp) (a := a) (b := b) (o := 2) rfl
  have e3 := t_is5 (tp := tp) (a := a) (b := b) (o := 3) rfl
  have e4 := t_is4 (tp := tp) (a := a) (b := b) (o := 4) rfl
  have e5 := t_is5 (tp := tp) (a := a) (b := b) (o := 5) rfl
  have e6 := t_is8 (tp := tp) (a := a) (b := b) (o := 6) rfl
  have e7 := t_is5 (tp := tp) (a := a) (b := b) (o := 7) rfl
  unfold t_w
  rw [show f_X7_lineNow σ = (if b - a = 5 ∧ tp a = 112 ∧ tp (a + 1) = 108 ∧ tp (a + 2) = 97 ∧ tp (a + 3) = 105 ∧ tp (a + 4) = 110 then some (0, σ) else f_X7_lineNow_30 σ) from by unfold f_X7_lineNow; exact m_wd5 (c0 := 112) (c1 := 108) (c2 := 97) (c3 := 105) (c4 := 110) (w := 0) hT h7 h6 hab hb (by omega) f_X7_lineNow_30]
  by_cases c0 : t_is tp a b 0 = true
  · rw [if_pos (by rw [← e0]; exact c0)]; simp only [if_pos c0]; rfl
  rw [if_neg (by rw [← e0]; exact c0)]
  simp only [if_neg c0]
  unfold f_X7_lineNow_30
  by_cases c1 : t_is tp a b 1 = true
  · have d := e1.mp c1
    rw [show f_X7_is 6 98 105 115 104 σ = _ from m_is (l := 6) (c0 := 98) (c1 := 105) (c2 := 115) (c3 := 104) hT h7 h6 hab hb (by omega) (by omega) (by omega), if_pos (by omega), z_be]
    dsimp only
    rw [z_f1, show f_X7_ends 111 112 0 0 σ = _ from m_ends2 (c4 := 111) (c5 := 112) hT h7 (by omega) (by omega) (by omega) (by omega), if_pos (by omega), z_be]
    dsimp only
    rw [z_f1]
    simp only [if_pos c1]; rfl
  have n1 : ((f_X7_is (6 : Int32) (98 : Int32) (105 : Int32) (115 : Int32) (104 : Int32) σ).bind fun r2 => (if r2.1 = (0 : Int32) then f_X7_lineNow_62 r2.2 else (f_X7_ends (111 : Int32) (112 : Int32) (0 : Int32) (0 : Int32) r2.2).bind fun r14 => (if r14.1 = (0 : Int32) then f_X7_lineNow_62 r14.2 else some ((1 : Int32), r14.2)))) = f_X7_lineNow_62 σ := by
    rw [show f_X7_is 6 98 105 115 104 σ = _ from m_is (l := 6) (c0 := 98) (c1 := 105) (c2 := 115) (c3 := 104) hT h7 h6 hab hb (by omega) (by omega) (by omega), z_be]
    dsimp only
    by_cases d : b - a = 6 ∧ tp a = 98 ∧ tp (a + 1) = 105 ∧ tp (a + 2) = 115 ∧ tp (a + 3) = 104
    · rw [if_pos d, z_f1, show f_X7_ends 111 112 0 0 σ = _ from m_ends2 (c4 := 111) (c5 := 112) hT h7 (by omega) (by omega) (by omega) (by omega), if_neg (fun q => c1 (e1.mpr (by omega))), z_be]
      dsimp only
      rw [if_pos rfl]
    · rw [if_neg d, if_pos rfl]
  rw [n1]
  simp only [if_neg c1]
  rw [show f_X7_lineNow_62 σ = (if b - a = 5 ∧ tp a = 98 ∧ tp (a + 1) = 114 ∧ tp (a + 2) = 105 ∧ tp (a + 3) = 100 ∧ tp (a + 4) = 101 then some (2, σ) else f_X7_lineNow_92 σ) from by unfold f_X7_lineNow_62; exact m_wd5 (c0 := 98) (c1 := 114) (c2 := 105) (c3 := 100) (c4 := 101) (w := 2) hT h7 h6 hab hb (by omega) f_X7_lineNow_92]
  by_cases c2 : t_is tp a b 2 = true
  · rw [if_pos (by rw [← e2]; exact c2)]; simp only [if_pos c2]; rfl
  rw [if_neg (by rw [← e2]; exact c2)]
  simp only [if_neg c2]
  rw [show f_X7_lineNow_92 σ = (if b - a = 5 ∧ tp a = 119 ∧ tp (a + 1) = 105 ∧ tp (a + 2) = 100 ∧ tp (a + 3) = 111 ∧ tp (a + 4) = 119 then some (3, σ) else f_X7_lineNow_122 σ) from by unfold f_X7_lineNow_92; exact m_wd5 (c0 := 119) (c1 := 105) (c2 := 100) (c3 := 111) (c4 := 119) (w := 3) hT h7 h6 hab hb (by omega) f_X7_lineNow_122]
  by_cases c3 : t_is tp a b 3 = true
  · rw [if_pos (by rw [← e3]; exact c3)]; simp only [if_pos c3]; rfl
  rw [if_neg (by rw [← e3]; exact c3)]
  simp only [if_neg c3]
  unfold f_X7_lineNow_122
  rw [show f_X7_is 4 116 114 105 112 σ = _ from m_is (l := 4) (c0 := 116) (c1 := 114) (c2 := 105) (c3 := 112) hT h7 h6 hab hb (by omega) (by omega) (by omega), z_be]
  dsimp only
  by_cases c4 : t_is tp a b 4 = true
  · rw [if_pos (e4.mp c4), z_f1]; simp only [if_pos c4]; rfl
  rw [if_neg (show ¬ (b - a = 4 ∧ tp a = 116 ∧ tp (a + 1) = 114 ∧ tp (a + 2) = 105 ∧ tp (a + 3) = 112) from fun q => c4 (e4.mpr q)), if_pos rfl]
  simp only [if_neg c4]
  rw [show ((f_X7_is 5 97 115 107 101 σ).bind fun r6 => if r6.1 = (0 : Int32) then f_X7_lineNow_170 r6.2 else (f_X7_ends 100 0 0 0 r6.2).bind fun r11 => if r11.1 = (0 : Int32) then f_X7_lineNow_170 r11.2 else some ((5 : Int32), r11.2)) = (if b - a = 5 ∧ tp a = 97 ∧ tp (a + 1) = 115 ∧ tp (a + 2) = 107 ∧ tp (a + 3) = 101 ∧ tp (a + 4) = 100 then some (5, σ) else f_X7_lineNow_170 σ) from m_wd5 (c0 := 97) (c1 := 115) (c2 := 107) (c3 := 101) (c4 := 100) (w := 5) hT h7 h6 hab hb (by omega) f_X7_lineNow_170]
  by_cases c5 : t_is tp a b 5 = true
  · rw [if_pos (by rw [← e5]; exact c5)]; simp only [if_pos c5]; rfl
  rw [if_neg (by rw [← e5]; exact c5)]
  simp only [if_neg c5]
  unfold f_X7_lineNow_170
  by_cases c6 : t_is tp a b 6 = true
  · have d := e6.mp c6
    rw [show f_X7_is 8 105 110 116 101 σ = _ from m_is (l := 8) (c0 := 105) (c1 := 110) (c2 := 116) (c3 := 101) hT h7 h6 hab hb (by omega) (by omega) (by omega), if_pos (by omega), z_be]
    dsimp only
    rw [z_f1, show f_X7_ends 114 101 115 116 σ = _ from m_ends4 (c4 := 114) (c5 := 101) (c6 := 115) (c7 := 116) hT h7 (by omega) (by omega) (by omega), if_pos (by omega), z_be]
    dsimp only
    rw [z_f1]
    simp only [if_pos c6]; rfl
  have n6 : ((f_X7_is (8 : Int32) (105 : Int32) (110 : Int32) (116 : Int32) (101 : Int32) σ).bind fun r7 => (if r7.1 = (0 : Int32) then f_X7_lineNow_207 r7.2 else (f_X7_ends (114 : Int32) (101 : Int32) (115 : Int32) (116 : Int32) r7.2).bind fun r10 => (if r10.1 = (0 : Int32) then f_X7_lineNow_207 r10.2 else some ((6 : Int32), r10.2)))) = f_X7_lineNow_207 σ := by
    rw [show f_X7_is 8 105 110 116 101 σ = _ from m_is (l := 8) (c0 := 105) (c1 := 110) (c2 := 116) (c3 := 101) hT h7 h6 hab hb (by omega) (by omega) (by omega), z_be]
    dsimp only
    by_cases d : b - a = 8 ∧ tp a = 105 ∧ tp (a + 1) = 110 ∧ tp (a + 2) = 116 ∧ tp (a + 3) = 101
    · rw [if_pos d, z_f1, show f_X7_ends 114 101 115 116 σ = _ from m_ends4 (c4 := 114) (c5 := 101) (c6 := 115) (c7 := 116) hT h7 (by omega) (by omega) (by omega), if_neg (fun q => c6 (e6.mpr (by omega))), z_be]
      dsimp only
      rw [if_pos rfl]
    · rw [if_neg d, if_pos rfl]
  rw [n6]
  simp only [if_neg c6]
  rw [show f_X7_lineNow_207 σ = (if b - a = 5 ∧ tp a = 99 ∧ tp (a + 1) = 111 ∧ tp (a + 2) = 118 ∧ tp (a + 3) = 101 ∧ tp (a + 4) = 114 then some (7, σ) else some (-4, σ)) from by unfold f_X7_lineNow_207; exact m_wd5 (c0 := 99) (c1 := 111) (c2 := 118) (c3 := 101) (c4 := 114) (w := 7) hT h7 h6 hab hb (by omega) (fun τ => some (-4, τ))]
  by_cases c7 : t_is tp a b 7 = true
  · rw [if_pos (by rw [← e7]; exact c7)]; simp only [if_pos c7]; rfl
  rw [if_neg (by rw [← e7]; exact c7)]
  simp only [if_neg c7]
  rfl
end WO
