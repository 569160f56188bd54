/-! ===== the text: what the class writes of a line; lines; the whole ===== -/
section TX
variable {σ σ' σ'' σX σM : z_St} {tp : Nat → Nat} {ln : Nat} {s : z_P} {n k q hI hC : Nat} {sy : z_Sy} {a : Nat → Nat} {H : Int}
theorem x_tellP {w v : Nat} (hw : w ≤ 3) (hn : n ≤ 3) (hk : k ≤ 6) (h2 : a (4 * n + 2) = 0) (h3 : a (4 * n + 3) = 0) (h29 : σ 29 0 = nI v) (hD : d_X n k q sy a hI hC σ) : ∃ σ', f_X3_tell (nI w) σ = some (0, σ') ∧ x_Q σ σ' ∧ (∀ j, j < 10 → σ' 27 j = σ 27 j) ∧ d_X (n + 1) k q sy (z_nu (z_nu a (4 * n) w) (4 * n + 1) v) hI hC σ' := by
  obtain ⟨d1, d2, d3, d4, d5⟩ := hD
  unfold f_X3_tell
  rw [if_neg (show ¬ nI w = (4 : Int32) from nI_n4 (c := 4) (by omega) (by omega) (by omega)), if_neg (show ¬ nI w = (5 : Int32) from nI_n4 (c := 5) (by omega) (by omega) (by omega)), if_neg (show ¬ nI w = (6 : Int32) from nI_n4 (c := 6) (by omega) (by omega) (by omega)), if_neg (show ¬ nI w = (7 : Int32) from nI_n4 (c := 7) (by omega) (by omega) (by omega)), d2.1, z_gd_nI (by omega) (by omega), zn_cl (by omega), z_bst_eq, z_put_ne (show (37 : Nat) ≠ 37 + 1 by omega), z_put_ne (show (29 : Nat) ≠ 37 + 1 by omega), d2.1, z_gd_nI (by omega) (by omega), zn_cl (by omega), z_bst_eq, z_bst_eq, h29, z_put_ne (show (37 : Nat) ≠ 37 + 2 by omega), z_put_ne (show (37 : Nat) ≠ 37 + 1 by omega), d2.1, nI_1]
  refine ⟨_, rfl, ((x_Q.rf.put (by omega) (by omega)).put (by omega) (by omega)).put (by omega) (by omega), fun j _ => ?_, ?_, ?_, fun p hp => ?_, ?_, ?_⟩
  · rw [z_put_ne (by omega), z_put_ne (by omega), z_put_ne (by omega)]
  · unfold x_S
    simp (disch := omega) only [z_put_ne]; exact d1
  · obtain ⟨l1, l2, l3, l4, l5, l6, l7⟩ := d2
    refine ⟨by rw [z_put_eq, z_upd_eq], fun p hp => ?_, fun i hi => ?_, ?_, ?_, ?_, ?_⟩
    · by_cases e : p = n
      · subst e
        obtain ⟨e1, e2⟩ := d3 p (by omega)
        rw [z_nu_ne (by omega), z_nu_eq, z_nu_eq, z_nu_ne (by omega), z_nu_ne (by omega), z_nu_ne (by omega), z_nu_ne (by omega), h2, h3]
        refine ⟨?_, ?_, ?_, ?_⟩
        · rw [z_put_ne (by omega), z_put_ne (by omega), z_put_eq, z_upd_eq]
        · rw [z_put_ne (by omega), z_put_eq, z_upd_eq]
        · rw [z_put_ne (by omega), z_put_ne (by omega), z_put_ne (by omega)]; exact e1
        · rw [z_put_ne (by omega), z_put_ne (by omega), z_put_ne (by omega)]; exact e2
      · obtain ⟨g1, g2, g3, g4⟩ := l2 p (by omega)
        rw [z_nu_ne (by omega), z_nu_ne (by omega), z_nu_ne (by omega), z_nu_ne (by omega), z_nu_ne (by omega), z_nu_ne (by omega), z_nu_ne (by omega), z_nu_ne (by omega)]
        refine ⟨?_, ?_, ?_, ?_⟩
        · rw [z_put_ne (by omega), z_put_ne (by omega), z_put_eq, z_upd_ne e]; exact g1
        · rw [z_put_ne (by omega), z_put_eq, z_upd_ne e, z_put_ne (by omega)]; exact g2
        · rw [z_put_ne (by omega), z_put_ne (by omega), z_put_ne (by omega)]; exact g3
        · rw [z_put_ne (by omega), z_put_ne (by omega), z_put_ne (by omega)]; exact g4
    · rw [z_put_ne (by omega), z_put_ne (by omega), z_put_ne (by omega), z_nu_ne (by omega), z_nu_ne (by omega)]; exact l3 i hi
    · rw [z_put_eq, z_upd_ne (by omega), z_put_ne (by omega), z_put_ne (by omega), z_nu_ne (by omega), z_nu_ne (by omega)]; exact l4
    · rw [z_put_eq, z_upd_ne (by omega), z_put_ne (by omega), z_put_ne (by omega), z_nu_ne (by omega), z_nu_ne (by omega)]; exact l5
    · rw [z_put_eq, z_upd_ne (by omega), z_put_ne (by omega), z_put_ne (by omega), z_nu_ne (by omega), z_nu_ne (by omega)]; exact l6
    · rw [z_put_eq, z_upd_ne (by omega), z_put_ne (by omega), z_put_ne (by omega), z_nu_ne (by omega), z_nu_ne (by omega)]; exact l7
  · rw [z_put_ne (by omega), z_put_ne (by omega), z_put_ne (by omega), z_put_ne (by omega), z_put_ne (by omega), z_put_ne (by omega)]; exact d3 p hp
  · rw [z_put_ne (by omega), z_put_ne (by omega), z_put_ne (by omega)]; exact d4
  · rw [z_put_ne (by omega), z_put_ne (by omega), z_put_ne (by omega)]; exact d5
theorem x_tellI {v : Nat} (hn : n ≤ 4) (hk : k ≤ 6) (h29 : σ 29 0 = nI v) (hD : d_X n k q sy a hI hC σ) : ∃ σ', f_X3_tell (nI 6) σ = some (0, σ') ∧ x_Q σ σ' ∧ (∀ j, j < 10 → σ' 27 j = σ 27 j) ∧ d_X n k q sy (z_nu a 23 v) 1 hC σ' := by
  obtain ⟨d1, d2, d3, d4, d5⟩ := hD
  unfold f_X3_tell
  rw [if_neg (by decide), if_neg (by decide), if_pos (show nI 6 = (6 : Int32) from rfl), z_bst_eq, z_bst_eq, h29]
  refine ⟨_, rfl, (x_Q.rf.put (by omega) (by omega)).put (by omega) (by omega), fun j hj => ?_, ?_, ?_, fun p hp => ?_, ?_, ?_⟩
  · rw [z_put_eq, z_upd_ne (by omega), z_put_ne (by omega)]
  · unfold x_S
    simp (disch := omega) only [z_put_ne]; exact d1
  · have h := d2.fld hn hk (j := 7) (v := v) (by omega) (by omega)
    exact h.cp (z_put_ne (by omega)) (z_put_ne (by omega)) (z_put_ne (by omega)) (z_put_ne (by omega)) (z_put_ne (by omega)) (z_put_ne (by omega))
  · rw [z_put_ne (by omega), z_put_ne (by omega), z_put_ne (by omega), z_put_ne (by omega)]; exact d3 p hp
  · rw [z_put_eq, z_upd_eq]; rfl
  · rw [z_put_eq, z_upd_ne (by omega), z_put_ne (by omega)]; exact d5
theorem x_tellC {v : Nat} (hn : n ≤ 4) (hk : k ≤ 6) (h29 : σ 29 0 = nI v) (hD : d_X n k q sy a hI hC σ) : ∃ σ', f_X3_tell (nI 7) σ = some (0, σ') ∧ x_Q σ σ' ∧ (∀ j, j < 10 → σ' 27 j = σ 27 j) ∧ d_X n k q sy (z_nu a 24 v) hI 1 σ' := by
  obtain ⟨d1, d2, d3, d4, d5⟩ := hD
  unfold f_X3_tell
  rw [if_neg (by decide), if_neg (by decide), if_neg (by decide), if_pos (show nI 7 = (7 : Int32) from rfl), z_bst_eq, z_bst_eq, h29]
  refine ⟨_, rfl, (x_Q.rf.put (by omega) (by omega)).put (by omega) (by omega), fun j hj => ?_, ?_, ?_, fun p hp => ?_, ?_, ?_⟩
  · rw [z_put_eq, z_upd_ne (by omega), z_put_ne (by omega)]
  · unfold x_S
    simp (disch := omega) only [z_put_ne]; exact d1
  · have h := d2.fld hn hk (j := 8) (v := v) (by omega) (by omega)
    exact h.cp (z_put_ne (by omega)) (z_put_ne (by omega)) (z_put_ne (by omega)) (z_put_ne (by omega)) (z_put_ne (by omega)) (z_put_ne (by omega))
  · rw [z_put_ne (by omega), z_put_ne (by omega), z_put_ne (by omega), z_put_ne (by omega)]; exact d3 p hp
  · rw [z_put_eq, z_upd_ne (by omega), z_put_ne (by omega)]; exact d4
  · rw [z_put_eq, z_upd_eq]; rfl
theorem x_tellT {u0 u1 u2 u3 : Nat} (hn : n ≤ 4) (hk : k ≤ 5) (h0 : σ 29 0 = nI u0) (h1 : σ 29 1 = nI u1) (h2 : σ 29 2 = nI u2) (h3 : σ 29 3 = nI u3) (hD : d_X n k q sy a hI hC σ) : ∃ σ', f_X3_tell (nI 4) σ = some (0, σ') ∧ x_Q σ σ' ∧ (∀ j, j < 10 → σ' 27 j = σ 27 j) ∧ d_X n (k + 1) q (z_su (z_su (z_su sy 0 k u0) 1 k u1) 2 k u2) (z_nu a (16 + k) u3) hI hC σ' := by
  obtain ⟨d1, d2, d3, d4, d5⟩ := hD
  unfold f_X3_tell
  rw [if_pos (show nI 4 = (4 : Int32) from rfl)]
  unfold f_X3_tellTrip
  rw [d1.1]
  simp (disch := omega) only [z_gd_nI, zn_cl, z_bst_eq, z_put_ne, h0, h1, h2, h3, d1.1, nI_1]
  rw [z_be]
  dsimp only
  refine ⟨_, rfl, ((((x_Q.rf.put (by omega) (by omega)).put (by omega) (by omega)).put (by omega) (by omega)).put (by omega) (by omega)).put (by omega) (by omega), fun j hj => ?_, ⟨?_, ?_, fun i hi => ?_, fun j hj => ?_⟩, ?_, fun p hp => ?_, ?_, ?_⟩
  · simp (disch := omega) only [z_put_ne]
  · rw [z_put_eq, z_upd_eq]
  · rw [z_put_eq, z_upd_ne (by omega)]; simp (disch := omega) only [z_put_ne]; exact d1.2.1
  · by_cases e : i = k
    · subst e
      rw [z_su_ne (by omega), z_su_ne (by omega), z_su_eq, z_su_ne (by omega), z_su_eq, z_su_eq]
      simp (disch := omega) only [z_put_ne, z_put_eq, z_upd_eq]
      exact ⟨trivial, trivial, trivial⟩
    · obtain ⟨g1, g2, g3⟩ := d1.2.2.1 i (by omega)
      rw [z_su_ne (by omega), z_su_ne (by omega), z_su_ne (by omega), z_su_ne (by omega), z_su_ne (by omega), z_su_ne (by omega), z_su_ne (by omega), z_su_ne (by omega), z_su_ne (by omega)]
      simp (disch := omega) only [z_put_ne, z_put_eq, z_upd_ne]
      exact ⟨g1, g2, g3⟩
  · obtain ⟨g1, g2, g3⟩ := d1.2.2.2 j hj
    rw [z_su_ne (by omega), z_su_ne (by omega), z_su_ne (by omega), z_su_ne (by omega), z_su_ne (by omega), z_su_ne (by omega), z_su_ne (by omega), z_su_ne (by omega), z_su_ne (by omega)]
    simp (disch := omega) only [z_put_ne]
    exact ⟨g1, g2, g3⟩
  · obtain ⟨l1, l2, l3, l4, l5, l6, l7⟩ := d2
    refine ⟨?_, fun p hp => ?_, fun i hi => ?_, ?_, ?_, ?_, ?_⟩
    · simp (disch := omega) only [z_put_ne]; exact l1
    · rw [z_nu_ne (by omega), z_nu_ne (by omega), z_nu_ne (by omega), z_nu_ne (by omega)]
      simp (disch := omega) only [z_put_ne]; exact l2 p hp
    · by_cases e : i = k
      · subst e
        rw [z_nu_eq]
        simp (disch := omega) only [z_put_ne, z_put_eq, z_upd_eq]
      · rw [z_nu_ne (by omega)]
        simp (disch := omega) only [z_put_ne, z_put_eq, z_upd_ne]; exact l3 i (by omega)
    · rw [z_nu_ne (by omega)]; simp (disch := omega) only [z_put_ne]; exact l4
    · rw [z_nu_ne (by omega)]; simp (disch := omega) only [z_put_ne]; exact l5
    · rw [z_nu_ne (by omega)]; simp (disch := omega) only [z_put_ne]; exact l6
    · rw [z_nu_ne (by omega)]; simp (disch := omega) only [z_put_ne]; exact l7
  · simp (disch := omega) only [z_put_ne]; exact d3 p hp
  · simp (disch := omega) only [z_put_ne]; exact d4
  · simp (disch := omega) only [z_put_ne]; exact d5
theorem x_tellA {u0 u1 u2 : Nat} (hq : q ≤ 5) (h0 : σ 29 0 = nI u0) (h1 : σ 29 1 = nI u1) (h2 : σ 29 2 = nI u2) (hD : d_X n k q sy a hI hC σ) : ∃ σ', f_X3_tell (nI 5) σ = some (0, σ') ∧ x_Q σ σ' ∧ (∀ j, j < 10 → σ' 27 j = σ 27 j) ∧ d_X n k (q + 1) (z_su (z_su (z_su sy 3 q u0) 4 q u1) 5 q u2) a hI hC σ' := by
  obtain ⟨d1, d2, d3, d4, d5⟩ := hD
  unfold f_X3_tell
  rw [if_neg (by decide), if_pos (show nI 5 = (5 : Int32) from rfl)]
  unfold f_X3_tellAsked
  rw [d1.2.1]
  simp (disch := omega) only [z_gd_nI, zn_cl, z_bst_eq, z_put_ne, h0, h1, h2, d1.2.1, nI_1]
  rw [z_be]
  dsimp only
  refine ⟨_, rfl, (((x_Q.rf.put (by omega) (by omega)).put (by omega) (by omega)).put (by omega) (by omega)).put (by omega) (by omega), fun j hj => ?_, ⟨?_, ?_, fun i hi => ?_, fun j hj => ?_⟩, ?_, fun p hp => ?_, ?_, ?_⟩
  · simp (disch := omega) only [z_put_ne]
  · rw [z_put_eq, z_upd_ne (by omega)]; simp (disch := omega) only [z_put_ne]; exact d1.1
  · rw [z_put_eq, z_upd_eq]
  · obtain ⟨g1, g2, g3⟩ := d1.2.2.1 i hi
    rw [z_su_ne (by omega), z_su_ne (by omega), z_su_ne (by omega), z_su_ne (by omega), z_su_ne (by omega), z_su_ne (by omega), z_su_ne (by omega), z_su_ne (by omega), z_su_ne (by omega)]
    simp (disch := omega) only [z_put_ne]
    exact ⟨g1, g2, g3⟩
  · by_cases e : j = q
    · subst e
      rw [z_su_ne (by omega), z_su_ne (by omega), z_su_eq, z_su_ne (by omega), z_su_eq, z_su_eq]
      simp (disch := omega) only [z_put_ne, z_put_eq, z_upd_eq]
      exact ⟨trivial, trivial, trivial⟩
    · obtain ⟨g1, g2, g3⟩ := d1.2.2.2 j (by omega)
      rw [z_su_ne (by omega), z_su_ne (by omega), z_su_ne (by omega), z_su_ne (by omega), z_su_ne (by omega), z_su_ne (by omega), z_su_ne (by omega), z_su_ne (by omega), z_su_ne (by omega)]
      simp (disch := omega) only [z_put_ne, z_put_eq, z_upd_ne]
      exact ⟨g1, g2, g3⟩
  · unfold x_L
    simp (disch := omega) only [z_put_ne]; exact d2
  · simp (disch := omega) only [z_put_ne]; exact d3 p hp
  · simp (disch := omega) only [z_put_ne]; exact d4
  · simp (disch := omega) only [z_put_ne]; exact d5
/-- the class: the numbers, the semicolon, and what is told -/
theorem x_core {w p : Nat} {hs : List Nat} (PX : z_St → Prop) (hw : w < 8) (hT : x_T σ tp ln) (hp : p ≤ ln) (h7 : σ 27 7 = nI p) (h3 : σ 27 3 = 0) (hlen : hs.length ≤ 4) (hn : z_k_NUMBERS_OF (nI w) = nI hs.length) (hb : ∀ i, i < hs.length → z_k_BOUNDS (nI w * 4 + nI i) = nI (hs.getD i 0) ∧ hs.getD i 0 ≤ 99) (htell : ∀ τ, x_Kn σ τ → (t_nums tp ln hs (0, 0, p)).1 = 0 → (∀ i, i < hs.length → τ 29 i = nI (t_v tp ln hs (0, 0, p) i)) → ∃ τ', f_X3_tell (nI w) τ = some (0, τ') ∧ x_Q τ τ' ∧ (∀ j, j < 10 → τ' 27 j = τ 27 j) ∧ PX τ') : ∃ σ', f_X3_readLine_45 200 (nI w) 0 σ = some (0, σ') ∧ x_Q σ σ' ∧ σ' 27 2 = σ 27 2 ∧ x_Z ln σ' (t_semi tp ln (t_nums tp ln hs (0, 0, p))) ∧ ((t_semi tp ln (t_nums tp ln hs (0, 0, p))).1 = 0 → σ' 27 8 = 2 ∧ PX σ') := by
  obtain ⟨σ1, g1, g2, g3, g4, g5⟩ := x_nums (tp := tp) (ln := ln) hw hs 0 200 (0, 0, p) σ (by omega) (by omega) (by rw [Nat.zero_add]; exact hn) (fun i hi => by rw [Nat.zero_add]; exact hb i hi) (fun _ => hp) hT ⟨by show 0 ≤ 6; omega, h3, fun q => absurd rfl q, fun _ => ⟨hp, h7⟩⟩
  rw [show f_X3_readLine_45 200 (nI w) 0 σ = _ from g1]
  unfold f_X3_readLine_98
  by_cases c : (t_semi tp ln (t_nums tp ln hs (0, 0, p))).1 = 0
  · obtain ⟨u1, u2⟩ := g5 c
    rw [if_pos (show σ1 27 3 = 0 by rw [g3.2.1, c]; rfl)]
    obtain ⟨τ', i1, i2, i3, i4⟩ := htell σ1 g2 (t_semi_0 c).1 (fun i hi => by have := u2 i hi; rw [Nat.zero_add] at this; exact this)
    rw [i1, z_be]
    refine ⟨τ', rfl, g2.qq.tr i2, by rw [i3 2 (by omega), g2.2 2 (by omega)], ?_, fun _ => ⟨by rw [i3 8 (by omega)]; exact u1, i4⟩⟩
    unfold x_Z
    rw [i3 3 (by omega), i3 6 (by omega), i3 7 (by omega)]; exact g3
  · rw [if_neg (show ¬ σ1 27 3 = 0 by rw [g3.2.1]; exact nI_ne0 (by omega) (by have := g3.1; omega))]
    exact ⟨σ1, rfl, g2.qq, g2.2 2 (by omega), g3, fun h => absurd h c⟩
/-- the outcome of a line -/
def z_LO (tp : Nat → Nat) (ln p : Nat) (σX σM : z_St) (TX TM : Option (Int32 × z_St)) : Prop := ∃ (S : z_P) (σX' σM' : z_St), TX = some (0, σX') ∧ TM = some (0, σM') ∧ x_Q σX σX' ∧ σX' 27 2 = σX 27 2 ∧ m_Q σM σM' ∧ x_Z ln σX' S ∧ m_Z tp ln σM' (t_lk tp ln S) ∧ (S.1 = 0 → p < S.2.2 ∧ S.2.2 ≤ ln ∧ σX' 27 8 = 2 ∧ ∃ (n k q : Nat) (sy : z_Sy) (a : Nat → Nat) (hI hC : Nat) (H : Int), d_V n k q sy a hI hC H ∧ d_X n k q sy a hI hC σX' ∧ d_M n k q sy a hI hC H σM')
theorem z_LO.ref {f p : Nat} (hf : f ≠ 0) (hf6 : f ≤ 6) {TX TM : Option (Int32 × z_St)} {σX' σM' : z_St} (e1 : TX = some (0, σX')) (e2 : TM = some (0, σM')) (hx : x_K σX σX') (h3 : σX' 27 3 = nI f) (h6 : σX' 27 6 = nI (t_st tp ln p)) (hm : m_Q σM σM') (hz : m_Z tp ln σM' (f, t_st tp ln p, p)) : z_LO tp ln p σX σM TX TM := by
  refine ⟨(f, t_st tp ln p, p), σX', σM', e1, e2, hx.kn.qq, hx.2 2 (by omega), hm, ⟨hf6, h3, fun _ => h6, fun h => absurd h hf⟩, ?_, fun h => absurd h hf⟩
  rw [t_lk_f (show ((f, t_st tp ln p, p) : z_P).1 ≠ 0 from hf)]; exact hz
theorem z_line {p : Nat} (dV : d_V n k q sy a hI hC H) (dX : d_X n k q sy a hI hC σX) (dM : d_M n k q sy a hI hC H σM) (hTX : x_T σX tp ln) (hTM : m_T σM tp ln) (hp : p ≤ ln) (k0 : t_kd tp ln p ≠ 0) (k4 : t_kd tp ln p ≠ 4) (h3 : σX 27 3 = 0) (h7 : σX 27 7 = nI (t_en tp ln p)) (h8 : σX 27 8 = t_xk (t_kd tp ln p)) (h9 : σX 27 9 = nI (t_st tp ln p)) (hZ : m_Z tp ln σM (0, 0, p)) : z_LO tp ln p σX σM (f_X3_readLine σX) (f_X7_readLine σM) := by
  have hkl := t_kd_le (tp := tp) (ln := ln) p
  have hen := t_en_le (tp := tp) hp
  have hup := t_en_up hp k0 k4
  have hst := t_st_ge (tp := tp) (ln := ln) p
  have z27 : σM 0 27 = nI (t_st tp ln p) := (hZ.2.2.2 rfl).2.2.1
  have z26 : σM 0 26 = nI (t_en tp ln p) := (hZ.2.2.2 rfl).2.2.2.1
  have z28 : σM 0 28 = nI (t_kd tp ln p) := (hZ.2.2.2 rfl).2.2.2.2.1
  have z30 : σM 0 30 = 0 := hZ.2.1
  obtain ⟨w, hw8, eX, eM⟩ : ∃ w, w ≤ 8 ∧ f_X3_readLine σX = f_X3_readLine_15 (if w = 8 then -1 else nI w) σX ∧ f_X7_readLine σM = f_X7_readLine_17 (if w = 8 then -4 else nI w) σM := by
    unfold f_X3_readLine f_X7_readLine
    by_cases k1 : t_kd tp ln p = 1
    · refine ⟨t_w tp (t_st tp ln p) (t_en tp ln p), ?_, ?_, ?_⟩
      · unfold t_w; repeat (first | omega | split)
      · rw [if_pos (show σX 27 8 = 0 by rw [h8, k1]; rfl), x_word hTX h9 h7 (by omega) hen, z_be]
      · rw [if_pos (show σM 0 28 = 1 by rw [z28, k1]; rfl), m_word hTM z27 z26 (by omega) hen, z_be]
    · refine ⟨8, by omega, ?_, ?_⟩
      · rw [if_neg (show ¬ σX 27 8 = 0 by rw [h8]; intro e; exact k1 (t_xk_inj (i := t_kd tp ln p) (j := 1) (by omega) (by omega) e)), if_pos rfl]
      · rw [if_neg (show ¬ σM 0 28 = 1 by rw [z28]; exact nI_n4 (c := 1) (by omega) (by omega) k1), if_pos rfl]
  rw [eX, eM]
  by_cases w8 : w = 8
  · subst w8
    rw [if_pos rfl, if_pos rfl]
    unfold f_X3_readLine_15
    obtain ⟨σ1, j1, j2, j3, j4, j5⟩ := x_refuse (f := 2) h9
    rw [if_pos rfl, show f_X3_refuse 2 σX = _ from j1, z_be]
    refine z_LO.ref (f := 2) (by omega) (by omega) rfl ?_ j4 j2 j3 ((m_N.rf.put (j := 30) (v := nI 2) (by omega) (by omega)).put (j := 31) (v := σM 0 27) (by omega) (by omega)).qq (m_refZ (by omega) (by omega) z27)
    unfold f_X7_readLine_17
    rw [if_neg (by decide), if_neg (by decide), m_in_out (Or.inl (by decide)), z_be]
    dsimp only
    rw [if_pos rfl]
    unfold f_X7_readLine_87 f_X7_readLine_100
    rw [if_pos rfl, m_needs0 2 z30, z_be]
    dsimp only
    rw [if_pos rfl]
    unfold f_X7_readLine_114
    rw [m_needs1, z_be]
    dsimp only
    rw [if_neg (show ¬ z_put (z_put σM 0 30 2) 0 31 (σM 0 27) 0 30 = 0 by rw [z_put_eq, z_upd_ne (by omega), z_put_eq, z_upd_eq]; decide)]
    exact m_ref (f := 2) (by omega) (by omega) z27
  have hw : w < 8 := by omega
  rw [if_neg w8, if_neg w8]
  unfold f_X3_readLine_15
  rw [if_neg (show ¬ nI w = -1 from fun e => by have := congrArg Int32.toInt e; rw [nI_toInt (by omega), show (-1 : Int32).toInt = -1 from rfl] at this; omega), x_fw hw dV dX, z_be]
  dsimp only
  obtain ⟨fw1, fw2⟩ := m_fw hw dV dM hZ
  have fw6 : d_fw n k q hI hC w ≤ 6 := by unfold d_fw; repeat (first | omega | split)
  by_cases cf : d_fw n k q hI hC w = 0
  · rw [if_pos (show nI (d_fw n k q hI hC w) = 0 by rw [cf]; rfl)]
    obtain ⟨σ1, m1, m2, m3, m4⟩ := fw2 cf
    rw [m1]
    have n26 : σ1 0 26 = nI (t_en tp ln p) := by rw [m3 26 (by omega)]; exact z26
    have n30 : σ1 0 30 = 0 := by rw [m3 30 (by omega)]; exact z30
    have hT1 := hTM.qq m2
    have ok : ∀ hs : List Nat, t_ok ln (t_nums tp ln hs (0, 0, t_en tp ln p)) := fun hs h => (t_nums_pos hs (0, 0, t_en tp ln p) (fun _ => hen) h).2
    have fin : ∀ (hs : List Nat) (PX PM : z_St → Prop), (∃ σ', f_X3_readLine_45 200 (nI w) 0 σX = some (0, σ') ∧ x_Q σX σ' ∧ σ' 27 2 = σX 27 2 ∧ x_Z ln σ' (t_semi tp ln (t_nums tp ln hs (0, 0, t_en tp ln p))) ∧ ((t_semi tp ln (t_nums tp ln hs (0, 0, t_en tp ln p))).1 = 0 → σ' 27 8 = 2 ∧ PX σ')) → (∃ σ', f_X7_readLine_164 (nI w) σ1 = some (0, σ') ∧ m_Q σ1 σ' ∧ m_Z tp ln σ' (t_lk tp ln (t_semi tp ln (t_nums tp ln hs (0, 0, t_en tp ln p)))) ∧ ((t_semi tp ln (t_nums tp ln hs (0, 0, t_en tp ln p))).1 = 0 → PM σ')) → (∀ τX τM, (t_nums tp ln hs (0, 0, t_en tp ln p)).1 = 0 → PX τX → PM τM → ∃ (n k q : Nat) (sy : z_Sy) (a : Nat → Nat) (hI hC : Nat) (H : Int), d_V n k q sy a hI hC H ∧ d_X n k q sy a hI hC τX ∧ d_M n k q sy a hI hC H τM) → z_LO tp ln p σX σM (f_X3_readLine_45 200 (nI w) 0 σX) (f_X7_readLine_164 (nI w) σ1) := by
      intro hs PX PM ⟨τX, a1, a2, a3, a4, a5⟩ ⟨τM, b1, b2, b3, b4⟩ hh
      refine ⟨_, τX, τM, a1, b1, a2, a3, m2.tr b2, a4, b3, fun h => ?_⟩
      obtain ⟨s1, s2, s3⟩ := t_semi_0 h
      obtain ⟨p1, p2⟩ := t_nums_pos hs (0, 0, t_en tp ln p) (fun _ => hen) s1
      have p1' : t_en tp ln p ≤ (t_nums tp ln hs (0, 0, t_en tp ln p)).2.2 := p1
      have p3 := t_st_ge (tp := tp) (ln := ln) (t_nums tp ln hs (0, 0, t_en tp ln p)).2.2
      have p4 := t_en_up (tp := tp) p2 (by omega) (by omega)
      have p5 := t_en_le (tp := tp) p2
      refine ⟨?_, ?_, (a5 h).1, hh τX τM s1 (a5 h).2 (b4 h)⟩
      · rw [s3]; show p < t_en tp ln _; omega
      · rw [s3]; exact p5
    have dV0 := dV
    obtain ⟨v1, v2, v3, v4, v5, v6, v7, v8, v9, v10, v11, v12, v13, v14⟩ := dV0
    by_cases c4 : w = 4
    · subst c4
      have hk : k ≤ 5 := by
        unfold d_fw at cf
        rw [if_pos rfl] at cf
        by_cases c : k < 6
        · omega
        · rw [if_neg c] at cf; omega
      rw [if_neg (by omega), if_neg (by omega)] at m4
      refine fin [3, 9, 9, 9] _ _ (x_core _ hw hTX hen h7 h3 (by decide) (by decide) (by decide) (fun τ hK h0 hv => x_tellT v1 hk (hv 0 (by decide)) (hv 1 (by decide)) (hv 2 (by decide)) (hv 3 (by decide)) (dX.fr hK))) (m_164 _ (fun τ τ' hN hD => hD.fr hN) hT1 hen n26 n30 (fun τ hN hT hz => m_trip hk hT (fun _ => hen) hz (m4.fr hN)) (ok _)) (fun τX τM h0 hX hM => ⟨_, _, _, _, _, _, _, _, ?_, hX, hM⟩)
      have b0 := t_v_le [3, 9, 9, 9] _ h0 0 (by decide)
      have b1 := t_v_le [3, 9, 9, 9] _ h0 1 (by decide)
      have b2 := t_v_le [3, 9, 9, 9] _ h0 2 (by decide)
      have b3 := t_v_le [3, 9, 9, 9] _ h0 3 (by decide)
      simp only [List.getD_cons_zero, List.getD_cons_succ] at b0 b1 b2 b3
      generalize t_v tp ln [3, 9, 9, 9] (0, 0, t_en tp ln p) 0 = u0 at *
      generalize t_v tp ln [3, 9, 9, 9] (0, 0, t_en tp ln p) 1 = u1 at *
      generalize t_v tp ln [3, 9, 9, 9] (0, 0, t_en tp ln p) 2 = u2 at *
      generalize t_v tp ln [3, 9, 9, 9] (0, 0, t_en tp ln p) 3 = u3 at *
      refine ⟨v1, by omega, v3, v4, v5, fun i hi => ?_, fun j hj => ?_, fun p' hp' => ?_, fun p' hp' => ?_, ?_, by omega, fun i hi => ?_, fun j hj => ?_, ?_⟩
      · by_cases e : i = k
        · subst e
          rw [z_su_ne (by omega), z_su_ne (by omega), z_su_eq, z_su_ne (by omega), z_su_eq, z_su_eq, z_nu_eq]
          omega
        · rw [z_su_ne (by omega), z_su_ne (by omega), z_su_ne (by omega), z_su_ne (by omega), z_su_ne (by omega), z_su_ne (by omega), z_su_ne (by omega), z_su_ne (by omega), z_su_ne (by omega), z_nu_ne (by omega)]
          exact v6 i (by omega)
      · rw [z_su_ne (by omega), z_su_ne (by omega), z_su_ne (by omega), z_su_ne (by omega), z_su_ne (by omega), z_su_ne (by omega), z_su_ne (by omega), z_su_ne (by omega), z_su_ne (by omega)]
        exact v7 j hj
      · rw [z_nu_ne (by omega), z_nu_ne (by omega)]; exact v8 p' hp'
      · rw [z_nu_ne (by omega), z_nu_ne (by omega)]; exact v9 p' hp'
      · rw [z_nu_ne (by omega), z_nu_ne (by omega), z_nu_ne (by omega), z_nu_ne (by omega), z_nu_ne (by omega)]; exact v10
      · by_cases e : i = k
        · subst e
          rw [z_su_ne (by omega), z_su_ne (by omega), z_su_eq]; omega
        · rw [z_su_ne (by omega), z_su_ne (by omega), z_su_ne (by omega)]
          have := v12 i (by omega); omega
      · rw [z_su_ne (by omega), z_su_ne (by omega), z_su_ne (by omega)]
        have := v13 j hj; omega
      · by_cases e : H ≤ u0
        · right; left
          exact ⟨k, by omega, by rw [z_su_ne (by omega), z_su_ne (by omega), z_su_eq]; omega⟩
        · rcases v14 with h | ⟨i, hi, h⟩ | ⟨j, hj, h⟩
          · exfalso; omega
          · right; left
            exact ⟨i, by omega, by rw [z_su_ne (by omega), z_su_ne (by omega), z_su_ne (by omega)]; omega⟩
          · right; right
            exact ⟨j, hj, by rw [z_su_ne (by omega), z_su_ne (by omega), z_su_ne (by omega)]; omega⟩
    by_cases c5 : w = 5
    · subst c5
      have hq : q ≤ 5 := by
        unfold d_fw at cf
        rw [if_neg (by omega), if_pos rfl] at cf
        by_cases c : q < 6
        · omega
        · rw [if_neg c] at cf; omega
      rw [if_neg (by omega), if_neg (by omega)] at m4
      refine fin [3, 9, 30] _ _ (x_core _ hw hTX hen h7 h3 (by decide) (by decide) (by decide) (fun τ hK h0 hv => x_tellA hq (hv 0 (by decide)) (hv 1 (by decide)) (hv 2 (by decide)) (dX.fr hK))) (m_164 _ (fun τ τ' hN hD => hD.fr hN) hT1 hen n26 n30 (fun τ hN hT hz => m_asked hq hT (fun _ => hen) hz (m4.fr hN)) (ok _)) (fun τX τM h0 hX hM => ⟨_, _, _, _, _, _, _, _, ?_, hX, hM⟩)
      have b0 := t_v_le [3, 9, 30] _ h0 0 (by decide)
      have b1 := t_v_le [3, 9, 30] _ h0 1 (by decide)
      have b2 := t_v_le [3, 9, 30] _ h0 2 (by decide)
      simp only [List.getD_cons_zero, List.getD_cons_succ] at b0 b1 b2
      generalize t_v tp ln [3, 9, 30] (0, 0, t_en tp ln p) 0 = u0 at *
      generalize t_v tp ln [3, 9, 30] (0, 0, t_en tp ln p) 1 = u1 at *
      generalize t_v tp ln [3, 9, 30] (0, 0, t_en tp ln p) 2 = u2 at *
      refine ⟨v1, v2, by omega, v4, v5, fun i hi => ?_, fun j hj => ?_, v8, v9, v10, by omega, fun i hi => ?_, fun j hj => ?_, ?_⟩
      · rw [z_su_ne (by omega), z_su_ne (by omega), z_su_ne (by omega), z_su_ne (by omega), z_su_ne (by omega), z_su_ne (by omega), z_su_ne (by omega), z_su_ne (by omega), z_su_ne (by omega)]
        exact v6 i hi
      · by_cases e : j = q
        · subst e
          rw [z_su_ne (by omega), z_su_ne (by omega), z_su_eq, z_su_ne (by omega), z_su_eq, z_su_eq]
          omega
        · rw [z_su_ne (by omega), z_su_ne (by omega), z_su_ne (by omega), z_su_ne (by omega), z_su_ne (by omega), z_su_ne (by omega), z_su_ne (by omega), z_su_ne (by omega), z_su_ne (by omega)]
          exact v7 j (by omega)
      · rw [z_su_ne (by omega), z_su_ne (by omega), z_su_ne (by omega)]
        have := v12 i hi; omega
      · by_cases e : j = q
        · subst e
          rw [z_su_ne (by omega), z_su_ne (by omega), z_su_eq]; omega
        · rw [z_su_ne (by omega), z_su_ne (by omega), z_su_ne (by omega)]
          have := v13 j (by omega); omega
      · by_cases e : H ≤ u0
        · right; right
          exact ⟨q, by omega, by rw [z_su_ne (by omega), z_su_ne (by omega), z_su_eq]; omega⟩
        · rcases v14 with h | ⟨i, hi, h⟩ | ⟨j, hj, h⟩
          · exfalso; omega
          · right; left
            exact ⟨i, hi, by rw [z_su_ne (by omega), z_su_ne (by omega), z_su_ne (by omega)]; omega⟩
          · right; right
            exact ⟨j, by omega, by rw [z_su_ne (by omega), z_su_ne (by omega), z_su_ne (by omega)]; omega⟩
    by_cases c6 : w = 6
    · subst c6
      rw [if_pos rfl, if_neg (by omega)] at m4
      refine fin [9] _ _ (x_core _ hw hTX hen h7 h3 (by decide) (by decide) (by decide) (fun τ hK h0 hv => x_tellI v1 v2 (hv 0 (by decide)) (dX.fr hK))) (m_164 _ (fun τ τ' hN hD => hD.fr hN) hT1 hen n26 n30 (fun τ hN hT hz => m_interest hT (fun _ => hen) hz (m4.fr hN)) (ok _)) (fun τX τM h0 hX hM => ⟨_, _, _, _, _, _, _, _, ?_, hX, hM⟩)
      have b0 := t_v_le [9] _ h0 0 (by decide)
      simp only [List.getD_cons_zero] at b0
      refine ⟨v1, v2, v3, by omega, v5, fun i hi => ?_, v7, fun p' hp' => ?_, fun p' hp' => ?_, ?_, v11, v12, v13, v14⟩
      · rw [z_nu_ne (by omega)]; exact v6 i hi
      · rw [z_nu_ne (by omega), z_nu_ne (by omega)]; exact v8 p' hp'
      · rw [z_nu_ne (by omega), z_nu_ne (by omega)]; exact v9 p' hp'
      · rw [z_nu_ne (by omega), z_nu_eq, z_nu_ne (by omega), z_nu_ne (by omega), z_nu_ne (by omega)]; exact ⟨v10.1, b0, v10.2.2⟩
    by_cases c7 : w = 7
    · subst c7
      rw [if_neg (by omega), if_pos rfl] at m4
      refine fin [99] _ _ (x_core _ hw hTX hen h7 h3 (by decide) (by decide) (by decide) (fun τ hK h0 hv => x_tellC v1 v2 (hv 0 (by decide)) (dX.fr hK))) (m_164 _ (fun τ τ' hN hD => hD.fr hN) hT1 hen n26 n30 (fun τ hN hT hz => m_cover hT (fun _ => hen) hz (m4.fr hN)) (ok _)) (fun τX τM h0 hX hM => ⟨_, _, _, _, _, _, _, _, ?_, hX, hM⟩)
      have b0 := t_v_le [99] _ h0 0 (by decide)
      simp only [List.getD_cons_zero] at b0
      refine ⟨v1, v2, v3, v4, by omega, fun i hi => ?_, v7, fun p' hp' => ?_, fun p' hp' => ?_, ?_, v11, v12, v13, v14⟩
      · rw [z_nu_ne (by omega)]; exact v6 i hi
      · rw [z_nu_ne (by omega), z_nu_ne (by omega)]; exact v8 p' hp'
      · rw [z_nu_ne (by omega), z_nu_ne (by omega)]; exact v9 p' hp'
      · rw [z_nu_ne (by omega), z_nu_ne (by omega), z_nu_eq, z_nu_ne (by omega), z_nu_ne (by omega)]; exact ⟨v10.1, v10.2.1, b0, v10.2.2.2⟩
    · have hn3 : n ≤ 3 := by
        unfold d_fw at cf
        rw [if_neg c4, if_neg c5, if_neg c6, if_neg c7] at cf
        by_cases c : n < 4
        · omega
        · rw [if_neg c] at cf; omega
      rw [if_neg c6, if_neg c7] at m4
      obtain ⟨z2, z3⟩ := v9 n (by omega)
      have hn1 : z_k_NUMBERS_OF (nI w) = nI 1 := by
        have : w = 0 ∨ w = 1 ∨ w = 2 ∨ w = 3 := by omega
        rcases this with rfl | rfl | rfl | rfl <;> decide
      have hb1 : ∀ i, i < 1 → z_k_BOUNDS (nI w * 4 + nI i) = nI ([99].getD i 0) ∧ [99].getD i 0 ≤ 99 := by
        have : w = 0 ∨ w = 1 ∨ w = 2 ∨ w = 3 := by omega
        rcases this with rfl | rfl | rfl | rfl <;> decide
      refine fin [99] _ _ (x_core _ hw hTX hen h7 h3 (by decide) hn1 hb1 (fun τ hK h0 hv => x_tellP (by omega) hn3 v2 z2 z3 (hv 0 (by decide)) (dX.fr hK))) (m_164 _ (fun τ τ' hN hD => hD.fr hN) hT1 hen n26 n30 (fun τ hN hT hz => m_person (by omega) hn3 hT (fun _ => hen) hz (m4.fr hN)) (ok _)) (fun τX τM h0 hX hM => ⟨_, _, _, _, _, _, _, _, ?_, hX, hM⟩)
      have b0 := t_v_le [99] _ h0 0 (by decide)
      simp only [List.getD_cons_zero] at b0
      generalize t_v tp ln [99] (0, 0, t_en tp ln p) 0 = u0 at *
      refine ⟨by omega, v2, v3, v4, v5, fun i hi => ?_, v7, fun p' hp' => ?_, fun p' hp' => ?_, ?_, v11, v12, v13, v14⟩
      · rw [z_nu_ne (by omega), z_nu_ne (by omega)]; exact v6 i hi
      · by_cases e : p' = n
        · subst e
          rw [z_nu_ne (by omega), z_nu_eq, z_nu_eq]; omega
        · rw [z_nu_ne (by omega), z_nu_ne (by omega), z_nu_ne (by omega), z_nu_ne (by omega)]; exact v8 p' (by omega)
      · rw [z_nu_ne (by omega), z_nu_ne (by omega), z_nu_ne (by omega), z_nu_ne (by omega)]; exact v9 p' hp'
      · rw [z_nu_ne (by omega), z_nu_ne (by omega), z_nu_ne (by omega), z_nu_ne (by omega), z_nu_ne (by omega), z_nu_ne (by omega), z_nu_ne (by omega), z_nu_ne (by omega), z_nu_ne (by omega), z_nu_ne (by omega)]; exact v10
  · rw [if_neg (show ¬ nI (d_fw n k q hI hC w) = 0 from nI_ne0 (by omega) (by omega))]
    obtain ⟨σ1, m1, m2, m3⟩ := fw1 cf
    obtain ⟨σ2, j1, j2, j3, j4, j5⟩ := x_refuse (f := d_fw n k q hI hC w) h9
    rw [j1, z_be]
    exact z_LO.ref cf fw6 rfl m1 j4 j2 j3 m2 m3
end TX
