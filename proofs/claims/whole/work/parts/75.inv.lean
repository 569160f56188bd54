/-! ===== what holds between two calls: of the class (x_I), of the reference (m_I), of the numbers that both stand for (v_I) ===== -/
def w_im (st : Nat → Nat) (i : Nat) : Nat → Nat := fun j => st (45 * (i + 1) + j)
def w_N (n : Nat) (a : Nat → Nat) : Prop := a 26 ≤ 6 ∧ ∀ j, j < a 26 → a (27 + 3 * j) < n ∧ a (28 + 3 * j) ≤ 9 ∧ a (29 + 3 * j) ≤ 1
/-- a ledger that may stand -/
def w_G (n k : Nat) (a : Nat → Nat) : Prop := w_R n k (6 * a 25) a ∧ a 25 ≤ 99 ∧ a 22 < 2 ^ k ∧ w_N n a
def x_N (σ : z_St) (b : Nat) (a : Nat → Nat) : Prop := σ b 0 = nI (a 26) ∧ ∀ j, j < a 26 → σ (b + 1) j = nI (a (27 + 3 * j)) ∧ σ (b + 2) j = nI (a (28 + 3 * j)) ∧ σ (b + 3) j = nI (a (29 + 3 * j))
def v_I (n k q : Nat) (s : z_Sy) (st kp : Nat → Nat) (ln : Nat) (tp : Nat → Nat) (la : Nat → Int32) (sz : Nat → Nat) : Prop :=
  w_S n k q s ∧ w_G n k st ∧ (∀ i, i < 2 → kp i ≤ 1 ∧ (kp i = 1 → w_G n k (w_im st i))) ∧ ln ≤ 160 ∧ (∀ j, j < ln → tp j ≤ 127) ∧ (∀ j, j < 4 → (la j = -4 ∨ la j = 0 ∨ la j = 1 ∨ la j = 2) ∧ sz j ≤ 40)
def x_I (σ : z_St) (n k q : Nat) (s : z_Sy) (st kp : Nat → Nat) (ln : Nat) (tp : Nat → Nat) (ft tn : Int32) (la : Nat → Int32) (sz : Nat → Nat) (ce : Nat → Nat → Int32) : Prop :=
  x_S σ 4 k q s ∧ x_L σ 11 n k st ∧ x_N σ 23 st ∧ (∀ i, i < 2 → σ (43 + 11 * i) 0 = nI (kp i) ∧ (kp i = 1 → x_L σ (43 + 11 * i + 1) n k (w_im st i) ∧ x_N σ (43 + 11 * i + 7) (w_im st i))) ∧ (σ 27 2 = nI ln ∧ (∀ j, j < ln → σ 28 j = nI (tp j)) ∧ σ 27 3 = ft) ∧ ((∀ p, p < 4 → σ 40 p = 0 ∧ σ 41 p = 0) ∧ σ 37 6 = 0 ∧ σ 37 9 = 0) ∧ σ 0 8 = tn ∧ (∀ j, j < 4 → σ (65 + 2 * j) 0 = (if la j = -4 then -1 else la j) ∧ σ (65 + 2 * j) 1 = nI (sz j) ∧ ∀ c, c < 40 → σ (65 + 2 * j + 1) c = ce j c)
def m_I (σ : z_St) (n k q : Nat) (s : z_Sy) (st kp : Nat → Nat) (ln : Nat) (tp : Nat → Nat) (ft tn : Int32) (la : Nat → Int32) (sz : Nat → Nat) (ce : Nat → Nat → Int32) : Prop :=
  m_S σ n k q s ∧ (∀ j, j < 135 → σ 1 j = nI (st j)) ∧ (∀ i, i < 2 → σ 3 i = nI (kp i)) ∧ (σ 0 25 = nI ln ∧ (∀ j, j < ln → σ 17 j = nI (tp j)) ∧ σ 0 30 = ft) ∧ σ 0 37 = tn ∧ (∀ j, j < 4 → σ 19 j = la j ∧ σ 20 j = nI (sz j) ∧ ∀ c, c < 40 → σ 21 (40 * j + c) = ce j c)
def z_Rel (σX σM : z_St) : Prop := ∃ (n k q : Nat) (s : z_Sy) (st kp : Nat → Nat) (ln : Nat) (tp : Nat → Nat) (ft tn : Int32) (la : Nat → Int32) (sz : Nat → Nat) (ce : Nat → Nat → Int32), v_I n k q s st kp ln tp la sz ∧ x_I σX n k q s st kp ln tp ft tn la sz ce ∧ m_I σM n k q s st kp ln tp ft tn la sz ce
/-- both answer, alike, and are alike again -/
def z_Sim (TX TM : Option (Int32 × z_St)) : Prop := ∃ (r : Int32) (σX σM : z_St), TX = some (r, σX) ∧ TM = some (r, σM) ∧ z_Rel σX σM
section INV
variable {σ σ' σX σM : z_St} {n k q : Nat} {s : z_Sy} {st st' kp : Nat → Nat} {ln : Nat} {tp : Nat → Nat} {ft tn : Int32} {la : Nat → Int32} {sz : Nat → Nat} {ce : Nat → Nat → Int32}
theorem x_N.fr {b : Nat} {a : Nat → Nat} (h : x_N σ b a) (h0 : σ' b = σ b) (h1 : σ' (b + 1) = σ (b + 1)) (h2 : σ' (b + 2) = σ (b + 2)) (h3 : σ' (b + 3) = σ (b + 3)) : x_N σ' b a := by
  unfold x_N; rw [h0, h1, h2, h3]; exact h
theorem x_N.cong {b : Nat} {a a' : Nat → Nat} (h : x_N σ b a) (he : ∀ j, 26 ≤ j → j < 45 → a' j = a j) (h6 : a 26 ≤ 6) : x_N σ b a' := by
  unfold x_N
  rw [he 26 (by omega) (by omega)]
  refine ⟨h.1, fun j hj => ?_⟩
  rw [he _ (by omega) (by omega), he _ (by omega) (by omega), he _ (by omega) (by omega)]
  exact h.2 j hj
theorem x_L.cp {d : Nat} {a : Nat → Nat} (h : x_L σ d n k a) (h0 : σ' d = σ d) (h1 : σ' (d + 1) = σ (d + 1)) (h2 : σ' (d + 2) = σ (d + 2)) (h3 : σ' (d + 3) = σ (d + 3)) (h4 : σ' (d + 4) = σ (d + 4)) (h5 : σ' (d + 5) = σ (d + 5)) : x_L σ' d n k a := by
  unfold x_L; rw [h0, h1, h2, h3, h4, h5]; exact h
/-- the main ledger and the trial alone have changed -/
theorem x_I.led (h : x_I σ n k q s st kp ln tp ft tn la sz ce) (hF : ∀ c, c ≠ 1 → (c < 11 ∨ 23 ≤ c) → σ' c = σ c) (hL : x_L σ' 11 n k st') (he : ∀ j, 26 ≤ j → st' j = st j) (h6 : st 26 ≤ 6) : x_I σ' n k q s st' kp ln tp ft tn la sz ce := by
  obtain ⟨h1, h2, h3, h4, h5, h7, h8, h9⟩ := h
  have eim : ∀ i, w_im st' i = w_im st i := fun i => by
    funext j; exact he _ (by omega)
  refine ⟨?_, hL, ?_, fun i hi => ?_, ?_, ?_, ?_, fun j hj => ?_⟩
  · unfold x_S
    rw [hF 4 (by omega) (by omega), hF (4 + 1) (by omega) (by omega), hF (4 + 2) (by omega) (by omega), hF (4 + 3) (by omega) (by omega), hF (4 + 4) (by omega) (by omega), hF (4 + 5) (by omega) (by omega), hF (4 + 6) (by omega) (by omega)]
    exact h1
  · exact (h3.fr (hF 23 (by omega) (by omega)) (hF _ (by omega) (by omega)) (hF _ (by omega) (by omega)) (hF _ (by omega) (by omega))).cong (fun j hj _ => he j hj) h6
  · rw [hF _ (by omega) (by omega), eim]
    obtain ⟨g1, g2⟩ := h4 i hi
    refine ⟨g1, fun e => ⟨(g2 e).1.cp (hF _ (by omega) (by omega)) (hF _ (by omega) (by omega)) (hF _ (by omega) (by omega)) (hF _ (by omega) (by omega)) (hF _ (by omega) (by omega)) (hF _ (by omega) (by omega)), (g2 e).2.fr (hF _ (by omega) (by omega)) (hF _ (by omega) (by omega)) (hF _ (by omega) (by omega)) (hF _ (by omega) (by omega))⟩⟩
  · rw [hF 27 (by omega) (by omega), hF 28 (by omega) (by omega)]; exact h5
  · rw [hF 40 (by omega) (by omega), hF 41 (by omega) (by omega), hF 37 (by omega) (by omega)]; exact h7
  · rw [hF 0 (by omega) (by omega)]; exact h8
  · rw [hF _ (by omega) (by omega), hF (65 + 2 * j + 1) (by omega) (by omega)]; exact h9 j hj
theorem x_I.tri (h : x_I σ n k q s st kp ln tp ft tn la sz ce) (hF : ∀ c, c ≠ 1 → (c < 17 ∨ 23 ≤ c) → σ' c = σ c) (h6 : st 26 ≤ 6) : x_I σ' n k q s st kp ln tp ft tn la sz ce :=
  h.led (fun c h1 h2 => hF c h1 (by omega)) (h.2.1.cp (hF _ (by omega) (by omega)) (hF _ (by omega) (by omega)) (hF _ (by omega) (by omega)) (hF _ (by omega) (by omega)) (hF _ (by omega) (by omega)) (hF _ (by omega) (by omega))) (fun _ _ => rfl) h6
theorem x_I.tri17 (h : x_I σ n k q s st kp ln tp ft tn la sz ce) (hF : x_F σ σ' 17) (h6 : st 26 ≤ 6) : x_I σ' n k q s st kp ln tp ft tn la sz ce := h.tri (fun c _ h2 => hF c (by omega)) h6
theorem m_I.at' (h : m_I σ n k q s st kp ln tp ft tn la sz ce) (hF : m_F σ σ') : m_I σ' n k q s st kp ln tp ft tn la sz ce := by
  obtain ⟨h1, h2, h3, h4, h5, h6⟩ := h
  refine ⟨h1.fr hF, ?_, ?_, ?_, ?_, ?_⟩
  · rw [hF.1 1 (by omega) (by omega)]; exact h2
  · rw [hF.1 3 (by omega) (by omega)]; exact h3
  · rw [hF.2 25 (by omega), hF.2 30 (by omega), hF.1 17 (by omega) (by omega)]; exact h4
  · rw [hF.2 37 (by omega)]; exact h5
  · rw [hF.1 19 (by omega) (by omega), hF.1 20 (by omega) (by omega), hF.1 21 (by omega) (by omega)]; exact h6
theorem m_I.stp (h : m_I σ n k q s st kp ln tp ft tn la sz ce) (c v : Nat) : m_I (z_put σ 1 c (nI v)) n k q s (z_nu st c v) kp ln tp ft tn la sz ce := by
  obtain ⟨h1, h2, h3, h4, h5, h6⟩ := h
  refine ⟨?_, fun j hj => ?_, ?_, ?_, ?_, ?_⟩
  · unfold m_S
    rw [z_put_ne (by omega), z_put_ne (by omega), z_put_ne (by omega), z_put_ne (by omega), z_put_ne (by omega), z_put_ne (by omega), z_put_ne (by omega)]
    exact h1
  · rw [z_put_eq]
    by_cases e : j = c
    · subst e; rw [z_upd_eq, z_nu_eq]
    · rw [z_upd_ne e, z_nu_ne e]; exact h2 j hj
  · rw [z_put_ne (by omega)]; exact h3
  · rw [z_put_ne (by omega), z_put_ne (by omega)]; exact h4
  · rw [z_put_ne (by omega)]; exact h5
  · rw [z_put_ne (by omega), z_put_ne (by omega), z_put_ne (by omega)]; exact h6
/-! numbers in their bounds, or not -/
theorem zn_rng (x : Int32) {m : Nat} (hm : m < 2147483648) : (∃ j, j < m ∧ x = nI j) ∨ (x < 0 ∨ nI m ≤ x) := by
  rcases pk_ix x hm with h | h | h
  · exact Or.inr (Or.inl h)
  · exact Or.inr (Or.inr h)
  · exact Or.inl h
theorem x_with_in {j m : Nat} (h : j ≤ m) (hm : m < 2147483648) : f_X6_isWithin (nI j) (nI m) σ = some (1, σ) := by
  unfold f_X6_isWithin
  simp (disch := omega) only [zn_lit, zn_lt]
  rw [if_neg (by omega), if_neg (by omega)]
theorem x_with_out {x : Int32} {m : Nat} (hm : m < 2147483647) (h : x < 0 ∨ nI (m + 1) ≤ x) : f_X6_isWithin x (nI m) σ = some (0, σ) := by
  unfold f_X6_isWithin
  rcases h with h | h
  · rw [if_pos h]
  · by_cases h0 : x < 0
    · rw [if_pos h0]
    · rw [if_neg h0, if_pos]
      have h1 := (fa_le _ _).mp h
      rw [nI_toInt (by omega)] at h1
      rw [fa_lt, nI_toInt (by omega)]
      omega
theorem x_one_in {p : Nat} (hN : σ 11 0 = nI n) (hn : n ≤ 4) (h : p < n) : f_X6_isOne (nI p) σ = some (1, σ) := by
  unfold f_X6_isOne
  rw [hN]
  simp (disch := omega) only [zn_lit, zn_lt, zn_le]
  rw [if_neg (by omega), if_neg (by omega)]
theorem x_one_out {x : Int32} (hN : σ 11 0 = nI n) (h : x < 0 ∨ nI n ≤ x) : f_X6_isOne x σ = some (0, σ) := by
  unfold f_X6_isOne
  rw [hN]
  rcases h with h | h
  · rw [if_pos h]
  · rw [if_pos h]
    split <;> rfl
theorem x_inc_in {i : Nat} (hN : σ 4 0 = nI k) (hk : k ≤ 6) (h : i < k) : f_X6_isIncident (nI i) σ = some (1, σ) := by
  unfold f_X6_isIncident
  rw [hN]
  simp (disch := omega) only [zn_lit, zn_lt, zn_le]
  rw [if_neg (by omega), if_neg (by omega)]
theorem x_inc_out {x : Int32} (hN : σ 4 0 = nI k) (h : x < 0 ∨ nI k ≤ x) : f_X6_isIncident x σ = some (0, σ) := by
  unfold f_X6_isIncident
  rw [hN]
  rcases h with h | h
  · rw [if_pos h]
  · rw [if_pos h]
    split <;> rfl
theorem lg_lt {x y : Int64} : (lg_cmp x y < 0) ↔ x < y := by
  unfold lg_cmp
  by_cases h : x > y
  · rw [if_pos h]
    have := (fa_lt64 _ _).mp h
    constructor
    · intro q; exact absurd q (by decide)
    · intro q; have := (fa_lt64 _ _).mp q; omega
  · rw [if_neg h]
    by_cases e : x = y
    · rw [if_pos e]; subst e
      constructor
      · intro q; exact absurd q (by decide)
      · intro q; exact absurd q h
    · rw [if_neg e]
      constructor
      · intro _
        have h1 : ¬ y.toInt < x.toInt := fun q => h ((fa_lt64 _ _).mpr q)
        have h2 : ¬ x.toInt = y.toInt := fun q => e ((fa_eq64 _ _).mpr q)
        exact (fa_lt64 _ _).mpr (by omega)
      · intro _; decide
theorem lg_gt {x y : Int64} : (0 < lg_cmp x y) ↔ y < x := by
  unfold lg_cmp
  by_cases h : x > y
  · rw [if_pos h]
    exact ⟨fun _ => h, fun _ => by decide⟩
  · rw [if_neg h]
    constructor
    · intro q
      by_cases e : x = y
      · rw [if_pos e] at q; exact absurd q (by decide)
      · rw [if_neg e] at q; exact absurd q (by decide)
    · intro q; exact absurd q h
theorem m_in_in {x : Int32} {lo hi : Int64} (h1 : lo.toInt ≤ x.toInt) (h2 : x.toInt ≤ hi.toInt) : f_X7_in x.toInt64 lo hi σ = some (1, σ) := by
  unfold f_X7_in
  rw [if_neg (fun q => by have := (fa_lt64 _ _).mp (lg_lt.mp q); rw [Int32.toInt_toInt64] at this; omega), if_neg (fun q => by have := (fa_lt64 _ _).mp (lg_gt.mp q); rw [Int32.toInt_toInt64] at this; omega)]
theorem m_in_out {x : Int32} {lo hi : Int64} (h : x.toInt < lo.toInt ∨ hi.toInt < x.toInt) : f_X7_in x.toInt64 lo hi σ = some (0, σ) := by
  unfold f_X7_in
  by_cases h1 : lg_cmp x.toInt64 lo < 0
  · rw [if_pos h1]
  · rw [if_neg h1]
    have h2 : ¬ x.toInt < lo.toInt := fun q => h1 (lg_lt.mpr ((fa_lt64 _ _).mpr (by rw [Int32.toInt_toInt64]; exact q)))
    rw [if_pos (lg_gt.mpr ((fa_lt64 _ _).mpr (by rw [Int32.toInt_toInt64]; omega)))]
theorem zn_out {x : Int32} {m : Nat} (hm : m < 2147483648) (h : x < 0 ∨ nI m ≤ x) : x.toInt < 0 ∨ (m : Int) ≤ x.toInt := by
  rcases h with h | h
  · exact Or.inl ((fa_lt _ _).mp h)
  · right; have := (fa_le _ _).mp h; rw [nI_toInt hm] at this; exact this
theorem m_one_in {p : Nat} (hN : σ 0 3 = nI n) (hn : n ≤ 4) (h : p < n) : f_X7_isOne (nI p) σ = some (1, σ) := by
  unfold f_X7_isOne
  rw [hN, m_in_in, z_bind_eq]
  · rfl
  · rw [nI_toInt (by omega)]; show (0 : Int) ≤ _; omega
  · rw [Int32.toInt_toInt64, show (1 : Int32) = nI 1 from rfl, zn_sub (by omega), nI_toInt (by omega), nI_toInt (by omega)]; omega
theorem m_one_out {x : Int32} (hN : σ 0 3 = nI n) (hn : n ≤ 4) (h : x < 0 ∨ nI n ≤ x) : f_X7_isOne x σ = some (0, σ) := by
  have h' := zn_out (by omega) h
  unfold f_X7_isOne
  rw [hN, m_in_out, z_bind_eq]
  · rfl
  · have e : (nI n - 1).toInt64.toInt = (n : Int) - 1 := by
      rw [Int32.toInt_toInt64]
      have := pk_sub_toInt (a := n) (b := 1) (by omega) (by omega)
      exact this
    rw [e]
    rcases h' with h' | h'
    · exact Or.inl h'
    · right; omega
theorem m_trip_in {i : Nat} (hN : σ 0 4 = nI k) (hk : k ≤ 6) (h : i < k) : f_X7_isTrip (nI i) σ = some (1, σ) := by
  unfold f_X7_isTrip
  rw [hN, m_in_in, z_bind_eq]
  · rfl
  · rw [nI_toInt (by omega)]; show (0 : Int) ≤ _; omega
  · rw [Int32.toInt_toInt64, show (1 : Int32) = nI 1 from rfl, zn_sub (by omega), nI_toInt (by omega), nI_toInt (by omega)]; omega
theorem m_trip_out {x : Int32} (hN : σ 0 4 = nI k) (hk : k ≤ 6) (h : x < 0 ∨ nI k ≤ x) : f_X7_isTrip x σ = some (0, σ) := by
  have h' := zn_out (by omega) h
  unfold f_X7_isTrip
  rw [hN, m_in_out, z_bind_eq]
  · rfl
  · have e : (nI k - 1).toInt64.toInt = (k : Int) - 1 := by
      rw [Int32.toInt_toInt64]
      have := pk_sub_toInt (a := k) (b := 1) (by omega) (by omega)
      exact this
    rw [e]
    rcases h' with h' | h'
    · exact Or.inl h'
    · right; omega
/-- a number between two constants -/
theorem m_lit_in {j m : Nat} {hi : Int64} (h : j ≤ m) (hm : m < 2147483648) (e : hi.toInt = m) : f_X7_in (nI j).toInt64 (0 : Int64) hi σ = some (1, σ) := by
  rw [m_in_in]
  · rw [nI_toInt (by omega)]; show (0 : Int) ≤ _; omega
  · rw [nI_toInt (by omega), e]; omega
theorem m_lit_out {x : Int32} {m : Nat} {hi : Int64} (hm : m < 2147483647) (e : hi.toInt = m) (h : x < 0 ∨ nI (m + 1) ≤ x) : f_X7_in x.toInt64 (0 : Int64) hi σ = some (0, σ) := by
  have h' := zn_out (by omega) h
  rw [m_in_out]
  rw [e]
  rcases h' with h' | h'
  · exact Or.inl h'
  · right; omega
theorem m_part_in {j : Nat} (h : j ≤ 1) : f_X7_isPart (nI j) σ = some (1, σ) := by
  unfold f_X7_isPart
  rw [m_lit_in h (by omega) (by decide), z_bind_eq]; rfl
theorem m_part_out {x : Int32} (h : x < 0 ∨ nI 2 ≤ x) : f_X7_isPart x σ = some (0, σ) := by
  unfold f_X7_isPart
  rw [m_lit_out (m := 1) (by omega) (by decide) h, z_bind_eq]; rfl
end INV
