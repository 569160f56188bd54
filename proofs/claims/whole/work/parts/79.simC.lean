/-! ===== deposit, draw, rumour ===== -/
theorem zb_clr : ∀ d, d < 64 → ∀ i, i < 6 → nI d &&& (((1 : Int32) <<< (nI i &&& 31)) ^^^ (-1 : Int32)) = nI (d &&& (63 - 2 ^ i)) := by decide +kernel
theorem zb_set {d i : Nat} (hi : i < 6) : nI d ||| ((1 : Int32) <<< (nI i &&& 31)) = nI (d ||| 2 ^ i) := by rw [z_shl1 i (by omega), fa_or]
def w_ru1 (s : z_Sy) (p : Nat) (a : Nat → Nat) (i : Nat) : Nat → Nat := if s 0 i = p ∧ a 25 ≤ s 1 i ∧ a (16 + i) ≠ 9 then z_nu a (16 + i) 9 else a
def w_rus (s : z_Sy) (p : Nat) (a : Nat → Nat) : Nat → Nat → Nat
  | 0 => a
  | i + 1 => w_ru1 s p (w_rus s p a i) i
def w_rct (s : z_Sy) (p : Nat) (a : Nat → Nat) : Nat → Nat
  | 0 => 0
  | i + 1 => w_rct s p a i + (if s 0 i = p ∧ w_rus s p a i 25 ≤ s 1 i ∧ w_rus s p a i (16 + i) ≠ 9 then 1 else 0)
section SC
variable {σX σM σ σ' : z_St} {b n k q B : Nat} {s : z_Sy} {st st' kp : Nat → Nat} {ln : Nat} {tp : Nat → Nat} {ft tn : Int32} {la : Nat → Int32} {sz : Nat → Nat} {ce : Nat → Nat → Int32} {a a' : Nat → Nat}
theorem x_L.cong (h : x_L σ b n k a) (hn : n ≤ 4) (hk : k ≤ 6) (he : ∀ j, j < 26 → a' j = a j) : x_L σ b n k a' := by
  obtain ⟨h1, h2, h3, h4, h5, h6, h7⟩ := h
  refine ⟨h1, fun p hp => ?_, fun i hi => ?_, ?_, ?_, ?_, ?_⟩
  · rw [he _ (by omega), he _ (by omega), he _ (by omega), he _ (by omega)]; exact h2 p hp
  · rw [he _ (by omega)]; exact h3 i hi
  · rw [he _ (by omega)]; exact h4
  · rw [he _ (by omega)]; exact h5
  · rw [he _ (by omega)]; exact h6
  · rw [he _ (by omega)]; exact h7
theorem w_R.cong (h : w_R n k B a) (hn : n ≤ 4) (hk : k ≤ 6) (he : ∀ j, j < 26 → a' j = a j) : w_R n k B a' := by
  obtain ⟨h1, h2, h3, h4, h5, h6⟩ := h
  refine ⟨fun p hp => ?_, fun i hi => ?_, ?_, ?_, ?_, ?_⟩
  · rw [he _ (by omega), he _ (by omega), he _ (by omega), he _ (by omega)]; exact h1 p hp
  · rw [he _ (by omega)]; exact h2 i hi
  · rw [he _ (by omega)]; exact h3
  · rw [he _ (by omega)]; exact h4
  · rw [he _ (by omega)]; exact h5
  · rw [he _ (by omega)]; exact h6
theorem sim_deposit (h : z_Rel σX σM) (x y : Int32) : z_Sim (f_X6_deposit x y σX) (f_X7_deposit x y σM) := by
  have h0 := h
  obtain ⟨n, k, q, s, st, kp, ln, tp, ft, tn, la, sz, ce, hv, hx, hm⟩ := h
  have hn := hv.1.1
  have hk := hv.1.2.1
  have hL := hx.2.1
  have hst := hm.2.1
  have hG := hv.2.1
  have wR := hG.1
  have put : ∀ w, w < 2 ^ k → z_Rel (z_put σX 11 6 (nI w)) (z_put σM 1 22 (nI w)) := by
    intro w h1
    have h64 : 2 ^ k ≤ 2 ^ 6 := Nat.pow_le_pow_right (by omega) hk
    refine ⟨n, k, q, s, z_nu st 22 w, kp, ln, tp, ft, tn, la, sz, ce, ?_, ?_, ?_⟩
    · have e25 : z_nu st 22 w 25 = st 25 := z_nu_ne (by omega)
      refine hv.core (hG.core ?_ (by rw [e25]; exact hG.2.1) (by rw [z_nu_eq]; exact h1) (fun i hi => z_nu_ne (by omega))) (fun i hi => z_nu_ne (by omega))
      rw [e25]
      exact wR.fld hn hk (by omega) (fun _ => by omega) (by omega) (by omega) (by omega)
    · exact hx.led (fun c _ h2 => by rw [z_put_ne (by omega)]) (hL.fld hn hk (j := 6) (by omega) (by omega)) (fun i hi => z_nu_ne (by omega)) hG.2.2.2.1
    · exact hm.stp _ _
  unfold f_X6_deposit f_X7_deposit
  rcases zn_rng x (m := k) (by omega) with ⟨i, hi, rfl⟩ | ho
  · rw [x_inc_in hx.1.1 hk hi, m_trip_in hm.1.2.1 hk hi]
    simp only [z_bind_eq, z_t1, if_false]
    obtain ⟨-, e2, -⟩ := hx.1.2.2.1 i hi
    obtain ⟨-, f2, -⟩ := hm.1.2.2.2.1 i hi
    rw [hL.2.2.2.2.2.2, hst 25 (by omega), hst 22 (by omega)]
    simp (disch := omega) only [z_gd_nI, zn_cl, e2, f2]
    refine z_Sim.ite (fun _ => ?_) (fun _ => z_Sim.same h0 rfl rfl)
    rw [x_dep wR hL hk hi]
    unfold f_X6_deposit_48
    have lt1 : st 22 ||| 2 ^ i < 2 ^ k := Nat.or_lt_two_pow hG.2.2.1 (Nat.pow_lt_pow_right (by omega) hi)
    have lt2 : st 22 &&& (63 - 2 ^ i) < 2 ^ k := Nat.lt_of_le_of_lt Nat.and_le_left hG.2.2.1
    simp only [z_bind_eq, z_bi_eq, z_bst_eq, hL.2.2.2.1]
    rw [z_bit _ wR.2.2.1 i (by omega), zb_clr _ wR.2.2.1 i (by omega), zb_set (by omega)]
    by_cases hd : st 22 / 2 ^ i % 2 = 1
    · rw [if_pos hd, hd, if_neg (by decide)]
      exact z_Sim.ite (fun _ => ⟨_, _, _, rfl, rfl, put _ lt2⟩) (fun _ => ⟨_, _, _, rfl, rfl, put _ lt1⟩)
    · rw [if_neg hd, show st 22 / 2 ^ i % 2 = 0 by omega, if_pos rfl]
      exact z_Sim.ite (fun _ => ⟨_, _, _, rfl, rfl, put _ lt2⟩) (fun _ => ⟨_, _, _, rfl, rfl, put _ lt1⟩)
  · rw [x_inc_out hx.1.1 ho, m_trip_out hm.1.2.1 hk ho]
    exact z_Sim.same h0 rfl rfl
/-- v of one's blush drawn -/
def w_da (a : Nat → Nat) (p v : Nat) : Nat → Nat := z_nu (z_nu (z_nu a (4 * p + 2) (a (4 * p + 2) - v)) (4 * p + 1) (a (4 * p + 1) + v)) 24 (a 24 - v)
def w_dok (n : Nat) (a : Nat → Nat) (p v : Nat) : Prop := p < n ∧ v ≤ 99 ∧ v ≤ a (4 * p + 2) ∧ v ≤ a 24 ∧ a (4 * p + 1) + v ≤ 999
/-- draw of the class (of a ledger b) and of the reference, at any numbers: both refuse alike, or both draw -/
theorem z_take (hn : n ≤ 4) (hk : k ≤ 6) (wR : w_R n k B a) (hL : x_L σX b n k a) (hN : σM 0 3 = nI n) (hst : ∀ j, j < 45 → σM 1 j = nI (a j)) (x y : Int32) :
    (∃ r : Int32, r < 0 ∧ f_X1_takeOut b x y σX = some (r, σX) ∧ f_X7_draw x y σM = some (r, σM)) ∨ (∃ (p v : Nat) (σX' σM' : z_St), w_dok n a p v ∧ f_X1_takeOut b x y σX = some (nI (a 24 - v), σX') ∧ f_X7_draw x y σM = some (nI (a 24 - v), σM') ∧ x_L σX' b n k (w_da a p v) ∧ x_F σX σX' b ∧ σM' = z_put (z_put (z_put σM 1 (4 * p + 2) (nI (a (4 * p + 2) - v))) 1 (4 * p + 1) (nI (a (4 * p + 1) + v))) 1 24 (nI (a 24 - v))) := by
  unfold f_X1_takeOut f_X7_draw
  rw [hL.1]
  rcases zn_rng x (m := n) (by omega) with ⟨p, hp, rfl⟩ | ho
  · rw [m_one_in hN hn hp]
    rw [if_neg (nI_pos (by omega) : ¬ nI p < 0), if_neg (by simp (disch := omega) only [zn_le]; omega)]
    simp only [z_bind_eq, z_t1, if_false]
    rcases zn_rng y (m := 100) (by omega) with ⟨v, hvv, rfl⟩ | ho
    · rw [show f_X6_isWithin (nI v) 99 σX = _ from x_with_in (m := 99) (by omega) (by omega), m_lit_in (m := 99) (by omega) (by omega) (by decide)]
      simp only [z_bind_eq, z_t1, if_false]
      obtain ⟨-, e1, e2, -⟩ := hL.2.1 p hp
      obtain ⟨-, r1, r2, -⟩ := wR.1 p hp
      have e8 := hL.2.2.2.2.2.1
      have r8 := wR.2.2.2.2.1
      by_cases c1 : a (4 * p + 2) < v
      · left
        refine ⟨-2, by decide, ?_, ?_⟩
        · simp (disch := omega) only [z_gd_nI, zn_cl, e2, zn_lt]
          rw [if_pos c1]
        · simp (disch := omega) only [zn_lit, zn_mul, zn_add, z_gd_nI, zn_cl, hst, zn_lt]
          rw [if_pos c1]
      · by_cases c2 : v ≤ a 24
        · by_cases c3 : a (4 * p + 1) + v ≤ 999
          · right
            refine ⟨p, v, z_put (z_put (z_put σX (b + 3) p (nI (a (4 * p + 2) - v))) b 8 (nI (a 24 - v))) (b + 2) p (nI (a (4 * p + 1) + v)), _, ⟨hp, by omega, by omega, c2, c3⟩, ?_, ?_, ?_, ((x_F.rf.put (by omega) (by omega)).put (by omega) (by omega)).put (by omega) (by omega), rfl⟩
            · simp (disch := omega) only [zn_lit, z_gd_nI, zn_cl, e1, e2, e8, zn_lt, zn_le, zn_add, zn_sub, z_bst_eq, z_put_eq, z_put_ne, z_upd_eq]
              rw [if_neg c1, if_pos c2, if_pos c3]
            · simp (disch := omega) only [zn_lit, zn_mul, zn_add, z_gd_nI, zn_cl, hst, zn_lt, zn_le, zn_sub, z_bst_eq, z_put_eq, z_upd_ne, z_upd_eq]
              rw [if_neg c1, if_pos c2, if_pos c3]
            · have h := ((hL.bank hn hp (v := a (4 * p + 2) - v)).fld hn hk (j := 8) (v := a 24 - v) (by omega) (by omega)).hand hn hp (v := a (4 * p + 1) + v)
              rw [z_nu_comm (by omega)] at h
              exact h
          · left
            refine ⟨-3, by decide, ?_, ?_⟩
            · simp (disch := omega) only [zn_lit, z_gd_nI, zn_cl, e1, e2, e8, zn_lt, zn_le, zn_add]
              rw [if_neg c1, if_pos c2, if_neg c3]
            · simp (disch := omega) only [zn_lit, zn_mul, zn_add, z_gd_nI, zn_cl, hst, zn_lt, zn_le]
              rw [if_neg c1, if_pos c2, if_neg c3]
        · left
          refine ⟨-2, by decide, ?_, ?_⟩
          · simp (disch := omega) only [z_gd_nI, zn_cl, e2, e8, zn_lt, zn_le]
            rw [if_neg c1, if_neg c2]
          · simp (disch := omega) only [zn_lit, zn_mul, zn_add, z_gd_nI, zn_cl, hst, zn_lt, zn_le]
            rw [if_neg c1, if_neg c2]
    · left
      refine ⟨-1, by decide, ?_, ?_⟩
      · rw [show f_X6_isWithin y 99 σX = _ from x_with_out (m := 99) (by omega) ho]; rfl
      · rw [m_lit_out (m := 99) (by omega) (by decide) ho]; rfl
  · left
    refine ⟨-1, by decide, ?_, ?_⟩
    · rcases ho with ho | ho
      · rw [if_pos ho]
      · rw [if_pos ho]; split <;> rfl
    · rw [m_one_out hN hn ho]; rfl
theorem w_da_G (hn : n ≤ 4) (hk : k ≤ 6) {p v : Nat} (h : w_dok n a p v) (wR : w_R n k B a) : w_R n k B (w_da a p v) := by
  obtain ⟨h1, h2, h3, h4, h5⟩ := h
  have r := wR.1 p h1
  have r8 := wR.2.2.2.2.1
  exact ((wR.bank hn h1 (by omega)).hand hn h1 (by omega)).fld hn hk (by omega) (by omega) (by omega) (by omega) (by omega)
theorem w_da_k {p v j : Nat} (hp : p < 4) (hj : 16 ≤ j) (hj2 : j ≠ 24) : w_da a p v j = a j := by
  unfold w_da
  rw [z_nu_ne (by omega), z_nu_ne (by omega), z_nu_ne (by omega)]
theorem sim_draw (h : z_Rel σX σM) (x y : Int32) : z_Sim (f_X6_draw x y σX) (f_X7_draw x y σM) := by
  have h0 := h
  obtain ⟨n, k, q, s, st, kp, ln, tp, ft, tn, la, sz, ce, hv, hx, hm⟩ := h
  have hn := hv.1.1
  have hk := hv.1.2.1
  have hG := hv.2.1
  unfold f_X6_draw
  rcases z_take hn hk hG.1 hx.2.1 hm.1.1 (fun j hj => hm.2.1 j (by omega)) x y with ⟨r, -, e1, e2⟩ | ⟨p, v, σX', σM', hd, e1, e2, hL', hF, rfl⟩
  · rw [e1, e2]; exact z_Sim.same h0 rfl rfl
  · rw [e1, e2]
    have hp := hd.1
    refine ⟨_, _, _, rfl, rfl, n, k, q, s, w_da st p v, kp, ln, tp, ft, tn, la, sz, ce, ?_, ?_, ?_⟩
    · refine hv.core (hG.core ?_ (by rw [w_da_k (by omega) (by omega) (by omega)]; exact hG.2.1) (by rw [w_da_k (by omega) (by omega) (by omega)]; exact hG.2.2.1) (fun i hi => w_da_k (by omega) (by omega) (by omega))) (fun i hi => w_da_k (by omega) (by omega) (by omega))
      rw [w_da_k (by omega) (by omega) (by omega)]
      exact w_da_G hn hk hd hG.1
    · exact hx.led (fun c _ h2 => hF c (by omega)) hL' (fun i hi => w_da_k (by omega) (by omega) (by omega)) hG.2.2.2.1
    · exact ((hm.stp _ _).stp _ _).stp _ _
/-! a rumour -/
theorem w_rus_k (hk : k ≤ 6) {p j : Nat} (hj : j < 16 ∨ 22 ≤ j) : ∀ {i : Nat}, i ≤ k → w_rus s p a i j = a j
  | 0, _ => rfl
  | i + 1, h => by
    rw [w_rus, w_ru1]
    split
    · rw [z_nu_ne (by omega)]; exact w_rus_k hk hj (by omega)
    · exact w_rus_k hk hj (by omega)
theorem w_R_rus (hn : n ≤ 4) (hk : k ≤ 6) {p : Nat} (wR : w_R n k B a) : ∀ {i : Nat}, i ≤ k → w_R n k B (w_rus s p a i)
  | 0, _ => wR
  | i + 1, h => by
    rw [w_rus, w_ru1]
    split
    · exact (w_R_rus hn hk wR (by omega)).seen hn hk (by omega) (by omega)
    · exact w_R_rus hn hk wR (by omega)
theorem x_rumour (hb : 11 ≤ b) (wS : w_S n k q s) (wR : w_R n k B a) {p : Nat} (hp : p < n) : ∀ (m i F : Nat) (σ : z_St), k = i + m → m < F → x_S σ 4 k q s → x_L σ b n k (w_rus s p a i) → ∃ σ', f_X1_spreadRumour_5 b 4 F (nI p) (nI (w_rct s p a i)) (nI i) σ = some (nI (w_rct s p a k), σ') ∧ x_L σ' b n k (w_rus s p a k) ∧ x_F σ σ' b := by
  intro m
  induction m with
  | zero =>
    intro i F σ hm hF hS hL
    obtain ⟨F, rfl⟩ : ∃ F', F = F' + 1 := ⟨F - 1, by omega⟩
    have e : i = k := by omega
    subst e
    have := wS.2.1
    refine ⟨σ, ?_, hL, x_F.rf⟩
    rw [f_X1_spreadRumour_5, hS.1, if_pos (by simp (disch := omega) only [zn_le]; omega)]
  | succ m ih =>
    intro i F σ hm hF hS hL
    obtain ⟨F, rfl⟩ : ∃ F', F = F' + 1 := ⟨F - 1, by omega⟩
    have hk := wS.2.1
    have hn := wS.1
    have hi : i < k := by omega
    have wRi := w_R_rus (s := s) (p := p) hn hk wR (i := i) (by omega)
    obtain ⟨e1, e2, e3⟩ := hS.2.2.1 i hi
    have t := wS.2.2.2.1 i hi
    have e5 := hL.2.2.1 i hi
    have r5 := wRi.2.1 i hi
    have h25 := hL.2.2.2.2.2.2
    have r25 := wRi.2.2.2.2.2
    rw [f_X1_spreadRumour_5, hS.1]
    simp (disch := omega) only [zn_lit, z_gd_nI, zn_cl, e1, e2, e5, h25, zn_le, zn_eq, zn_lt, zn_add, z_bst_eq]
    rw [if_neg (by omega)]
    by_cases hc : s 0 i = p ∧ w_rus s p a i 25 ≤ s 1 i ∧ w_rus s p a i (16 + i) ≠ 9
    · have ew : w_rus s p a (i + 1) = z_nu (w_rus s p a i) (16 + i) 9 := by rw [w_rus, w_ru1, if_pos hc]
      have ec : w_rct s p a (i + 1) = w_rct s p a i + 1 := by rw [w_rct, if_pos hc]
      rw [if_pos hc.1, if_neg (by omega), if_neg hc.2.2]
      obtain ⟨σ2, i1, i2, i3⟩ := ih (i + 1) F (z_put σ (b + 5) i (nI 9)) (by omega) (by omega) (hS.fr hb (x_F.rf.put (by omega) (by omega))) (by rw [ew]; exact hL.seen hn hk hi)
      rw [ec] at i1
      exact ⟨σ2, i1, i2, (x_F.rf.put (by omega) (by omega)).tr i3⟩
    · have ew : w_rus s p a (i + 1) = w_rus s p a i := by rw [w_rus, w_ru1, if_neg hc]
      have ec : w_rct s p a (i + 1) = w_rct s p a i := by rw [w_rct, if_neg hc]; rfl
      obtain ⟨σ2, i1, i2, i3⟩ := ih (i + 1) F σ (by omega) (by omega) hS (by rw [ew]; exact hL)
      rw [ec] at i1
      refine ⟨σ2, ?_, i2, i3⟩
      by_cases h1 : s 0 i = p
      · rw [if_pos h1]
        by_cases h2 : s 1 i < w_rus s p a i 25
        · rw [if_pos h2]; exact i1
        · rw [if_neg h2]
          by_cases h3 : w_rus s p a i (16 + i) = 9
          · rw [if_pos h3]; exact i1
          · exact absurd ⟨h1, by omega, h3⟩ hc
      · rw [if_neg h1]; exact i1
theorem m_rumour (wS : w_S n k q s) (wR : w_R n k B a) {p : Nat} (hp : p < n) : ∀ (m i F : Nat) (σ : z_St), k = i + m → m < F → m_S σ n k q s → m_A σ (w_rus s p a i) → ∃ σ', f_X7_rumoured_4 F (nI p) (nI (w_rct s p a i)) (nI i) σ = some (nI (w_rct s p a k), σ') ∧ m_A σ' (w_rus s p a k) ∧ m_F σ σ' := by
  intro m
  induction m with
  | zero =>
    intro i F σ hm hF hS hA
    obtain ⟨F, rfl⟩ : ∃ F', F = F' + 1 := ⟨F - 1, by omega⟩
    have e : i = k := by omega
    subst e
    have := wS.2.1
    refine ⟨σ, ?_, hA, m_F.rf⟩
    rw [f_X7_rumoured_4, hS.2.1, if_pos (by simp (disch := omega) only [zn_le]; omega)]
  | succ m ih =>
    intro i F σ hm hF hS hA
    obtain ⟨F, rfl⟩ : ∃ F', F = F' + 1 := ⟨F - 1, by omega⟩
    have hk := wS.2.1
    have hn := wS.1
    have hi : i < k := by omega
    have wRi := w_R_rus (s := s) (p := p) hn hk wR (i := i) (by omega)
    obtain ⟨e1, e2, e3⟩ := hS.2.2.2.1 i hi
    have t := wS.2.2.2.1 i hi
    have e5 := hA (16 + i) (by omega)
    have r5 := wRi.2.1 i hi
    have h25 := hA 25 (by omega)
    have r25 := wRi.2.2.2.2.2
    -- what a step does, by whether the incident changes
    have stay : f_X7_rumoured_57 (fun x1 x2 x3 σ => f_X7_rumoured_4 F x1 x2 x3 σ) (nI p) (nI (w_rct s p a i)) (nI i) (nI 0) σ = f_X7_rumoured_4 F (nI p) (nI (w_rct s p a i)) (nI (i + 1)) (z_put σ 2 (16 + i) (nI (w_rus s p a i (16 + i)))) := by
      unfold f_X7_rumoured_57
      rw [m_flag_nI (by omega)]
      simp (disch := omega) only [zn_lit, z_bind_eq, zn_eq, zn_add, z_gd_nI, zn_cl, z_bst_eq, e5]
      rw [if_pos trivial]; rfl
    have turn : f_X7_rumoured_57 (fun x1 x2 x3 σ => f_X7_rumoured_4 F x1 x2 x3 σ) (nI p) (nI (w_rct s p a i)) (nI i) (nI 1) σ = f_X7_rumoured_4 F (nI p) (nI (w_rct s p a i + 1)) (nI (i + 1)) (z_put σ 2 (16 + i) (nI 9)) := by
      unfold f_X7_rumoured_57
      rw [m_flag_nI (by omega)]
      simp (disch := omega) only [zn_lit, z_bind_eq, zn_eq, zn_add, z_gd_nI, zn_cl, z_bst_eq]
      rw [if_neg (by omega)]
    rw [f_X7_rumoured_4, hS.2.1]
    simp (disch := omega) only [zn_lit, z_gd_nI, zn_cl, e1, e2, e5, h25, zn_le, zn_eq, zn_lt, zn_add]
    rw [if_neg (by omega)]
    by_cases hc : s 0 i = p ∧ w_rus s p a i 25 ≤ s 1 i ∧ w_rus s p a i (16 + i) ≠ 9
    · have ew : w_rus s p a (i + 1) = z_nu (w_rus s p a i) (16 + i) 9 := by rw [w_rus, w_ru1, if_pos hc]
      have ec : w_rct s p a (i + 1) = w_rct s p a i + 1 := by rw [w_rct, if_pos hc]
      rw [if_pos hc.1, if_neg (by omega), if_neg hc.2.2, turn]
      obtain ⟨σ2, i1, i2, i3⟩ := ih (i + 1) F (z_put σ 2 (16 + i) (nI 9)) (by omega) (by omega) (hS.fr (m_F.rf.put _ _)) (by rw [ew]; exact hA.put _ _)
      rw [ec] at i1
      exact ⟨σ2, i1, i2, (m_F.rf.put _ _).tr i3⟩
    · have ew : w_rus s p a (i + 1) = w_rus s p a i := by rw [w_rus, w_ru1, if_neg hc]
      have ec : w_rct s p a (i + 1) = w_rct s p a i := by rw [w_rct, if_neg hc]; rfl
      have hA' : m_A (z_put σ 2 (16 + i) (nI (w_rus s p a i (16 + i)))) (w_rus s p a (i + 1)) := by
        rw [ew]
        intro j hj
        rw [z_put_eq]
        by_cases e : j = 16 + i
        · subst e; rw [z_upd_eq]
        · rw [z_upd_ne e]; exact hA j hj
      obtain ⟨σ2, i1, i2, i3⟩ := ih (i + 1) F _ (by omega) (by omega) (hS.fr (m_F.rf.put _ _)) hA'
      rw [ec] at i1
      refine ⟨σ2, ?_, i2, (m_F.rf.put _ _).tr i3⟩
      by_cases h1 : s 0 i = p
      · rw [if_pos h1]
        by_cases h2 : s 1 i < w_rus s p a i 25
        · rw [if_pos h2, stay]; exact i1
        · rw [if_neg h2]
          by_cases h3 : w_rus s p a i (16 + i) = 9
          · rw [if_pos h3, stay]; exact i1
          · exact absurd ⟨h1, by omega, h3⟩ hc
      · rw [if_neg h1, stay]; exact i1
theorem sim_rumour (h : z_Rel σX σM) (x : Int32) : z_Sim (f_X6_rumour x σX) (f_X7_rumour x σM) := by
  have h0 := h
  obtain ⟨n, k, q, s, st, kp, ln, tp, ft, tn, la, sz, ce, hv, hx, hm⟩ := h
  have wS := hv.1
  have hn := hv.1.1
  have hk := hv.1.2.1
  have hL := hx.2.1
  have hst := hm.2.1
  have hG := hv.2.1
  unfold f_X6_rumour f_X7_rumour
  rcases zn_rng x (m := n) (by omega) with ⟨p, hp, rfl⟩ | ho
  · rw [x_one_in hL.1 hn hp, m_one_in hm.1.1 hn hp]
    obtain ⟨σ1, g1, g2, g3, -⟩ := m_starts (σ := σM) (a := st) (fun j hj => hst j (by omega))
    obtain ⟨σ2, i1, i2, i3⟩ := m_rumour wS hG.1 hp k 0 200 σ1 (by omega) (by omega) (hm.1.fr g3) g2
    obtain ⟨σ3, j1, j2, j3, j4⟩ := m_settles i2
    obtain ⟨σ4, l1, l2, l3⟩ := x_rumour (b := 11) (by omega) wS hG.1 hp k 0 200 σX (by omega) (by omega) hx.1 hL
    have eM : f_X7_rumoured (nI p) σ1 = some (nI (w_rct s p st k), σ2) := i1
    have eX : f_X1_spreadRumour 11 4 (nI p) σX = some (nI (w_rct s p st k), σ4) := l1
    simp only [z_bind_eq, z_t1, if_false, g1, eM, j1, eX]
    have st2 : ∃ st' : Nat → Nat, (∀ j, j < 45 → st' j = w_rus s p st k j) ∧ (∀ j, 45 ≤ j → st' j = st j) := ⟨w_rus s p st k, fun _ _ => rfl, fun j hj => w_rus_k hk (by omega) (Nat.le_refl k)⟩
    refine ⟨_, _, _, rfl, rfl, n, k, q, s, w_rus s p st k, kp, ln, tp, ft, tn, la, sz, ce, ?_, ?_, ?_⟩
    · have e25 : w_rus s p st k 25 = st 25 := w_rus_k hk (by omega) (Nat.le_refl k)
      have e22 : w_rus s p st k 22 = st 22 := w_rus_k hk (by omega) (Nat.le_refl k)
      refine hv.core (hG.core ?_ (by rw [e25]; exact hG.2.1) (by rw [e22]; exact hG.2.2.1) (fun i hi => w_rus_k hk (by omega) (Nat.le_refl k))) (fun i hi => w_rus_k hk (by omega) (Nat.le_refl k))
      rw [e25]
      exact w_R_rus hn hk hG.1 (Nat.le_refl k)
    · exact hx.led (fun c _ h2 => l3 c (by omega)) l2 (fun i hi => w_rus_k hk (by omega) (Nat.le_refl k)) hG.2.2.2.1
    · have hm2 := (hm.at' g3).at' i3
      obtain ⟨q1, q2, q3, q4, q5, q6⟩ := hm2
      refine ⟨?_, fun j hj => ?_, ?_, ?_, ?_, ?_⟩
      · unfold m_S
        rw [j2 0 (by omega), j2 4 (by omega), j2 5 (by omega), j2 6 (by omega), j2 7 (by omega), j2 8 (by omega), j2 9 (by omega)]; exact q1
      · by_cases h : j < 45
        · exact j3 j h
        · rw [j4 j (by omega), w_rus_k hk (by omega) (Nat.le_refl k)]; exact q2 j hj
      · rw [j2 3 (by omega)]; exact q3
      · rw [j2 0 (by omega), j2 17 (by omega)]; exact q4
      · rw [j2 0 (by omega)]; exact q5
      · rw [j2 19 (by omega), j2 20 (by omega), j2 21 (by omega)]; exact q6
  · rw [x_one_out hL.1 ho, m_one_out hm.1.1 hn ho]
    exact z_Sim.same h0 rfl rfl
end SC
