/-! ===== read ===== -/
section SJ
variable {σ σ' σX σM : z_St} {b n k q B : Nat} {s : z_Sy} {st st' kp kp' : Nat → Nat} {ln : Nat} {tp : Nat → Nat} {ft tn : Int32} {la la' : Nat → Int32} {sz sz' : Nat → Nat} {ce ce' : Nat → Nat → Int32} {a a' : Nat → Nat}
def w_fl (l : Int32) (w : Nat) (Y : Int) (z : Nat) : Int32 := if l = -4 then 1 else if l = nI w then (if 0 ≤ Y ∧ Y < z then 0 else 2) else 3
def w_fp (l : Int32) (w : Nat) (Y : Int) (z : Nat) : Int32 := if l = -4 then 1 else if l = nI w then (if 0 ≤ Y ∧ Y + 1 < z then 0 else 2) else 3
theorem x_fat {l : Int32} {z w : Nat} (h1 : σ b 0 = (if l = -4 then -1 else l)) (h2 : σ b 1 = nI z) (hl : l = -4 ∨ l = 0 ∨ l = 1 ∨ l = 2) (hz : z ≤ 40) (v : Int32) : f_X4_faultAt b (nI w) v σ = some (w_fl l w v.toInt z, σ) := by
  unfold f_X4_faultAt w_fl
  rw [h1, h2]
  by_cases e4 : l = -4
  · simp only [if_pos e4]; rw [if_pos trivial]
  · have e1 : ¬ l = -1 := by rcases hl with e | e | e | e <;> rw [e] <;> decide
    simp only [if_neg e4]
    rw [if_neg e1]
    by_cases ew : nI w = l
    · rw [if_pos ew, if_pos ew.symm]
      by_cases c1 : v < 0
      · have c1' := (fa_lt _ _).mp c1
        rw [show (0 : Int32).toInt = 0 from rfl] at c1'
        rw [if_pos c1, if_neg (by omega)]
      · have c1' : ¬ v.toInt < 0 := fun q => c1 ((fa_lt _ _).mpr q)
        rw [if_neg c1]
        by_cases c2 : v < nI z
        · have c2' := (fa_lt _ _).mp c2
          rw [nI_toInt (by omega)] at c2'
          rw [if_pos c2, if_pos (by omega)]
        · have c2' : ¬ v.toInt < z := fun q => c2 ((fa_lt _ _).mpr (by rw [nI_toInt (by omega)]; exact q))
          rw [if_neg c2, if_neg (by omega)]
    · rw [if_neg ew, if_neg (fun e => ew e.symm)]
theorem zr_v {x : Int32} {i : Nat} (hi : i ≤ 20) : ((x + nI (2 * i)).toInt = x.toInt + 2 * i) ∨ ((x + nI (2 * i)).toInt < 0 ∧ 2147483648 ≤ x.toInt + 2 * i) := by
  have h1 := Int32.toInt_lt x
  have h2 := Int32.le_toInt x
  rw [Int32.toInt_add, nI_toInt (by omega), Int.bmod_def]
  split <;> omega
theorem zr_1 {v : Int32} (h0 : 0 ≤ v.toInt) (h : v.toInt < 100) : (v + 1).toInt = v.toInt + 1 := by
  rw [Int32.toInt_add, show (1 : Int32).toInt = 1 from rfl, Int.bmod_def]
  split <;> omega
theorem x_pair {l : Int32} {z w i : Nat} {x : Int32} (h1 : σ b 0 = (if l = -4 then -1 else l)) (h2 : σ b 1 = nI z) (hl : l = -4 ∨ l = 0 ∨ l = 1 ∨ l = 2) (hz : z ≤ 40) (hi : i ≤ 20) : f_X4_faultOfPair b (nI w) (x + nI (2 * i)) σ = some (w_fp l w (x.toInt + 2 * i) z, σ) := by
  unfold f_X4_faultOfPair
  rw [x_fat h1 h2 hl hz, z_be]
  dsimp only
  rw [x_fat h1 h2 hl hz, z_be]
  unfold w_fl w_fp
  by_cases e4 : l = -4
  · simp only [if_pos e4]; rw [z_f1]
  · simp only [if_neg e4]
    by_cases ew : l = nI w
    · simp only [if_pos ew]
      have hv := zr_v (x := x) (i := i) hi
      by_cases c : 0 ≤ (x + nI (2 * i)).toInt ∧ (x + nI (2 * i)).toInt < z
      · have h3 := zr_1 c.1 (by omega)
        rw [if_pos c, if_pos rfl, h3]
        by_cases c2 : 0 ≤ (x + nI (2 * i)).toInt + 1 ∧ (x + nI (2 * i)).toInt + 1 < z
        · rw [if_pos c2, if_pos (by omega)]
        · rw [if_neg c2, if_neg (by omega)]
      · rw [if_neg c, if_neg (show ¬ (2 : Int32) = 0 by decide), if_neg (by omega)]
    · simp only [if_neg ew]; rw [if_neg (show ¬ (3 : Int32) = 0 by decide)]
theorem zr_64 {x : Int32} {i e : Nat} (hi : i ≤ 20) (he : e ≤ 1) : (x.toInt64 + (nI (2 * i)).toInt64 + (nI e).toInt64).toInt = x.toInt + 2 * i + e := by
  have h1 := Int32.toInt_lt x
  have h2 := Int32.le_toInt x
  rw [Int64.toInt_add, Int64.toInt_add, Int32.toInt_toInt64, Int32.toInt_toInt64, Int32.toInt_toInt64, nI_toInt (by omega), nI_toInt (by omega)]
  have e1 : (x.toInt + ((2 * i : Nat) : Int)).bmod (2 ^ 64) = x.toInt + 2 * i := by
    rw [Int.bmod_def]; split <;> omega
  rw [e1, Int.bmod_def]
  split <;> omega
theorem m_r77 (K : Int32 → Int32 → Int32 → Int32 → Int32 → Int32 → Int32 → z_St → Option (Int32 × z_St)) {j w i e F : Nat} {x x4 x6 : Int32} (hj : j < 4) (hi : i ≤ 20) (he : e ≤ 1) (h1 : σ 19 j = la j) (h2 : σ 20 j = nI (sz j)) (hz : sz j ≤ 40) : f_X7_read_77 K (F + 1) (nI j) (nI w) x x4 0 x6 (nI i) (nI e) σ = f_X7_read_77 K F (nI j) (nI w) x x4 (w_fl (la j) w (x.toInt + 2 * i + e) (sz j)) x6 (nI i) (nI (e + 1)) σ := by
  have ee : nI e + 1 = nI (e + 1) := nI_1 e
  rw [f_X7_read_77, if_neg (show ¬ (2 : Int32) ≤ nI e from nI_ge (b := 2) (by omega) (by omega)), if_pos rfl, ee, show (2 : Int32) * nI i = nI (2 * i) by rw [show (2 : Int32) = nI 2 from rfl, zn_mul]]
  simp (disch := omega) only [z_gd_nI, zn_cl]
  unfold w_fl
  by_cases e4 : la j = -4
  · rw [if_pos (show σ 19 j = -4 by rw [h1, e4]), if_pos e4]
  · rw [if_neg (show ¬ σ 19 j = -4 by rw [h1]; exact e4), if_neg e4]
    by_cases ew : la j = nI w
    · rw [if_pos (show σ 19 j = nI w by rw [h1, ew]), if_pos ew]
      have h64 := zr_64 (x := x) hi he
      by_cases c1 : x.toInt + 2 * i + e < 0
      · rw [if_pos (lg_lt.mpr ((fa_lt64 _ _).mpr (by rw [h64]; exact c1))), if_neg (by omega)]
      · rw [if_neg (fun q => by have := (fa_lt64 _ _).mp (lg_lt.mp q); rw [h64, show (0 : Int64).toInt = 0 from rfl] at this; omega)]
        by_cases c2 : x.toInt + 2 * i + e < sz j
        · rw [if_pos (lg_lt.mpr ((fa_lt64 _ _).mpr (by rw [h64, h2, Int32.toInt_toInt64, nI_toInt (by omega)]; exact c2))), if_pos (by omega)]
        · rw [if_neg (fun q => by have := (fa_lt64 _ _).mp (lg_lt.mp q); rw [h64, h2, Int32.toInt_toInt64, nI_toInt (by omega)] at this; omega), if_neg (by omega)]
    · rw [if_neg (show ¬ σ 19 j = nI w by rw [h1]; exact ew), if_neg ew]
theorem m_r77x (K : Int32 → Int32 → Int32 → Int32 → Int32 → Int32 → Int32 → z_St → Option (Int32 × z_St)) {F : Nat} {x1 x2 x3 x4 x5 x6 x7 x8 : Int32} (h : (2 : Int32) ≤ x8 ∨ ¬ x5 = 0) : f_X7_read_77 K (F + 1) x1 x2 x3 x4 x5 x6 x7 x8 σ = f_X7_read_164 K x1 x2 x3 x4 x5 x6 x7 σ := by
  rw [f_X7_read_77]
  rcases h with h | h
  · rw [if_pos h]
  · rw [if_neg h]; split <;> rfl
theorem m_pair (K : Int32 → Int32 → Int32 → Int32 → Int32 → Int32 → Int32 → z_St → Option (Int32 × z_St)) {j w i F : Nat} {x x4 x6 : Int32} (hj : j < 4) (hi : i ≤ 20) (h1 : σ 19 j = la j) (h2 : σ 20 j = nI (sz j)) (hz : sz j ≤ 40) : f_X7_read_77 K (F + 3) (nI j) (nI w) x x4 0 x6 (nI i) 0 σ = f_X7_read_164 K (nI j) (nI w) x x4 (w_fp (la j) w (x.toInt + 2 * i) (sz j)) x6 (nI i) σ := by
  rw [show f_X7_read_77 K (F + 3) (nI j) (nI w) x x4 0 x6 (nI i) 0 σ = _ from m_r77 (e := 0) (F := F + 2) K hj hi (by omega) h1 h2 hz]
  by_cases c : w_fl (la j) w (x.toInt + 2 * i + (0 : Nat)) (sz j) = 0
  · rw [c, show f_X7_read_77 K (F + 2) (nI j) (nI w) x x4 0 x6 (nI i) (nI (0 + 1)) σ = _ from m_r77 (e := 1) (F := F + 1) K hj hi (by omega) h1 h2 hz, m_r77x K (Or.inl (by decide))]
    congr 1
    unfold w_fl at c ⊢
    unfold w_fp
    by_cases e4 : la j = -4
    · rw [if_pos e4] at c; exact absurd c (by decide)
    · rw [if_neg e4] at c ⊢
      rw [if_neg e4]
      by_cases ew : la j = nI w
      · rw [if_pos ew] at c ⊢
        rw [if_pos ew]
        by_cases c1 : 0 ≤ x.toInt + 2 * i + (0 : Nat) ∧ x.toInt + 2 * i + (0 : Nat) < sz j
        · by_cases c2 : 0 ≤ x.toInt + 2 * i ∧ x.toInt + 2 * i + 1 < sz j
          · rw [if_pos (by omega), if_pos c2]
          · rw [if_neg (by omega), if_neg c2]
        · rw [if_neg c1] at c; exact absurd c (by decide)
      · rw [if_neg ew] at c; exact absurd c (by decide)
  · rw [m_r77x K (Or.inr c)]
    congr 1
    unfold w_fl at c ⊢
    unfold w_fp
    by_cases e4 : la j = -4
    · rw [if_pos e4, if_pos e4]
    · rw [if_neg e4] at c ⊢
      rw [if_neg e4]
      by_cases ew : la j = nI w
      · rw [if_pos ew] at c ⊢
        rw [if_pos ew]
        by_cases c1 : 0 ≤ x.toInt + 2 * i + (0 : Nat) ∧ x.toInt + 2 * i + (0 : Nat) < sz j
        · rw [if_pos c1] at c; exact absurd rfl c
        · rw [if_neg c1, if_neg (by omega)]
      · rw [if_neg ew, if_neg ew]
theorem x_I.trn (h : x_I σ n k q s st kp ln tp ft tn la sz ce) (v : Int32) : x_I (z_put σ 0 8 v) n k q s st kp ln tp ft v la sz ce := by
  have hF : ∀ c, c ≠ 0 → z_put σ 0 8 v c = σ c := fun c hc => z_put_ne hc
  obtain ⟨q1, q2, q3, q4, q5, q7, q8, q9⟩ := h
  refine ⟨?_, ?_, ?_, fun t ht => ?_, ?_, ?_, ?_, fun t ht => ?_⟩
  · unfold x_S
    rw [hF 4 (by omega), hF (4 + 1) (by omega), hF (4 + 2) (by omega), hF (4 + 3) (by omega), hF (4 + 4) (by omega), hF (4 + 5) (by omega), hF (4 + 6) (by omega)]
    exact q1
  · exact q2.cp (hF _ (by omega)) (hF _ (by omega)) (hF _ (by omega)) (hF _ (by omega)) (hF _ (by omega)) (hF _ (by omega))
  · exact q3.fr (hF _ (by omega)) (hF _ (by omega)) (hF _ (by omega)) (hF _ (by omega))
  · rw [hF _ (by omega)]
    obtain ⟨g1', g2'⟩ := q4 t ht
    refine ⟨g1', fun e1 => ?_⟩
    obtain ⟨u1, u2⟩ := g2' e1
    exact ⟨u1.cp (hF _ (by omega)) (hF _ (by omega)) (hF _ (by omega)) (hF _ (by omega)) (hF _ (by omega)) (hF _ (by omega)), u2.fr (hF _ (by omega)) (hF _ (by omega)) (hF _ (by omega)) (hF _ (by omega))⟩
  · rw [hF 27 (by omega), hF 28 (by omega)]; exact q5
  · rw [hF 40 (by omega), hF 41 (by omega), hF 37 (by omega)]; exact q7
  · rw [z_put_eq, z_upd_eq]
  · rw [hF _ (by omega), hF _ (by omega)]; exact q9 t ht
theorem m_I.trn (h : m_I σ n k q s st kp ln tp ft tn la sz ce) (v : Int32) : m_I (z_put σ 0 37 v) n k q s st kp ln tp ft v la sz ce := by
  have hF : ∀ c, c ≠ 0 → z_put σ 0 37 v c = σ c := fun c hc => z_put_ne hc
  have h0 : ∀ c, c ≠ 37 → z_put σ 0 37 v 0 c = σ 0 c := fun c hc => by rw [z_put_eq, z_upd_ne hc]
  obtain ⟨g1, g2, g3, g4, g5, g6⟩ := h
  refine ⟨?_, ?_, ?_, ?_, ?_, ?_⟩
  · unfold m_S
    rw [h0 3 (by omega), h0 4 (by omega), h0 5 (by omega), hF 4 (by omega), hF 5 (by omega), hF 6 (by omega), hF 7 (by omega), hF 8 (by omega), hF 9 (by omega)]; exact g1
  · rw [hF 1 (by omega)]; exact g2
  · rw [hF 3 (by omega)]; exact g3
  · rw [h0 25 (by omega), h0 30 (by omega), hF 17 (by omega)]; exact g4
  · rw [z_put_eq, z_upd_eq]
  · rw [hF 19 (by omega), hF 20 (by omega), hF 21 (by omega)]; exact g6
theorem m_rs_loop (x7 : Int32) : ∀ (m i F : Nat) (σ : z_St), 45 = i + m → m < F → (∀ j, j < i → σ 1 j = σ 22 j) → ∃ σ', f_X7_read_208 F x7 (nI i) σ = some (-20 - x7, σ') ∧ (∀ c, c ≠ 1 → σ' c = σ c) ∧ (∀ j, j < 45 → σ' 1 j = σ 22 j) ∧ (∀ j, 45 ≤ j → σ' 1 j = σ 1 j) := by
  intro m
  induction m with
  | zero =>
    intro i F σ hm hF h1
    obtain ⟨F, rfl⟩ : ∃ F', F = F' + 1 := ⟨F - 1, by omega⟩
    refine ⟨σ, ?_, fun _ _ => rfl, fun j hj => h1 j (by omega), fun _ _ => rfl⟩
    rw [f_X7_read_208, if_pos (show (45 : Int32) ≤ nI i from nI_le (a := 45) (by omega) (by omega))]
  | succ m ih =>
    intro i F σ hm hF h1
    obtain ⟨F, rfl⟩ : ∃ F', F = F' + 1 := ⟨F - 1, by omega⟩
    have ei : nI i + 1 = nI (i + 1) := nI_1 i
    obtain ⟨σ', g1, g2, g3, g4⟩ := ih (i + 1) F (z_put σ 1 i (σ 22 i)) (by omega) (by omega) (fun j hj => by
      rw [z_put_eq, z_put_ne (by omega)]
      by_cases e : j = i
      · subst e; rw [z_upd_eq]
      · rw [z_upd_ne (by omega)]; exact h1 j (by omega))
    refine ⟨σ', ?_, fun d hd => by rw [g2 d hd, z_put_ne hd], fun j hj => by rw [g3 j hj, z_put_ne (by omega)], fun j hj => by rw [g4 j hj, z_put_eq, z_upd_ne (by omega)]⟩
    rw [f_X7_read_208, if_neg (show ¬ (45 : Int32) ≤ nI i from nI_ge (b := 45) (by omega) (by omega)), z_gd_nI (by omega) (by omega), z_gd_nI (by omega) (by omega), zn_cl (by omega), z_bst_eq, ei]
    exact g1
theorem m_sv_loop (x1 x2 x3 x4 : Int32) : ∀ (m i F : Nat) (σ : z_St), 45 = i + m → m < F → (∀ j, j < i → σ 22 j = σ 1 j) → ∃ σ', f_X7_read_26 F x1 x2 x3 x4 (nI i) σ = f_X7_read_62 200 x1 x2 x3 x4 0 0 0 σ' ∧ (∀ c, c ≠ 22 → σ' c = σ c) ∧ (∀ j, j < 45 → σ' 22 j = σ 1 j) := by
  intro m
  induction m with
  | zero =>
    intro i F σ hm hF h1
    obtain ⟨F, rfl⟩ : ∃ F', F = F' + 1 := ⟨F - 1, by omega⟩
    refine ⟨σ, ?_, fun _ _ => rfl, fun j hj => h1 j (by omega)⟩
    rw [f_X7_read_26, if_pos (show (45 : Int32) ≤ nI i from nI_le (a := 45) (by omega) (by omega))]
  | succ m ih =>
    intro i F σ hm hF h1
    obtain ⟨F, rfl⟩ : ∃ F', F = F' + 1 := ⟨F - 1, by omega⟩
    have ei : nI i + 1 = nI (i + 1) := nI_1 i
    obtain ⟨σ', g1, g2, g3⟩ := ih (i + 1) F (z_put σ 22 i (σ 1 i)) (by omega) (by omega) (fun j hj => by
      rw [z_put_eq, z_put_ne (by omega)]
      by_cases e : j = i
      · subst e; rw [z_upd_eq]
      · rw [z_upd_ne (by omega)]; exact h1 j (by omega))
    refine ⟨σ', ?_, fun d hd => by rw [g2 d hd, z_put_ne hd], fun j hj => by rw [g3 j hj, z_put_ne (by omega)]⟩
    rw [f_X7_read_26, if_neg (show ¬ (45 : Int32) ≤ nI i from nI_ge (b := 45) (by omega) (by omega)), z_gd_nI (by omega) (by omega), z_gd_nI (by omega) (by omega), zn_cl (by omega), z_bst_eq, ei]
    exact g1
/-- what has been drawn stands -/
theorem z_rd_end (hv : v_I n k q s st kp ln tp la sz) (hx : x_I σX n k q s st kp ln tp ft tn la sz ce) (hL : x_L σX 17 n k a) (hm : m_I σM n k q s a kp ln tp ft tn la sz ce) (wR : w_R n k (6 * st 25) a) (he : ∀ j, 16 ≤ j → j ≠ 24 → a j = st j) (x6 f : Int32) : z_Sim (f_X6_read_134 x6 f σX) (z_bst (z_put σM 0 37 f) fun s => some (x6, s)) := by
  have hn := hv.1.1
  have hk := hv.1.2.1
  have hG := hv.2.1
  obtain ⟨σ1, g1, g2, g3⟩ := x_copy (b := 11) hL hn hk (by omega)
  unfold f_X6_read_134
  rw [g1, z_be]
  dsimp only
  rw [z_bst_eq, z_bst_eq]
  refine ⟨_, _, _, rfl, rfl, n, k, q, s, a, kp, ln, tp, ft, f, la, sz, ce, ?_, ?_, hm.trn f⟩
  · refine hv.core (hG.core ?_ (by rw [he 25 (by omega) (by omega)]; exact hG.2.1) (by rw [he 22 (by omega) (by omega)]; exact hG.2.2.1) (fun i hi => he i (by omega) (by omega))) (fun i hi => he i (by omega) (by omega))
    rw [he 25 (by omega) (by omega)]; exact wR
  · exact (hx.led (fun c _ h2 => g3 c (by omega)) g2 (fun i hi => he i (by omega) (by omega)) hG.2.2.2.1).trn f
theorem z_read (hv : v_I n k q s st kp ln tp la sz) {N j w : Nat} (hN : N ≤ 20) (hj : j < 4) (hw : w ≤ 2) (x : Int32) : ∀ (m i F F' : Nat) (x6 f : Int32) (a : Nat → Nat) (σX σM : z_St), N = i + m → m < F → m < F' → x_I σX n k q s st kp ln tp ft tn la sz ce → x_L σX 17 n k a → m_I σM n k q s a kp ln tp ft tn la sz ce → (∀ j, j < 45 → σM 22 j = nI (st j)) → w_R n k (6 * st 25) a → (∀ j, 16 ≤ j → j ≠ 24 → a j = st j) → z_Sim (f_X6_read_56 F (nI w) x (nI N) (65 + 2 * j) x6 f (nI i) σX) (f_X7_read_62 F' (nI j) (nI w) x (nI N) f x6 (nI i) σM) := by
  have hn := hv.1.1
  have hk := hv.1.2.1
  have hG := hv.2.1
  obtain ⟨l1, l2⟩ := hv.2.2.2.2.2 j hj
  intro m
  induction m with
  | zero =>
    intro i F F' x6 f a σX σM hmm hF hF' hx hL hm h22 wR he
    obtain ⟨F, rfl⟩ : ∃ G, F = G + 1 := ⟨F - 1, by omega⟩
    obtain ⟨F', rfl⟩ : ∃ G, F' = G + 1 := ⟨F' - 1, by omega⟩
    rw [f_X6_read_56, f_X7_read_62, if_pos (show nI N ≤ nI i from nI_le (by omega) (by omega)), if_pos (show nI N ≤ nI i from nI_le (by omega) (by omega))]
    exact z_rd_end hv hx hL hm wR he x6 f
  | succ m ih =>
    intro i F F' x6 f a σX σM hmm hF hF' hx hL hm h22 wR he
    obtain ⟨F, rfl⟩ : ∃ G, F = G + 1 := ⟨F - 1, by omega⟩
    obtain ⟨F', rfl⟩ : ∃ G, F' = G + 1 := ⟨F' - 1, by omega⟩
    have ei : nI i + 1 = nI (i + 1) := nI_1 i
    obtain ⟨x1, x2, x3⟩ := hx.2.2.2.2.2.2.2 j hj
    obtain ⟨m1, m2, m3⟩ := hm.2.2.2.2.2 j hj
    have e2i : (2 : Int32) * nI i = nI (2 * i) := by rw [show (2 : Int32) = nI 2 from rfl, zn_mul]
    rw [f_X6_read_56, f_X7_read_62, if_neg (show ¬ nI N ≤ nI i from nI_ge (by omega) (by omega)), if_neg (show ¬ nI N ≤ nI i from nI_ge (by omega) (by omega))]
    by_cases hf : f = 0
    · rw [if_pos hf, if_pos hf, z_bi_eq, e2i, x_pair x1 x2 l1 l2 (by omega), hf, show (200 : Nat) = 197 + 3 from rfl, m_pair _ hj (by omega) m1 m2 l2]
      simp only [z_be]
      by_cases hp : w_fp (la j) w (x.toInt + 2 * i) (sz j) = 0
      · have hc : 0 ≤ x.toInt + 2 * i ∧ x.toInt + 2 * i + 1 < sz j := by
          unfold w_fp at hp
          by_cases e4 : la j = -4
          · rw [if_pos e4] at hp; exact absurd hp (by decide)
          · rw [if_neg e4] at hp
            by_cases ew : la j = nI w
            · rw [if_pos ew] at hp
              by_cases c : 0 ≤ x.toInt + 2 * i ∧ x.toInt + 2 * i + 1 < sz j
              · exact c
              · rw [if_neg c] at hp; exact absurd hp (by decide)
            · rw [if_neg ew] at hp; exact absurd hp (by decide)
        obtain ⟨c, ec⟩ : ∃ c : Nat, (c : Int) = x.toInt + 2 * i := ⟨(x.toInt + 2 * i).toNat, by omega⟩
        have hv8 : x + nI (2 * i) = nI c := by
          rw [fa_eq, nI_toInt (by omega)]
          have := zr_v (x := x) (i := i) (by omega)
          omega
        have hv5 : (40 : Int32) * nI j + x + nI (2 * i) = nI (40 * j + c) := by
          rw [Int32.add_assoc, hv8, show (40 : Int32) = nI 40 from rfl, zn_mul, zn_add]
        have ec1 : nI c + 1 = nI (c + 1) := nI_1 c
        have ec2 : nI (40 * j + c) + 1 = nI (40 * j + c + 1) := nI_1 _
        unfold f_X7_read_164
        rw [hp, if_pos rfl, if_pos rfl, e2i, hv8, hv5, z_bi_eq, ec1, ec2]
        simp (disch := omega) only [z_gd_nI, zn_cl]
        rw [x3 c (by omega), x3 (c + 1) (by omega), m3 c (by omega), show σM 21 (40 * j + c + 1) = _ from m3 (c + 1) (by omega)]
        rcases z_take hn hk wR hL hm.1.1 (fun j hj => hm.2.1 j (by omega)) (ce j c) (ce j (c + 1)) with ⟨r, hr, t1, t2⟩ | ⟨p, v, σX', σM', hd, t1, t2, hL', hF', rfl⟩
        · rw [t1, t2]
          simp only [z_be]
          have hr' : ¬ (0 : Int32) ≤ r := fun q => by
            have a1 := (fa_le _ _).mp q
            have a2 := (fa_lt _ _).mp hr
            omega
          rw [if_neg hr', if_neg hr']
          obtain ⟨σ1, g1, g2, g3, g4⟩ := m_rs_loop (nI i) 45 0 200 σM (by omega) (by omega) (fun j hj => absurd hj (by omega))
          rw [show f_X7_read_208 200 (nI i) 0 σM = _ from g1]
          refine ⟨_, _, _, rfl, rfl, n, k, q, s, st, kp, ln, tp, ft, tn, la, sz, ce, hv, hx, ?_⟩
          refine hm.gen (fun c hc => g2 c (by omega)) (fun t ht => ?_) ?_ ?_
          · by_cases e : t < 45
            · rw [g3 t e, h22 t e]
            · rw [g4 t (by omega), hm.2.1 t ht, he t (by omega) (by omega)]
          · rw [g2 3 (by omega)]; exact hm.2.2.1
          · rw [g2 19 (by omega), g2 20 (by omega), g2 21 (by omega)]; exact hm.2.2.2.2.2
        · rw [t1, t2]
          simp only [z_be]
          have r8 := wR.2.2.2.2.1
          rw [if_pos (show (0 : Int32) ≤ nI (a 24 - v) from nI_le (a := 0) (by omega) (by omega)), if_pos (show (0 : Int32) ≤ nI (a 24 - v) from nI_le (a := 0) (by omega) (by omega)), ei]
          have hp4 := hd.1
          refine ih (i + 1) F F' (x6 + 1) 0 (w_da a p v) σX' _ (by omega) (by omega) (by omega) (hx.tri17 hF' hG.2.2.2.1) hL' (((hm.stp _ _).stp _ _).stp _ _) (fun t ht => ?_) (w_da_G hn hk hd wR) (fun t ht ht2 => ?_)
          · rw [z_put_ne (by omega), z_put_ne (by omega), z_put_ne (by omega)]; exact h22 t ht
          · rw [w_da_k (by omega) ht ht2]; exact he t ht ht2
      · unfold f_X7_read_164
        rw [if_neg hp, if_neg hp, ei]
        exact ih (i + 1) F F' x6 _ a σX σM (by omega) (by omega) (by omega) hx hL hm h22 wR he
    · rw [if_neg hf, if_neg hf]
      exact z_rd_end hv hx hL hm wR he x6 f
theorem sim_read (h : z_Rel σX σM) (x y z u : Int32) : z_Sim (f_X6_read x y z u σX) (f_X7_read x y z u σM) := by
  have h0 := h
  obtain ⟨n, k, q, s, st, kp, ln, tp, ft, tn, la, sz, ce, hv, hx, hm⟩ := h
  have hn := hv.1.1
  have hk := hv.1.2.1
  have hG := hv.2.1
  unfold f_X6_read f_X7_read
  rcases zn_rng x (m := 4) (by omega) with ⟨j, hj, rfl⟩ | ho
  · rw [show f_X6_isWithin (nI j) 3 σX = _ from x_with_in (m := 3) (by omega) (by omega), z_be]
    dsimp only
    rw [z_f1]
    rcases zn_rng y (m := 3) (by omega) with ⟨w, hw, rfl⟩ | ho
    · rw [show f_X6_isWithin (nI w) 2 σX = _ from x_with_in (m := 2) (by omega) (by omega), m_sheet_in (by omega) (by omega), z_be, z_be]
      dsimp only
      rw [z_f1, z_f1]
      rcases zn_rng u (m := 21) (by omega) with ⟨N, hN, rfl⟩ | ho
      · rw [show f_X6_isWithin (nI N) 20 σX = _ from x_with_in (m := 20) (by omega) (by omega), m_lit_in (m := 20) (by omega) (by omega) (by decide), z_be, z_be]
        dsimp only
        obtain ⟨σ1, g1, g2, g3⟩ := x_copy (b := 17) hx.2.1 hn hk (by omega)
        obtain ⟨σ2, i1, i2, i3⟩ := m_sv_loop (nI j) (nI w) z (nI N) 45 0 200 σM (by omega) (by omega) (fun t ht => absurd ht (by omega))
        rw [z_f1, z_f1, z_gd_nI (by omega) (by omega), zn_cl (by omega), g1, z_be, show f_X7_read_26 200 (nI j) (nI w) z (nI N) 0 σM = _ from i1]
        dsimp only
        have hm2 : m_I σ2 n k q s st kp ln tp ft tn la sz ce := by
          refine hm.gen (fun c hc => i2 c (by omega)) ?_ ?_ ?_
          · rw [i2 1 (by omega)]; exact hm.2.1
          · rw [i2 3 (by omega)]; exact hm.2.2.1
          · rw [i2 19 (by omega), i2 20 (by omega), i2 21 (by omega)]; exact hm.2.2.2.2.2
        exact z_read hv (by omega) hj (by omega) z N 0 200 200 0 0 st σ1 σ2 (by omega) (by omega) (by omega) (hx.tri17 g3 hG.2.2.2.1) g2 hm2 (fun t ht => by rw [i3 t ht]; exact hm.2.1 t (by omega)) hG.1 (fun _ _ _ => rfl)
      · rw [show f_X6_isWithin u 20 σX = _ from x_with_out (m := 20) (by omega) ho, m_lit_out (m := 20) (by omega) (by decide) ho]
        exact z_Sim.same h0 rfl rfl
    · rw [show f_X6_isWithin y 2 σX = _ from x_with_out (m := 2) (by omega) ho, m_sheet_out2 (by omega) ho]
      exact z_Sim.same h0 rfl rfl
  · rw [show f_X6_isWithin x 3 σX = _ from x_with_out (m := 3) (by omega) ho, m_sheet_out1 ho]
    exact z_Sim.same h0 rfl rfl
end SJ
