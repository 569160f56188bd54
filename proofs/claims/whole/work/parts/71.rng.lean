/-! ===== the bounds stay ===== -/
section WR
variable {n k q B : Nat} {a : Nat → Nat} {s : z_Sy}
theorem w_R.mono {B' : Nat} (h : w_R n k B a) (hB : B ≤ B') : w_R n k B' a := ⟨fun p hp => ⟨(h.1 p hp).1, (h.1 p hp).2.1, (h.1 p hp).2.2.1, Nat.le_trans (h.1 p hp).2.2.2 hB⟩, h.2⟩
theorem w_R.hand (h : w_R n k B a) (hn : n ≤ 4) {p v : Nat} (hp : p < n) (hv : v ≤ 999) : w_R n k B (z_nu a (4 * p + 1) v) := by
  obtain ⟨h1, h2, h3, h4, h5, h6⟩ := h
  refine ⟨fun p' hp' => ?_, fun i hi => ?_, ?_, ?_, ?_, ?_⟩
  · obtain ⟨g1, g2, g3, g4⟩ := h1 p' hp'
    rw [z_nu_ne (by omega), z_nu_ne (a := a) (i := 4 * p' + 2) (by omega), z_nu_ne (a := a) (i := 4 * p' + 3) (by omega)]
    refine ⟨g1, ?_, g3, g4⟩
    rw [z_nu]; split <;> omega
  · rw [z_nu_ne (by omega)]; exact h2 i hi
  all_goals (rw [z_nu_ne (by omega)]; assumption)
theorem w_R.bank (h : w_R n k B a) (hn : n ≤ 4) {p v : Nat} (hp : p < n) (hv : v ≤ 999) : w_R n k B (z_nu a (4 * p + 2) v) := by
  obtain ⟨h1, h2, h3, h4, h5, h6⟩ := h
  refine ⟨fun p' hp' => ?_, fun i hi => ?_, ?_, ?_, ?_, ?_⟩
  · obtain ⟨g1, g2, g3, g4⟩ := h1 p' hp'
    rw [z_nu_ne (by omega), z_nu_ne (a := a) (i := 4 * p' + 1) (by omega), z_nu_ne (a := a) (i := 4 * p' + 3) (by omega)]
    refine ⟨g1, g2, ?_, g4⟩
    rw [z_nu]; split <;> omega
  · rw [z_nu_ne (by omega)]; exact h2 i hi
  all_goals (rw [z_nu_ne (by omega)]; assumption)
theorem w_R.brz (h : w_R n k B a) (hn : n ≤ 4) {p v : Nat} (hp : p < n) (hv : v ≤ B) : w_R n k B (z_nu a (4 * p + 3) v) := by
  obtain ⟨h1, h2, h3, h4, h5, h6⟩ := h
  refine ⟨fun p' hp' => ?_, fun i hi => ?_, ?_, ?_, ?_, ?_⟩
  · obtain ⟨g1, g2, g3, g4⟩ := h1 p' hp'
    rw [z_nu_ne (by omega), z_nu_ne (a := a) (i := 4 * p' + 1) (by omega), z_nu_ne (a := a) (i := 4 * p' + 2) (by omega)]
    refine ⟨g1, g2, g3, ?_⟩
    rw [z_nu]; split <;> omega
  · rw [z_nu_ne (by omega)]; exact h2 i hi
  all_goals (rw [z_nu_ne (by omega)]; assumption)
theorem w_R.kind (h : w_R n k B a) (hn : n ≤ 4) {p v : Nat} (hp : p < n) (hv : v ≤ 3) : w_R n k B (z_nu a (4 * p) v) := by
  obtain ⟨h1, h2, h3, h4, h5, h6⟩ := h
  refine ⟨fun p' hp' => ?_, fun i hi => ?_, ?_, ?_, ?_, ?_⟩
  · obtain ⟨g1, g2, g3, g4⟩ := h1 p' hp'
    rw [z_nu_ne (a := a) (i := 4 * p' + 1) (by omega), z_nu_ne (a := a) (i := 4 * p' + 2) (by omega), z_nu_ne (a := a) (i := 4 * p' + 3) (by omega)]
    refine ⟨?_, g2, g3, g4⟩
    rw [z_nu]; split <;> omega
  · rw [z_nu_ne (by omega)]; exact h2 i hi
  all_goals (rw [z_nu_ne (by omega)]; assumption)
theorem w_R.seen (h : w_R n k B a) (hn : n ≤ 4) (hk : k ≤ 6) {i v : Nat} (hi : i < k) (hv : v ≤ 9) : w_R n k B (z_nu a (16 + i) v) := by
  obtain ⟨h1, h2, h3, h4, h5, h6⟩ := h
  refine ⟨fun p' hp' => ?_, fun j hj => ?_, ?_, ?_, ?_, ?_⟩
  · rw [z_nu_ne (by omega), z_nu_ne (a := a) (i := 4 * p' + 1) (by omega), z_nu_ne (a := a) (i := 4 * p' + 2) (by omega), z_nu_ne (a := a) (i := 4 * p' + 3) (by omega)]
    exact h1 p' hp'
  · have := h2 j hj
    rw [z_nu]; split <;> omega
  all_goals (rw [z_nu_ne (by omega)]; assumption)
/-- cell 22 to 25 -/
theorem w_R.fld (h : w_R n k B a) (hn : n ≤ 4) (hk : k ≤ 6) {j v : Nat} (hj : 22 ≤ j) (h22 : j = 22 → v < 64) (h23 : j = 23 → v ≤ 9) (h24 : j = 24 → v ≤ 99) (h25 : j = 25 → v ≤ 200) : w_R n k B (z_nu a j v) := by
  obtain ⟨h1, h2, h3, h4, h5, h6⟩ := h
  refine ⟨fun p' hp' => ?_, fun i hi => ?_, ?_, ?_, ?_, ?_⟩
  · rw [z_nu_ne (by omega), z_nu_ne (a := a) (i := 4 * p' + 1) (by omega), z_nu_ne (a := a) (i := 4 * p' + 2) (by omega), z_nu_ne (a := a) (i := 4 * p' + 3) (by omega)]
    exact h1 p' hp'
  · rw [z_nu_ne (by omega)]; exact h2 i hi
  all_goals (rw [z_nu]; split <;> omega)
theorem w_R_in (wS : w_S n k q s) (h : w_R n k B a) {i : Nat} (hi : i < k) : w_R n k B (w_in s a i) := by
  obtain ⟨hn, hk, hq, s1, s2⟩ := wS
  rw [w_in]
  split
  · split
    · exact h.bank hn (s1 i hi).1 (Nat.min_le_left _ _)
    · exact h.hand hn (s1 i hi).1 (Nat.min_le_left _ _)
  · exact h
theorem w_R_ask (wS : w_S n k q s) (h : w_R n k B a) {j : Nat} (hj : j < q) : w_R n k (B + 1) (w_ask s a j) := by
  obtain ⟨hn, hk, hq, s1, s2⟩ := wS
  obtain ⟨g1, g2, g3⟩ := s2 j hj
  have h' := h.mono (Nat.le_succ B)
  have hp := h.1 _ g1
  rw [w_ask]
  split
  · rw [w_ask1]
    split
    · exact h'.brz hn g1 (by omega)
    · have hc : a 24 ≤ 99 := h.2.2.2.2.1
      exact ((h'.hand hn g1 (by omega)).bank hn g1 (by omega)).fld hn hk (by omega) (by omega) (by omega) (by omega) (by omega)
  · exact h'
theorem w_R_cl1 (hn : n ≤ 4) (h : w_R n k B a) {p : Nat} (hp : p < n) : w_R n k B (w_cl1 a p) := by
  have := h.1 p hp
  rw [w_cl1]
  exact (h.hand hn hp (by omega)).bank hn hp (Nat.min_le_left _ _)
theorem w_R_ins (wS : w_S n k q s) (h : w_R n k B a) : ∀ {i : Nat}, i ≤ k → w_R n k B (w_ins s a i)
  | 0, _ => h
  | i + 1, hi => w_R_in wS (w_R_ins wS h (by omega)) (by omega)
theorem w_R_asks (wS : w_S n k q s) (h : w_R n k B a) : ∀ {j : Nat}, j ≤ q → w_R n k (B + j) (w_asks s a j)
  | 0, _ => h
  | j + 1, hj => w_R_ask wS (w_R_asks wS h (by omega)) (by omega)
theorem w_R_cls (hn : n ≤ 4) (h : w_R n k B a) : ∀ {p : Nat}, p ≤ n → w_R n k B (w_cls a p)
  | 0, _ => h
  | p + 1, hp => w_R_cl1 hn (w_R_cls hn h (by omega)) (by omega)
/-! what a week leaves as it is: kinds, seen, deposited, interest, the notes -/
def w_K (j : Nat) : Prop := j % 4 = 0 ∧ j < 16 ∨ 16 ≤ j ∧ j ≠ 24 ∧ j ≠ 25
theorem w_in_k (wS : w_S n k q s) {i j : Nat} (hi : i < k) (hj : w_K j ∨ j = 24 ∨ j = 25) : w_in s a i j = a j := by
  have := (wS.2.2.2.1 i hi).1
  have := wS.1
  unfold w_K at hj
  rw [w_in]
  split
  · split
    · rw [z_nu_ne (by omega)]
    · rw [z_nu_ne (by omega)]
  · rfl
theorem w_ask_k (wS : w_S n k q s) {i j : Nat} (hi : i < q) (hj : w_K j ∨ j = 25) : w_ask s a i j = a j := by
  have := (wS.2.2.2.2 i hi).1
  have := wS.1
  unfold w_K at hj
  rw [w_ask]
  split
  · rw [w_ask1]
    split
    · rw [z_nu_ne (by omega)]
    · rw [z_nu_ne (by omega), z_nu_ne (by omega), z_nu_ne (by omega)]
  · rfl
theorem w_ins_k (wS : w_S n k q s) {j : Nat} (hj : w_K j ∨ j = 24 ∨ j = 25) : ∀ {i : Nat}, i ≤ k → w_ins s a i j = a j
  | 0, _ => rfl
  | i + 1, hi => (w_in_k wS (by omega) hj).trans (w_ins_k wS hj (by omega))
theorem w_asks_k (wS : w_S n k q s) {j : Nat} (hj : w_K j ∨ j = 25) : ∀ {i : Nat}, i ≤ q → w_asks s a i j = a j
  | 0, _ => rfl
  | i + 1, hi => (w_ask_k wS (by omega) hj).trans (w_asks_k wS hj (by omega))
theorem w_cls_k (hn : n ≤ 4) {j : Nat} (hj : w_K j ∨ j = 24 ∨ j = 25) : ∀ {p : Nat}, p ≤ n → w_cls a p j = a j
  | 0, _ => rfl
  | p + 1, hp => by
    rw [w_cls, w_cl1]
    unfold w_K at hj
    rw [z_nu_ne (by omega), z_nu_ne (by omega)]
    exact w_cls_k hn hj (by omega)
theorem w_wk_k (wS : w_S n k q s) {j : Nat} (hj : w_K j) : w_wk s n k q a j = a j := by
  have hj' := hj
  unfold w_K at hj'
  rw [w_wk, w_end, z_nu_ne (by omega), z_nu_ne (by omega), w_cls_k wS.1 (Or.inl hj) (Nat.le_refl n), w_asks_k wS (Or.inl hj) (Nat.le_refl q), w_ins_k wS (Or.inl hj) (Nat.le_refl k)]
theorem w_wk_25 (wS : w_S n k q s) : w_wk s n k q a 25 = a 25 + 1 := by
  rw [w_wk, w_end, z_nu_eq, w_cls_k wS.1 (Or.inr (Or.inr rfl)) (Nat.le_refl n), w_asks_k wS (Or.inr rfl) (Nat.le_refl q), w_ins_k wS (Or.inr (Or.inr rfl)) (Nat.le_refl k)]
theorem w_R_wk (wS : w_S n k q s) (h : w_R n k B a) (h25 : a 25 < 200) : w_R n k (B + 6) (w_wk s n k q a) := by
  have h1 := w_R_cls wS.1 (w_R_asks wS (w_R_ins wS h (Nat.le_refl k)) (Nat.le_refl q)) (Nat.le_refl n)
  have hq := wS.2.2.1
  have e : w_cls (w_asks s (w_ins s a k) q) n 25 = a 25 := by
    rw [w_cls_k wS.1 (Or.inr (Or.inr rfl)) (Nat.le_refl n), w_asks_k wS (Or.inr rfl) (Nat.le_refl q), w_ins_k wS (Or.inr (Or.inr rfl)) (Nat.le_refl k)]
  have h2 : w_R n k (B + 6) (w_cls (w_asks s (w_ins s a k) q) n) := h1.mono (by omega)
  rw [w_wk, w_end]
  exact (h2.fld wS.1 wS.2.1 (by omega) (by omega) (by omega) (fun _ => Nat.min_le_left _ _) (by omega)).fld wS.1 wS.2.1 (by omega) (by omega) (by omega) (by omega) (by omega)
end WR
