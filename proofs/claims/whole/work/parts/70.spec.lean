/-! ===== what a week is, over natural numbers: a ledger a (the reference's layout: 4p kind, 4p+1 hand, 4p+2 bank, 4p+3 brazen, 16+i seen, 22 deposited, 23 interest, 24 cover, 25 week, 26 on notes), a story s ===== -/
abbrev z_Sy : Type := Nat → Nat → Nat
def w_bl (s : z_Sy) (a : Nat → Nat) (i : Nat) : Nat := if a (4 * s 0 i) = 1 then 2 * (s 2 i + a (16 + i)) else if a (4 * s 0 i) = 3 then (s 2 i + a (16 + i)) / 2 else s 2 i + a (16 + i)
def w_in (s : z_Sy) (a : Nat → Nat) (i : Nat) : Nat → Nat := if s 1 i = a 25 then (if a 22 / 2 ^ i % 2 = 1 then z_nu a (4 * s 0 i + 2) (min 999 (a (4 * s 0 i + 2) + w_bl s a i)) else z_nu a (4 * s 0 i + 1) (min 999 (a (4 * s 0 i + 1) + w_bl s a i))) else a
def w_ins (s : z_Sy) (a : Nat → Nat) : Nat → Nat → Nat
  | 0 => a
  | i + 1 => w_in s (w_ins s a i) i
def w_h (s : z_Sy) (a : Nat → Nat) (k : Nat) : Nat := min (a (4 * s 3 k + 1)) (s 5 k)
def w_b (s : z_Sy) (a : Nat → Nat) (k : Nat) : Nat := min (s 5 k - w_h s a k) (min (a (4 * s 3 k + 2)) (a 24))
def w_l (s : z_Sy) (a : Nat → Nat) (k : Nat) : Nat := s 5 k - w_h s a k - w_b s a k
def w_c (s : z_Sy) (a : Nat → Nat) (k : Nat) : Nat := if a (4 * s 3 k) = 2 then min (w_l s a k) (a 24 - w_b s a k) else 0
def w_ask1 (s : z_Sy) (a : Nat → Nat) (k : Nat) : Nat → Nat := if w_c s a k < w_l s a k then z_nu a (4 * s 3 k + 3) (a (4 * s 3 k + 3) + 1) else z_nu (z_nu (z_nu a (4 * s 3 k + 1) (a (4 * s 3 k + 1) - w_h s a k)) (4 * s 3 k + 2) (a (4 * s 3 k + 2) - w_b s a k)) 24 (a 24 - (w_b s a k + w_c s a k))
def w_ask (s : z_Sy) (a : Nat → Nat) (k : Nat) : Nat → Nat := if s 4 k = a 25 then w_ask1 s a k else a
def w_asks (s : z_Sy) (a : Nat → Nat) : Nat → Nat → Nat
  | 0 => a
  | k + 1 => w_ask s (w_asks s a k) k
def w_bz (s : z_Sy) (a : Nat → Nat) (k : Nat) : Bool := decide (s 4 k = a 25) && decide (w_c s a k < w_l s a k)
def w_tm (s : z_Sy) (a : Nat → Nat) : Nat → Nat
  | 0 => 0
  | k + 1 => w_tm s a k + (if w_bz s (w_asks s a k) k then 1 else 0)
def w_fc (s : z_Sy) (a : Nat → Nat) : Nat → Nat
  | 0 => 0
  | k + 1 => if w_bz s (w_asks s a k) k then w_fc s a k ||| 2 ^ s 3 k else w_fc s a k
def w_cl1 (a : Nat → Nat) (p : Nat) : Nat → Nat := z_nu (z_nu a (4 * p + 1) (a (4 * p + 1) - (a (4 * p + 1) + 9) / 10)) (4 * p + 2) (min 999 (a (4 * p + 2) + a (4 * p + 2) * a 23 / 10))
def w_cls (a : Nat → Nat) : Nat → Nat → Nat
  | 0 => a
  | p + 1 => w_cl1 (w_cls a p) p
def w_end (a : Nat → Nat) : Nat → Nat := z_nu (z_nu a 24 (min 99 (a 24 + 1))) 25 (a 25 + 1)
def w_wk (s : z_Sy) (n k q : Nat) (a : Nat → Nat) : Nat → Nat := w_end (w_cls (w_asks s (w_ins s a k) q) n)
/-- how often, and who, in the week that goes -/
def w_wt (s : z_Sy) (k q : Nat) (a : Nat → Nat) : Nat := w_tm s (w_ins s a k) q
def w_wf (s : z_Sy) (k q : Nat) (a : Nat → Nat) : Nat := w_fc s (w_ins s a k) q
/-- the bounds; B bounds how often each was brazen -/
def w_R (n k B : Nat) (a : Nat → Nat) : Prop := (∀ p, p < n → a (4 * p) ≤ 3 ∧ a (4 * p + 1) ≤ 999 ∧ a (4 * p + 2) ≤ 999 ∧ a (4 * p + 3) ≤ B) ∧ (∀ i, i < k → a (16 + i) ≤ 9) ∧ a 22 < 64 ∧ a 23 ≤ 9 ∧ a 24 ≤ 99 ∧ a 25 ≤ 200
def w_S (n k q : Nat) (s : z_Sy) : Prop := n ≤ 4 ∧ k ≤ 6 ∧ q ≤ 6 ∧ (∀ i, i < k → s 0 i < n ∧ s 1 i ≤ 9 ∧ s 2 i ≤ 9) ∧ (∀ j, j < q → s 3 j < n ∧ s 4 j ≤ 9 ∧ s 5 j ≤ 30)
/-! the class's own cells -/
def x_L (σ : z_St) (b n k : Nat) (a : Nat → Nat) : Prop := σ b 0 = nI n ∧ (∀ p, p < n → σ (b + 1) p = nI (a (4 * p)) ∧ σ (b + 2) p = nI (a (4 * p + 1)) ∧ σ (b + 3) p = nI (a (4 * p + 2)) ∧ σ (b + 4) p = nI (a (4 * p + 3))) ∧ (∀ i, i < k → σ (b + 5) i = nI (a (16 + i))) ∧ σ b 6 = nI (a 22) ∧ σ b 7 = nI (a 23) ∧ σ b 8 = nI (a 24) ∧ σ b 9 = nI (a 25)
def x_S (σ : z_St) (b k q : Nat) (s : z_Sy) : Prop := σ b 0 = nI k ∧ σ b 4 = nI q ∧ (∀ i, i < k → σ (b + 1) i = nI (s 0 i) ∧ σ (b + 2) i = nI (s 1 i) ∧ σ (b + 3) i = nI (s 2 i)) ∧ (∀ j, j < q → σ (b + 4) j = nI (s 3 j) ∧ σ (b + 5) j = nI (s 4 j) ∧ σ (b + 6) j = nI (s 5 j))
def x_F (σ σ' : z_St) (b : Nat) : Prop := ∀ c, (c < b ∨ b + 6 ≤ c) → σ' c = σ c
theorem x_F.rf {σ : z_St} {b : Nat} : x_F σ σ b := fun _ _ => rfl
theorem x_F.tr {σ σ' σ'' : z_St} {b : Nat} (h : x_F σ σ' b) (h' : x_F σ' σ'' b) : x_F σ σ'' b := fun c hc => (h' c hc).trans (h c hc)
theorem x_F.put {σ σ' : z_St} {b c k : Nat} {v : Int32} (h : x_F σ σ' b) (h1 : b ≤ c) (h2 : c < b + 6) : x_F σ (z_put σ' c k v) b := fun d hd => by
  rw [z_put_ne (by omega)]; exact h d hd
theorem x_S.fr {σ σ' : z_St} {b k q : Nat} {s : z_Sy} (h : x_S σ 4 k q s) (hb : 11 ≤ b) (hF : x_F σ σ' b) : x_S σ' 4 k q s := by
  unfold x_S
  rw [hF 4 (by omega), hF (4 + 1) (by omega), hF (4 + 2) (by omega), hF (4 + 3) (by omega), hF (4 + 4) (by omega), hF (4 + 5) (by omega), hF (4 + 6) (by omega)]
  exact h
theorem x_L.fr {σ σ' : z_St} {b d n k : Nat} {a : Nat → Nat} (h : x_L σ d n k a) (hb : d + 6 ≤ b ∨ b + 6 ≤ d) (hF : x_F σ σ' b) : x_L σ' d n k a := by
  unfold x_L
  rw [hF d (by omega), hF (d + 1) (by omega), hF (d + 2) (by omega), hF (d + 3) (by omega), hF (d + 4) (by omega), hF (d + 5) (by omega)]
  exact h
section XL
variable {σ : z_St} {b n k : Nat} {a : Nat → Nat}
theorem x_L.hand (h : x_L σ b n k a) (hn : n ≤ 4) {p v : Nat} (hp : p < n) : x_L (z_put σ (b + 2) p (nI v)) b n k (z_nu a (4 * p + 1) v) := by
  obtain ⟨h1, h2, h3, h4, h5, h6, h7⟩ := h
  refine ⟨?_, fun p' hp' => ?_, fun i hi => ?_, ?_, ?_, ?_, ?_⟩
  · rw [z_put_ne (by omega)]; exact h1
  · obtain ⟨g1, g2, g3, g4⟩ := h2 p' hp'
    refine ⟨?_, ?_, ?_, ?_⟩
    · rw [z_put_ne (by omega), z_nu_ne (by omega)]; exact g1
    · rw [z_put_eq]
      by_cases e : p' = p
      · subst e; rw [z_upd_eq, z_nu_eq]
      · rw [z_upd_ne e, z_nu_ne (by omega)]; exact g2
    · rw [z_put_ne (by omega), z_nu_ne (by omega)]; exact g3
    · rw [z_put_ne (by omega), z_nu_ne (by omega)]; exact g4
  · rw [z_put_ne (by omega), z_nu_ne (by omega)]; exact h3 i hi
  · rw [z_put_ne (by omega), z_nu_ne (by omega)]; exact h4
  · rw [z_put_ne (by omega), z_nu_ne (by omega)]; exact h5
  · rw [z_put_ne (by omega), z_nu_ne (by omega)]; exact h6
  · rw [z_put_ne (by omega), z_nu_ne (by omega)]; exact h7
theorem x_L.bank (h : x_L σ b n k a) (hn : n ≤ 4) {p v : Nat} (hp : p < n) : x_L (z_put σ (b + 3) p (nI v)) b n k (z_nu a (4 * p + 2) v) := by
  obtain ⟨h1, h2, h3, h4, h5, h6, h7⟩ := h
  refine ⟨?_, fun p' hp' => ?_, fun i hi => ?_, ?_, ?_, ?_, ?_⟩
  · rw [z_put_ne (by omega)]; exact h1
  · obtain ⟨g1, g2, g3, g4⟩ := h2 p' hp'
    refine ⟨?_, ?_, ?_, ?_⟩
    · rw [z_put_ne (by omega), z_nu_ne (by omega)]; exact g1
    · rw [z_put_ne (by omega), z_nu_ne (by omega)]; exact g2
    · rw [z_put_eq]
      by_cases e : p' = p
      · subst e; rw [z_upd_eq, z_nu_eq]
      · rw [z_upd_ne e, z_nu_ne (by omega)]; exact g3
    · rw [z_put_ne (by omega), z_nu_ne (by omega)]; exact g4
  · rw [z_put_ne (by omega), z_nu_ne (by omega)]; exact h3 i hi
  · rw [z_put_ne (by omega), z_nu_ne (by omega)]; exact h4
  · rw [z_put_ne (by omega), z_nu_ne (by omega)]; exact h5
  · rw [z_put_ne (by omega), z_nu_ne (by omega)]; exact h6
  · rw [z_put_ne (by omega), z_nu_ne (by omega)]; exact h7
theorem x_L.brz (h : x_L σ b n k a) (hn : n ≤ 4) {p v : Nat} (hp : p < n) : x_L (z_put σ (b + 4) p (nI v)) b n k (z_nu a (4 * p + 3) v) := by
  obtain ⟨h1, h2, h3, h4, h5, h6, h7⟩ := h
  refine ⟨?_, fun p' hp' => ?_, fun i hi => ?_, ?_, ?_, ?_, ?_⟩
  · rw [z_put_ne (by omega)]; exact h1
  · obtain ⟨g1, g2, g3, g4⟩ := h2 p' hp'
    refine ⟨?_, ?_, ?_, ?_⟩
    · rw [z_put_ne (by omega), z_nu_ne (by omega)]; exact g1
    · rw [z_put_ne (by omega), z_nu_ne (by omega)]; exact g2
    · rw [z_put_ne (by omega), z_nu_ne (by omega)]; exact g3
    · rw [z_put_eq]
      by_cases e : p' = p
      · subst e; rw [z_upd_eq, z_nu_eq]
      · rw [z_upd_ne e, z_nu_ne (by omega)]; exact g4
  · rw [z_put_ne (by omega), z_nu_ne (by omega)]; exact h3 i hi
  · rw [z_put_ne (by omega), z_nu_ne (by omega)]; exact h4
  · rw [z_put_ne (by omega), z_nu_ne (by omega)]; exact h5
  · rw [z_put_ne (by omega), z_nu_ne (by omega)]; exact h6
  · rw [z_put_ne (by omega), z_nu_ne (by omega)]; exact h7
theorem x_L.kind (h : x_L σ b n k a) (hn : n ≤ 4) {p v : Nat} (hp : p < n) : x_L (z_put σ (b + 1) p (nI v)) b n k (z_nu a (4 * p) v) := by
  obtain ⟨h1, h2, h3, h4, h5, h6, h7⟩ := h
  refine ⟨?_, fun p' hp' => ?_, fun i hi => ?_, ?_, ?_, ?_, ?_⟩
  · rw [z_put_ne (by omega)]; exact h1
  · obtain ⟨g1, g2, g3, g4⟩ := h2 p' hp'
    refine ⟨?_, ?_, ?_, ?_⟩
    · rw [z_put_eq]
      by_cases e : p' = p
      · subst e; rw [z_upd_eq, z_nu_eq]
      · rw [z_upd_ne e, z_nu_ne (by omega)]; exact g1
    · rw [z_put_ne (by omega), z_nu_ne (by omega)]; exact g2
    · rw [z_put_ne (by omega), z_nu_ne (by omega)]; exact g3
    · rw [z_put_ne (by omega), z_nu_ne (by omega)]; exact g4
  · rw [z_put_ne (by omega), z_nu_ne (by omega)]; exact h3 i hi
  · rw [z_put_ne (by omega), z_nu_ne (by omega)]; exact h4
  · rw [z_put_ne (by omega), z_nu_ne (by omega)]; exact h5
  · rw [z_put_ne (by omega), z_nu_ne (by omega)]; exact h6
  · rw [z_put_ne (by omega), z_nu_ne (by omega)]; exact h7
theorem x_L.seen (h : x_L σ b n k a) (hn : n ≤ 4) (hk : k ≤ 6) {i v : Nat} (hi : i < k) : x_L (z_put σ (b + 5) i (nI v)) b n k (z_nu a (16 + i) v) := by
  obtain ⟨h1, h2, h3, h4, h5, h6, h7⟩ := h
  refine ⟨?_, fun p' hp' => ?_, fun j hj => ?_, ?_, ?_, ?_, ?_⟩
  · rw [z_put_ne (by omega)]; exact h1
  · obtain ⟨g1, g2, g3, g4⟩ := h2 p' hp'
    refine ⟨?_, ?_, ?_, ?_⟩
    · rw [z_put_ne (by omega), z_nu_ne (by omega)]; exact g1
    · rw [z_put_ne (by omega), z_nu_ne (by omega)]; exact g2
    · rw [z_put_ne (by omega), z_nu_ne (by omega)]; exact g3
    · rw [z_put_ne (by omega), z_nu_ne (by omega)]; exact g4
  · rw [z_put_eq]
    by_cases e : j = i
    · subst e; rw [z_upd_eq, z_nu_eq]
    · rw [z_upd_ne e, z_nu_ne (by omega)]; exact h3 j hj
  · rw [z_put_ne (by omega), z_nu_ne (by omega)]; exact h4
  · rw [z_put_ne (by omega), z_nu_ne (by omega)]; exact h5
  · rw [z_put_ne (by omega), z_nu_ne (by omega)]; exact h6
  · rw [z_put_ne (by omega), z_nu_ne (by omega)]; exact h7
/-- the plain fields: 6 deposited, 7 interest, 8 cover, 9 week stand at 22 to 25 -/
theorem x_L.fld (h : x_L σ b n k a) (hn : n ≤ 4) (hk : k ≤ 6) {j v : Nat} (hj : 6 ≤ j) (hj2 : j ≤ 9) : x_L (z_put σ b j (nI v)) b n k (z_nu a (16 + j) v) := by
  obtain ⟨h1, h2, h3, h4, h5, h6, h7⟩ := h
  refine ⟨?_, fun p' hp' => ?_, fun i hi => ?_, ?_, ?_, ?_, ?_⟩
  · rw [z_put_eq, z_upd_ne (by omega)]; exact h1
  · obtain ⟨g1, g2, g3, g4⟩ := h2 p' hp'
    refine ⟨?_, ?_, ?_, ?_⟩
    · rw [z_put_ne (by omega), z_nu_ne (by omega)]; exact g1
    · rw [z_put_ne (by omega), z_nu_ne (by omega)]; exact g2
    · rw [z_put_ne (by omega), z_nu_ne (by omega)]; exact g3
    · rw [z_put_ne (by omega), z_nu_ne (by omega)]; exact g4
  · rw [z_put_ne (by omega), z_nu_ne (by omega)]; exact h3 i hi
  · rw [z_put_eq]
    by_cases e : j = 6
    · subst e; rw [z_upd_eq, z_nu_eq]
    · rw [z_upd_ne (by omega), z_nu_ne (by omega)]; exact h4
  · rw [z_put_eq]
    by_cases e : j = 7
    · subst e; rw [z_upd_eq, z_nu_eq]
    · rw [z_upd_ne (by omega), z_nu_ne (by omega)]; exact h5
  · rw [z_put_eq]
    by_cases e : j = 8
    · subst e; rw [z_upd_eq, z_nu_eq]
    · rw [z_upd_ne (by omega), z_nu_ne (by omega)]; exact h6
  · rw [z_put_eq]
    by_cases e : j = 9
    · subst e; rw [z_upd_eq, z_nu_eq]
    · rw [z_upd_ne (by omega), z_nu_ne (by omega)]; exact h7
theorem x_L.faces (h : x_L σ b n k a) (v : Int32) : x_L (z_put σ b 10 v) b n k a := by
  obtain ⟨h1, h2, h3, h4, h5, h6, h7⟩ := h
  refine ⟨?_, fun p' hp' => ?_, fun i hi => ?_, ?_, ?_, ?_, ?_⟩
  · rw [z_put_eq, z_upd_ne (by omega)]; exact h1
  · rw [z_put_ne (by omega), z_put_ne (by omega), z_put_ne (by omega), z_put_ne (by omega)]; exact h2 p' hp'
  · rw [z_put_ne (by omega)]; exact h3 i hi
  · rw [z_put_eq, z_upd_ne (by omega)]; exact h4
  · rw [z_put_eq, z_upd_ne (by omega)]; exact h5
  · rw [z_put_eq, z_upd_ne (by omega)]; exact h6
  · rw [z_put_eq, z_upd_ne (by omega)]; exact h7
end XL
