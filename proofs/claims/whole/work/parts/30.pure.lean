/-! ===== the pure side: reading and writing the memory, small numbers ===== -/
theorem z_row_eq (σ : z_St) (c : Nat) (ρ : Nat → Int32) : z_row σ c ρ c = ρ := by rw [z_row, if_pos rfl]
theorem z_row_ne {σ : z_St} {c d : Nat} {ρ : Nat → Int32} (h : d ≠ c) : z_row σ c ρ d = σ d := by rw [z_row, if_neg h]
theorem z_put_eq (σ : z_St) (c k : Nat) (v : Int32) : z_put σ c k v c = upd (σ c) k v := z_row_eq σ c _
theorem z_put_ne {σ : z_St} {c d k : Nat} {v : Int32} (h : d ≠ c) : z_put σ c k v d = σ d := z_row_ne h
theorem z_upd_eq (f : Nat → Int32) (k : Nat) (v : Int32) : upd f k v k = v := by rw [upd, if_pos rfl]
theorem z_upd_ne {f : Nat → Int32} {k j : Nat} {v : Int32} (h : j ≠ k) : upd f k v j = f j := by rw [upd, if_neg h]
theorem z_bst_eq (s : z_St) (g : z_St → Option (Int32 × z_St)) : z_bst s g = g s := rfl
theorem z_bi_eq (v : Int32) (g : Int32 → Option (Int32 × z_St)) : z_bi v g = g v := rfl
theorem z_bind_eq (r : Int32 × z_St) (g : Int32 × z_St → Option (Int32 × z_St)) : (some r).bind g = g r := rfl
theorem z_gd_in {i : Int32} {n : Nat} {T : Option (Int32 × z_St)} (h : vp_in i n) : z_gd i n T = T := by rw [z_gd, if_neg h]
theorem z_gd_nI {p n : Nat} {T : Option (Int32 × z_St)} (h : p < n) (hn : n < 2147483648) : z_gd (nI p) n T = T := z_gd_in (vp_in_nI h hn)
theorem z_nz_nI {p : Nat} {T : Option (Int32 × z_St)} (h : 0 < p) (hp : p < 2147483648) : z_nz (nI p) T = T := by rw [z_nz, if_neg (nI_ne0 h hp)]
theorem zn_cl {p : Nat} (h : p < 2147483648) : (nI p).toNatClampNeg = p := nI_clamp h
theorem zn_n0 : (0 : Int32) = nI 0 := rfl
theorem zn_lt {a b : Nat} (ha : a < 2147483648) (hb : b < 2147483648) : (nI a < nI b) = (a < b) := propext (nI_ltI ha hb)
theorem zn_le {a b : Nat} (ha : a < 2147483648) (hb : b < 2147483648) : (nI a ≤ nI b) = (a ≤ b) := propext (nI_leI ha hb)
theorem zn_eq {a b : Nat} (ha : a < 2147483648) (hb : b < 2147483648) : (nI a = nI b) = (a = b) := propext (nI_eq ha hb)
theorem zn_add (a b : Nat) : nI a + nI b = nI (a + b) := nI_add a b
theorem zn_sub {a b : Nat} (h : b ≤ a) : nI a - nI b = nI (a - b) := pk_sub h
theorem zn_mul (a b : Nat) : nI a * nI b = nI (a * b) := pk_mul a b
theorem zn_div {a d : Nat} (ha : a < 2147483648) (h0 : 0 < d) (hd : d < 2147483648) : nI a / nI d = nI (a / d) := pk_div ha h0 hd
theorem zn_rem {a d : Nat} (ha : a < 2147483648) (h0 : 0 < d) (hd : d < 2147483648) : nI a - nI a / nI d * nI d = nI (a % d) := pk_rem ha h0 hd
theorem z_min_nI {a b : Nat} (ha : a < 2147483648) (hb : b < 2147483648) : z_min (nI a) (nI b) = nI (min a b) := by
  rw [z_min]
  by_cases h : b < a
  · rw [if_pos ((nI_ltI hb ha).mpr h), Nat.min_eq_right (Nat.le_of_lt h)]
  · rw [if_neg (fun q => h ((nI_ltI hb ha).mp q)), Nat.min_eq_left (Nat.not_lt.mp h)]
theorem zn_lit (n : Nat) : (OfNat.ofNat n : Int32) = nI n := fa_lit n
/-- a word of at most six bits -/
theorem z_bit : ∀ d, d < 64 → ∀ i, i < 6 → (nI d >>> (nI i &&& 31)) &&& 1 = nI (d / 2 ^ i % 2) := by decide +kernel
theorem z_shl1 : ∀ i, i < 7 → (1 : Int32) <<< (nI i &&& 31) = nI (2 ^ i) := by decide +kernel
def z_nu (a : Nat → Nat) (j v : Nat) : Nat → Nat := fun i => if i = j then v else a i
theorem z_nu_eq (a : Nat → Nat) (j v : Nat) : z_nu a j v j = v := by rw [z_nu, if_pos rfl]
theorem z_nu_ne {a : Nat → Nat} {j v i : Nat} (h : i ≠ j) : z_nu a j v i = a i := by rw [z_nu, if_neg h]
