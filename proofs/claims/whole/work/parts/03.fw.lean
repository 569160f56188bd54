/-! ===== the memory: cells by number, each a row of ints; references never change once all is made ===== -/
abbrev z_St : Type := Nat → Nat → Int32
/-- the shape of a cell: an object (number of its class; each field an int, or the cell that it refers to), an array of ints (kind, length), an array of references (kind, the cells) -/
abbrev z_Sh : Type := (Nat × List (Option Nat)) ⊕ ((Nat × Nat) ⊕ (Nat × List Nat))
def z_row (σ : z_St) (c : Nat) (ρ : Nat → Int32) : z_St := fun d => if d = c then ρ else σ d
def z_put (σ : z_St) (c k : Nat) (v : Int32) : z_St := z_row σ c (upd (σ c) k v)
def z_fs (ad : Nat → Nat) (ρ : Nat → Int32) : Nat → List (Option Nat) → List Value
  | _, [] => []
  | k, none :: r => Value.int (ρ k) :: z_fs ad ρ (k + 1) r
  | k, some d :: r => Value.ref (ad d) :: z_fs ad ρ (k + 1) r
theorem z_fs_int (ad : Nat → Nat) (ρ : Nat → Int32) : ∀ (fk : List (Option Nat)) (j k : Nat), fk[k]? = some none → (z_fs ad ρ j fk)[k]? = some (.int (ρ (j + k)))
  | [], j, k, h => by simp at h
  | none :: r, j, 0, h => by simp [z_fs]
  | some d :: r, j, 0, h => by simp at h
  | none :: r, j, k + 1, h => by
    have h1 := z_fs_int ad ρ r (j + 1) k (by simpa using h)
    rw [z_fs, List.getElem?_cons_succ, h1, Nat.add_assoc, Nat.add_comm 1 k]
  | some d :: r, j, k + 1, h => by
    have h1 := z_fs_int ad ρ r (j + 1) k (by simpa using h)
    rw [z_fs, List.getElem?_cons_succ, h1, Nat.add_assoc, Nat.add_comm 1 k]
theorem z_fs_ref (ad : Nat → Nat) (ρ : Nat → Int32) {d : Nat} : ∀ (fk : List (Option Nat)) (j k : Nat), fk[k]? = some (some d) → (z_fs ad ρ j fk)[k]? = some (.ref (ad d))
  | [], j, k, h => by simp at h
  | none :: r, j, 0, h => by simp at h
  | some e :: r, j, 0, h => by
    have h1 : e = d := by simpa using h
    rw [h1, z_fs, List.getElem?_cons_zero]
  | none :: r, j, k + 1, h => by
    rw [z_fs, List.getElem?_cons_succ]
    exact z_fs_ref ad ρ r (j + 1) k (by simpa using h)
  | some e :: r, j, k + 1, h => by
    rw [z_fs, List.getElem?_cons_succ]
    exact z_fs_ref ad ρ r (j + 1) k (by simpa using h)
theorem z_fs_low (ad : Nat → Nat) (ρ : Nat → Int32) (i : Nat) (v : Int32) : ∀ (fk : List (Option Nat)) (j : Nat), i < j → z_fs ad (upd ρ i v) j fk = z_fs ad ρ j fk
  | [], j, h => rfl
  | none :: r, j, h => by
    rw [z_fs, z_fs, z_fs_low ad ρ i v r (j + 1) (by omega)]
    have h1 : upd ρ i v j = ρ j := by rw [upd, if_neg (by omega)]
    rw [h1]
  | some d :: r, j, h => by rw [z_fs, z_fs, z_fs_low ad ρ i v r (j + 1) (by omega)]
theorem z_fs_set (ad : Nat → Nat) (ρ : Nat → Int32) (v : Int32) : ∀ (fk : List (Option Nat)) (j k : Nat), fk[k]? = some none → (z_fs ad ρ j fk).set k (.int v) = z_fs ad (upd ρ (j + k) v) j fk
  | [], j, k, h => by simp at h
  | none :: r, j, 0, h => by
    have h1 : upd ρ j v j = v := by rw [upd, if_pos rfl]
    have h2 := z_fs_low ad ρ j v r (j + 1) (by omega)
    show (Value.int (ρ j) :: z_fs ad ρ (j + 1) r).set 0 (.int v) = Value.int (upd ρ j v j) :: z_fs ad (upd ρ j v) (j + 1) r
    rw [h1, h2, List.set_cons_zero]
  | some d :: r, j, 0, h => by simp at h
  | none :: r, j, k + 1, h => by
    have h1 := z_fs_set ad ρ v r (j + 1) k (by simpa using h)
    rw [z_fs, z_fs, List.set_cons_succ, h1, Nat.add_assoc, Nat.add_comm 1 k]
    have h2 : upd ρ (j + (k + 1)) v j = ρ j := by rw [upd, if_neg (by omega)]
    rw [h2]
  | some d :: r, j, k + 1, h => by
    have h1 := z_fs_set ad ρ v r (j + 1) k (by simpa using h)
    rw [z_fs, z_fs, List.set_cons_succ, h1, Nat.add_assoc, Nat.add_comm 1 k]
theorem z_fs_len (ad : Nat → Nat) (ρ : Nat → Int32) : ∀ (fk : List (Option Nat)) (j : Nat), (z_fs ad ρ j fk).length = fk.length
  | [], j => rfl
  | none :: r, j => by rw [z_fs, List.length_cons, List.length_cons, z_fs_len ad ρ r]
  | some d :: r, j => by rw [z_fs, List.length_cons, List.length_cons, z_fs_len ad ρ r]
def z_en (cy : Nat → ClassId) (ad : Nat → Nat) (sh : z_Sh) (ρ : Nat → Int32) : va_E := match sh with
  | .inl o => .inr (o.1, z_fs ad ρ 0 o.2)
  | .inr (.inl a) => .inl (cy a.1, a.2, .inl ρ)
  | .inr (.inr a) => .inl (cy a.1, a.2.length, .inr (.inr (.inr (.inr (fun k => (a.2[k]?).map ad)))))
/-- the world: the class numbers, the array classes, the addresses, the shapes, and what is fixed for good -/
abbrev z_V : Type := va_G × (Nat → ClassId) × (Nat → Nat) × List z_Sh × (State → Prop)
abbrev z_ad (V : z_V) : Nat → Nat := V.2.2.1
abbrev z_sh (V : z_V) : List z_Sh := V.2.2.2.1
def z_W (V : z_V) (σ : z_St) : va_W := (z_sh V).mapIdx (fun c sh => (z_ad V c, z_en V.2.1 (z_ad V) sh (σ c)))
def z_A (V : z_V) : Nat → Prop := fun q => ∃ c, c < (z_sh V).length ∧ q = z_ad V c
def z_tys (V : z_V) : List (ClassId × FieldType) := [(V.2.1 0, .int), (V.2.1 1, .byte), (V.2.1 2, .boolean), (V.2.1 3, .object "BlushBank$Image"), (V.2.1 4, .object "BlushBank$Sheet")]
theorem z_at {V : z_V} {c : Nat} {sh : z_Sh} (σ : z_St) (h : (z_sh V)[c]? = some sh) : (z_W V σ)[c]? = some (z_ad V c, z_en V.2.1 (z_ad V) sh (σ c)) := by
  rw [z_W, List.getElem?_mapIdx, h]; rfl
theorem z_set {V : z_V} {c : Nat} {sh : z_Sh} (σ : z_St) (h : (z_sh V)[c]? = some sh) (ρ : Nat → Int32) : (z_W V σ).set c (z_ad V c, z_en V.2.1 (z_ad V) sh ρ) = z_W V (z_row σ c ρ) := by
  apply List.ext_getElem?
  intro i
  rw [List.getElem?_set]
  by_cases hi : c = i
  · subst hi
    have hl : c < (z_W V σ).length := by
      rw [z_W, List.length_mapIdx]
      exact (List.getElem?_eq_some_iff.mp h).1
    rw [if_pos rfl, if_pos hl, z_W, List.getElem?_mapIdx, h]
    simp [z_row]
  · rw [if_neg hi, z_W, z_W, List.getElem?_mapIdx, List.getElem?_mapIdx]
    have h1 : z_row σ c ρ i = σ i := by rw [z_row, if_neg (fun e => hi e.symm)]
    rw [h1]
/-- the addresses are apart; what is fixed stays -/
def z_ok (V : z_V) : Prop := (∀ i j, i < (z_sh V).length → j < (z_sh V).length → z_ad V i = z_ad V j → i = j) ∧ (∀ (U : State) (g : JFrame) (mk : MethodId) (a : Array Value), V.2.2.2.2 U → V.2.2.2.2 (U.calling g mk a)) ∧ (∀ (s U : State) (H : Heap) (locs : List Loc), V.2.2.2.2 s → va_S (z_A V) s.heap H locs → U.heap = H → s.WarmedH U.vm → V.2.2.2.2 U)
theorem z_dis {V : z_V} (hV : z_ok V) (σ : z_St) : va_D (z_A V) (z_W V σ) := by
  have look : ∀ (k : Nat) (q : Nat × va_E), (z_W V σ)[k]? = some q → k < (z_sh V).length ∧ q.1 = z_ad V k := by
    intro k q h
    rw [z_W, List.getElem?_mapIdx] at h
    cases hs : (z_sh V)[k]? with
    | none => rw [hs] at h; cases h
    | some sh =>
      rw [hs] at h
      refine ⟨(List.getElem?_eq_some_iff.mp hs).1, ?_⟩
      have h2 := Option.some.inj h
      rw [← h2]
  refine ⟨fun i j p q hp hq e => ?_, fun k q h => ?_⟩
  · obtain ⟨a1, a2⟩ := look i p hp
    obtain ⟨b1, b2⟩ := look j q hq
    exact hV.1 i j a1 b1 (by rw [← a2, ← b2, e])
  · obtain ⟨a1, a2⟩ := look k q h
    exact ⟨k, a1, a2⟩
/-- what a method finds, and what it leaves -/
def z_B (V : z_V) (σ : z_St) (U : State) : Prop := va_P V.1 vwCl (z_W V σ) U.heap ∧ va_K V.1 vwCl (z_tys V) U ∧ V.2.2.2.2 U
def z_QI (V : z_V) (r : Int32 × z_St) : Array Value → State → Outcome → State → Prop := va_Qi (fun v u => v = r.1 ∧ u = r.2) (fun (u : z_St) t => va_P V.1 vwCl (z_W V u) t.heap) (z_A V)
def z_QV (V : z_V) (r : Int32 × z_St) : Array Value → State → Outcome → State → Prop := va_Qv (fun u => u = r.2) (fun (u : z_St) t => va_P V.1 vwCl (z_W V u) t.heap) (z_A V)
def z_CtI (l : Launch) (V : z_V) (y : MethodName) (ws : List Cond) (rm : Room) (vs : List Value) (σ : z_St) (T : Option (Int32 × z_St)) : Prop := ∀ r, T = some r → Met l y ws rm (va_Pc vs (z_B V σ)) (z_QI V r) 0 0 (z_A V)
def z_CtV (l : Launch) (V : z_V) (y : MethodName) (ws : List Cond) (rm : Room) (vs : List Value) (σ : z_St) (T : Option (Int32 × z_St)) : Prop := ∀ r, T = some r → Met l y ws rm (va_Pc vs (z_B V σ)) (z_QV V r) 0 0 (z_A V)
/-- the machine within a method -/
abbrev z_M : Type := Program × Launch × Env × State × MethodId × Array Value × List Frame × Method × Code
def z_Go (M : z_M) (R : Room) (nL : Nat) (V : z_V) (Qr : Int32 × z_St → Array Value → State → Outcome → State → Prop) (σ : z_St) (pc : Nat) (lv : List (Nat × Value)) (st : List Value) (T : Option (Int32 × z_St)) : Prop :=
  ∀ r, T = some r → ∀ (ls : Array Slot) (H : Heap) (locs : List Loc), lv_has ls nL lv → va_P V.1 vwCl (z_W V σ) H → va_S (z_A V) M.2.2.2.1.heap H locs →
    W M.1 M.2.1 M.2.2.1 R M.2.2.2.1 M.2.2.2.2.1 M.2.2.2.2.2.1 M.2.2.2.2.2.2.1 M.2.2.2.2.2.2.2.1 M.2.2.2.2.2.2.2.2 H locs 0 0 (MQ M.2.2.2.2.2.2.1 (Qr r) M.2.2.2.2.2.1 M.2.2.2.1 0 0 (z_A V)) (F0 M.2.2.2.2.1 pc ls st)
def z_Cx (M : z_M) (V : z_V) (cc : ByteArray) (nL : Nat) (ret : Option FieldType) (Ts : List Cond) (own : String) : Prop :=
  CallFix M.1 M.2.2.2.2.1 M.2.2.2.2.2.2.2.2 cc nL M.2.2.2.1 M.2.2.2.2.2.1 Ts own ∧ M.2.2.2.2.2.2.2.1.sig.returnType = ret ∧ M.2.2.2.2.2.2.2.1.locks = false ∧ va_K V.1 vwCl (z_tys V) M.2.2.2.1 ∧ V.2.2.2.2 M.2.2.2.1 ∧ z_ok V
/-- the guards of the pure side: an index in its row, a divisor, a truth value -/
def z_gd (i : Int32) (n : Nat) (T : Option (Int32 × z_St)) : Option (Int32 × z_St) := if i < 0 ∨ n ≤ i.toNatClampNeg then none else T
def z_nz (i : Int32) (T : Option (Int32 × z_St)) : Option (Int32 × z_St) := if i = 0 then none else T
def z_tf (i : Int32) (T : Option (Int32 × z_St)) : Option (Int32 × z_St) := if i = 0 ∨ i = 1 then T else none
abbrev z_li (i : Int32) (n j : Nat) : Prop := (¬ (i < 0 ∨ n ≤ i.toNatClampNeg)) ∧ i.toNatClampNeg = j
def z_min (x y : Int32) : Int32 := if y < x then y else x
def z_us (x y : Int32) : Int32 := (x.toUInt32 >>> (y.toUInt32 &&& Int32.toUInt32 31)).toInt32
def z_bst (s : z_St) (g : z_St → Option (Int32 × z_St)) : Option (Int32 × z_St) := g s
def z_bi (v : Int32) (g : Int32 → Option (Int32 × z_St)) : Option (Int32 × z_St) := g v
theorem z_gd_some {i : Int32} {n : Nat} {T : Option (Int32 × z_St)} {r : Int32 × z_St} (h : z_gd i n T = some r) : vp_in i n ∧ T = some r := by
  unfold z_gd at h
  by_cases q : i < 0 ∨ n ≤ i.toNatClampNeg
  · rw [if_pos q] at h; cases h
  · rw [if_neg q] at h; exact ⟨q, h⟩
theorem z_nz_some {i : Int32} {T : Option (Int32 × z_St)} {r : Int32 × z_St} (h : z_nz i T = some r) : ¬ i = 0 ∧ T = some r := by
  unfold z_nz at h
  by_cases q : i = 0
  · rw [if_pos q] at h; cases h
  · rw [if_neg q] at h; exact ⟨q, h⟩
theorem z_tf_some {i : Int32} {T : Option (Int32 × z_St)} {r : Int32 × z_St} (h : z_tf i T = some r) : (i = 0 ∨ i = 1) ∧ T = some r := by
  unfold z_tf at h
  by_cases q : i = 0 ∨ i = 1
  · rw [if_pos q] at h; exact ⟨q, h⟩
  · rw [if_neg q] at h; cases h
theorem z_bind_some {T : Option (Int32 × z_St)} {g : Int32 × z_St → Option (Int32 × z_St)} {r : Int32 × z_St} (h : T.bind g = some r) : ∃ u, T = some u ∧ g u = some r := Option.bind_eq_some_iff.mp h
section ZR
variable {M : z_M} {R : Room} {nL : Nat} {V : z_V} {Qr : Int32 × z_St → Array Value → State → Outcome → State → Prop} {σ : z_St} {pc : Nat} {lv : List (Nat × Value)} {st : List Value} {T T1 T2 : Option (Int32 × z_St)} {cc : ByteArray} {ret : Option FieldType} {Ts : List Cond} {own : String}
theorem z_bs {s : z_St} {g : z_St → Option (Int32 × z_St)} (kk : ∀ s', z_Go M R nL V Qr s' pc lv st (g s')) : z_Go M R nL V Qr s pc lv st (z_bst s g) := kk s
theorem z_top {v : Int32} {g : Int32 → Option (Int32 × z_St)} (kk : ∀ v', z_Go M R nL V Qr σ pc lv (.int v' :: st) (g v')) : z_Go M R nL V Qr σ pc lv (.int v :: st) (z_bi v g) := kk v
theorem z_none : z_Go M R nL V Qr σ pc lv st none := fun r h => by cases h
theorem z_sub {lv' : List (Nat × Value)} (ks : List Nat) (h : lv_pick lv ks = lv') (k : z_Go M R nL V Qr σ pc lv' st T) : z_Go M R nL V Qr σ pc lv st T := fun r hr ls H locs hl hP hS => k r hr ls H locs (lv_sub hl ks h) hP hS

theorem z_iconst (hX : z_Cx M V cc nL ret Ts own) {n : Int} {v : Int32} (hd : decode cc pc = .ok (.iconst n, 1)) (hv : Int32.ofInt n = v) (k : z_Go M R nL V Qr σ (pc + 1) lv (.int v :: st) T) : z_Go M R nL V Qr σ pc lv st T := fun r hr ls H locs hl hP hS => lv_iconst hX.1.1 hX.1.2.1 hd hv (k r hr ls H locs hl hP hS)
theorem z_bipush (hX : z_Cx M V cc nL ret Ts own) {n : Int} {v : Int32} (hd : decode cc pc = .ok (.bipush n, 2)) (hv : (Int8.ofInt n).toInt32 = v) (k : z_Go M R nL V Qr σ (pc + 2) lv (.int v :: st) T) : z_Go M R nL V Qr σ pc lv st T := fun r hr ls H locs hl hP hS => lv_bipush hX.1.1 hX.1.2.1 hd hv (k r hr ls H locs hl hP hS)
theorem z_sipush (hX : z_Cx M V cc nL ret Ts own) {n : Int} {v : Int32} (hd : decode cc pc = .ok (.sipush n, 3)) (hv : (Int16.ofInt n).toInt32 = v) (k : z_Go M R nL V Qr σ (pc + 3) lv (.int v :: st) T) : z_Go M R nL V Qr σ pc lv st T := fun r hr ls H locs hl hP hS => lv_sipush hX.1.1 hX.1.2.1 hd hv (k r hr ls H locs hl hP hS)
theorem z_lconst (hX : z_Cx M V cc nL ret Ts own) {n : Fin 2} {v : Int64} (hd : decode cc pc = .ok (.lconst n, 1)) (hv : Int64.ofNat (n : Nat) = v) (k : z_Go M R nL V Qr σ (pc + 1) lv (.long v :: st) T) : z_Go M R nL V Qr σ pc lv st T := fun r hr ls H locs hl hP hS => lv_lconst hX.1.1 hX.1.2.1 hd hv (k r hr ls H locs hl hP hS)
theorem z_iload_n (hX : z_Cx M V cc nL ret Ts own) {k : Fin 4} {i : Nat} {x : Int32} (hd : decode cc pc = .ok (.iload_n k, 1)) (hi : (k : Nat) = i) (j : Nat) (hj : lv[j]? = some (i, .int x)) (kk : z_Go M R nL V Qr σ (pc + 1) lv (.int x :: st) T) : z_Go M R nL V Qr σ pc lv st T := fun r hr ls H locs hl hP hS => lv_iload_n hX.1.1 hX.1.2.1 hd hi (lv_at hl j hj) (kk r hr ls H locs hl hP hS)
theorem z_iload (hX : z_Cx M V cc nL ret Ts own) {i : Nat} {x : Int32} (hd : decode cc pc = .ok (.iload i, 2)) (j : Nat) (hj : lv[j]? = some (i, .int x)) (kk : z_Go M R nL V Qr σ (pc + 2) lv (.int x :: st) T) : z_Go M R nL V Qr σ pc lv st T := fun r hr ls H locs hl hP hS => lv_iload hX.1.1 hX.1.2.1 hd (lv_at hl j hj) (kk r hr ls H locs hl hP hS)
theorem z_istore_n (hX : z_Cx M V cc nL ret Ts own) {k : Fin 4} {i : Nat} {x : Int32} {lv' : List (Nat × Value)} (hd : decode cc pc = .ok (.istore_n k, 1)) (hi : (k : Nat) = i) (hn : i < nL) (hl' : (i, Value.int x) :: lv.filter (fun q => !(q.1 == i) && !(q.1 + 1 == i && q.2.category == 2)) = lv') (kk : z_Go M R nL V Qr σ (pc + 1) lv' st T) : z_Go M R nL V Qr σ pc lv (.int x :: st) T := fun r hr ls H locs hl hP hS => lv_istore_n hX.1.1 hX.1.2.1 hd hi hl hn hl' (fun ls hl => kk r hr ls H locs hl hP hS)
theorem z_istore (hX : z_Cx M V cc nL ret Ts own) {i : Nat} {x : Int32} {lv' : List (Nat × Value)} (hd : decode cc pc = .ok (.istore i, 2)) (hn : i < nL) (hl' : (i, Value.int x) :: lv.filter (fun q => !(q.1 == i) && !(q.1 + 1 == i && q.2.category == 2)) = lv') (kk : z_Go M R nL V Qr σ (pc + 2) lv' st T) : z_Go M R nL V Qr σ pc lv (.int x :: st) T := fun r hr ls H locs hl hP hS => lv_istore hX.1.1 hX.1.2.1 hd hl hn hl' (fun ls hl => kk r hr ls H locs hl hP hS)
theorem z_lload_n (hX : z_Cx M V cc nL ret Ts own) {k : Fin 4} {i : Nat} {x : Int64} (hd : decode cc pc = .ok (.lload_n k, 1)) (hi : (k : Nat) = i) (j : Nat) (hj : lv[j]? = some (i, .long x)) (kk : z_Go M R nL V Qr σ (pc + 1) lv (.long x :: st) T) : z_Go M R nL V Qr σ pc lv st T := fun r hr ls H locs hl hP hS => lv_lload_n hX.1.1 hX.1.2.1 hd hi (lv_at hl j hj) (kk r hr ls H locs hl hP hS)
theorem z_lload (hX : z_Cx M V cc nL ret Ts own) {i : Nat} {x : Int64} (hd : decode cc pc = .ok (.lload i, 2)) (j : Nat) (hj : lv[j]? = some (i, .long x)) (kk : z_Go M R nL V Qr σ (pc + 2) lv (.long x :: st) T) : z_Go M R nL V Qr σ pc lv st T := fun r hr ls H locs hl hP hS => lv_lload hX.1.1 hX.1.2.1 hd (lv_at hl j hj) (kk r hr ls H locs hl hP hS)
theorem z_lstore_n (hX : z_Cx M V cc nL ret Ts own) {k : Fin 4} {i : Nat} {x : Int64} {lv' : List (Nat × Value)} (hd : decode cc pc = .ok (.lstore_n k, 1)) (hi : (k : Nat) = i) (hn : i + 1 < nL) (hl' : (i, Value.long x) :: lv.filter (fun q => !(q.1 == i) && (!(q.1 == i + 1) && !(q.1 + 1 == i && q.2.category == 2))) = lv') (kk : z_Go M R nL V Qr σ (pc + 1) lv' st T) : z_Go M R nL V Qr σ pc lv (.long x :: st) T := fun r hr ls H locs hl hP hS => lv_lstore_n hX.1.1 hX.1.2.1 hd hi hl hn hl' (fun ls hl => kk r hr ls H locs hl hP hS)
theorem z_lstore (hX : z_Cx M V cc nL ret Ts own) {i : Nat} {x : Int64} {lv' : List (Nat × Value)} (hd : decode cc pc = .ok (.lstore i, 2)) (hn : i + 1 < nL) (hl' : (i, Value.long x) :: lv.filter (fun q => !(q.1 == i) && (!(q.1 == i + 1) && !(q.1 + 1 == i && q.2.category == 2))) = lv') (kk : z_Go M R nL V Qr σ (pc + 2) lv' st T) : z_Go M R nL V Qr σ pc lv (.long x :: st) T := fun r hr ls H locs hl hP hS => lv_lstore hX.1.1 hX.1.2.1 hd hl hn hl' (fun ls hl => kk r hr ls H locs hl hP hS)
theorem z_aload_n (hX : z_Cx M V cc nL ret Ts own) {k : Fin 4} {i : Nat} {x : Nat} (hd : decode cc pc = .ok (.aload_n k, 1)) (hi : (k : Nat) = i) (j : Nat) (hj : lv[j]? = some (i, .ref x)) (kk : z_Go M R nL V Qr σ (pc + 1) lv (.ref x :: st) T) : z_Go M R nL V Qr σ pc lv st T := fun r hr ls H locs hl hP hS => lv_aload_n hX.1.1 hX.1.2.1 hd hi (lv_at hl j hj) (kk r hr ls H locs hl hP hS)
theorem z_aload (hX : z_Cx M V cc nL ret Ts own) {i : Nat} {x : Nat} (hd : decode cc pc = .ok (.aload i, 2)) (j : Nat) (hj : lv[j]? = some (i, .ref x)) (kk : z_Go M R nL V Qr σ (pc + 2) lv (.ref x :: st) T) : z_Go M R nL V Qr σ pc lv st T := fun r hr ls H locs hl hP hS => lv_aload hX.1.1 hX.1.2.1 hd (lv_at hl j hj) (kk r hr ls H locs hl hP hS)
theorem z_astore_n (hX : z_Cx M V cc nL ret Ts own) {k : Fin 4} {i : Nat} {x : Nat} {lv' : List (Nat × Value)} (hd : decode cc pc = .ok (.astore_n k, 1)) (hi : (k : Nat) = i) (hn : i < nL) (hl' : (i, Value.ref x) :: lv.filter (fun q => !(q.1 == i) && !(q.1 + 1 == i && q.2.category == 2)) = lv') (kk : z_Go M R nL V Qr σ (pc + 1) lv' st T) : z_Go M R nL V Qr σ pc lv (.ref x :: st) T := fun r hr ls H locs hl hP hS => lv_astore_n hX.1.1 hX.1.2.1 hd hi hl hn hl' (fun ls hl => kk r hr ls H locs hl hP hS)
theorem z_astore (hX : z_Cx M V cc nL ret Ts own) {i : Nat} {x : Nat} {lv' : List (Nat × Value)} (hd : decode cc pc = .ok (.astore i, 2)) (hn : i < nL) (hl' : (i, Value.ref x) :: lv.filter (fun q => !(q.1 == i) && !(q.1 + 1 == i && q.2.category == 2)) = lv') (kk : z_Go M R nL V Qr σ (pc + 2) lv' st T) : z_Go M R nL V Qr σ pc lv (.ref x :: st) T := fun r hr ls H locs hl hP hS => lv_astore hX.1.1 hX.1.2.1 hd hl hn hl' (fun ls hl => kk r hr ls H locs hl hP hS)
theorem z_iinc (hX : z_Cx M V cc nL ret Ts own) {i : Nat} {n : Int} {x v : Int32} {lv' : List (Nat × Value)} (hd : decode cc pc = .ok (.iinc i n, 3)) (j : Nat) (hj : lv[j]? = some (i, .int x)) (hv : x + Int32.ofInt n = v) (hn : i < nL) (hl' : (i, Value.int v) :: lv.filter (fun q => !(q.1 == i) && !(q.1 + 1 == i && q.2.category == 2)) = lv') (kk : z_Go M R nL V Qr σ (pc + 3) lv' st T) : z_Go M R nL V Qr σ pc lv st T := fun r hr ls H locs hl hP hS => lv_iinc hX.1.1 hX.1.2.1 hd hl (k := j) hj hv hn hl' (fun ls hl => kk r hr ls H locs hl hP hS)
theorem z_iadd (hX : z_Cx M V cc nL ret Ts own) {x y : Int32} (hd : decode cc pc = .ok (.iadd, 1)) (kk : z_Go M R nL V Qr σ (pc + 1) lv (.int (x + y) :: st) T) : z_Go M R nL V Qr σ pc lv (.int y :: .int x :: st) T := fun r hr ls H locs hl hP hS => lv_iadd hX.1.1 hX.1.2.1 hd (kk r hr ls H locs hl hP hS)
theorem z_isub (hX : z_Cx M V cc nL ret Ts own) {x y : Int32} (hd : decode cc pc = .ok (.isub, 1)) (kk : z_Go M R nL V Qr σ (pc + 1) lv (.int (x - y) :: st) T) : z_Go M R nL V Qr σ pc lv (.int y :: .int x :: st) T := fun r hr ls H locs hl hP hS => lv_isub hX.1.1 hX.1.2.1 hd (kk r hr ls H locs hl hP hS)
theorem z_imul (hX : z_Cx M V cc nL ret Ts own) {x y : Int32} (hd : decode cc pc = .ok (.imul, 1)) (kk : z_Go M R nL V Qr σ (pc + 1) lv (.int (x * y) :: st) T) : z_Go M R nL V Qr σ pc lv (.int y :: .int x :: st) T := fun r hr ls H locs hl hP hS => lv_imul hX.1.1 hX.1.2.1 hd (kk r hr ls H locs hl hP hS)
theorem z_iand (hX : z_Cx M V cc nL ret Ts own) {x y : Int32} (hd : decode cc pc = .ok (.iand, 1)) (kk : z_Go M R nL V Qr σ (pc + 1) lv (.int (x &&& y) :: st) T) : z_Go M R nL V Qr σ pc lv (.int y :: .int x :: st) T := fun r hr ls H locs hl hP hS => lv_iand hX.1.1 hX.1.2.1 hd (kk r hr ls H locs hl hP hS)
theorem z_ior (hX : z_Cx M V cc nL ret Ts own) {x y : Int32} (hd : decode cc pc = .ok (.ior, 1)) (kk : z_Go M R nL V Qr σ (pc + 1) lv (.int (x ||| y) :: st) T) : z_Go M R nL V Qr σ pc lv (.int y :: .int x :: st) T := fun r hr ls H locs hl hP hS => lv_ior hX.1.1 hX.1.2.1 hd (kk r hr ls H locs hl hP hS)
theorem z_ixor (hX : z_Cx M V cc nL ret Ts own) {x y : Int32} (hd : decode cc pc = .ok (.ixor, 1)) (kk : z_Go M R nL V Qr σ (pc + 1) lv (.int (x ^^^ y) :: st) T) : z_Go M R nL V Qr σ pc lv (.int y :: .int x :: st) T := fun r hr ls H locs hl hP hS => lv_ixor hX.1.1 hX.1.2.1 hd (kk r hr ls H locs hl hP hS)
theorem z_ishl (hX : z_Cx M V cc nL ret Ts own) {x y : Int32} (hd : decode cc pc = .ok (.ishl, 1)) (kk : z_Go M R nL V Qr σ (pc + 1) lv (.int (x <<< (y &&& 31)) :: st) T) : z_Go M R nL V Qr σ pc lv (.int y :: .int x :: st) T := fun r hr ls H locs hl hP hS => lv_ishl hX.1.1 hX.1.2.1 hd (kk r hr ls H locs hl hP hS)
theorem z_ishr (hX : z_Cx M V cc nL ret Ts own) {x y : Int32} (hd : decode cc pc = .ok (.ishr, 1)) (kk : z_Go M R nL V Qr σ (pc + 1) lv (.int (x >>> (y &&& 31)) :: st) T) : z_Go M R nL V Qr σ pc lv (.int y :: .int x :: st) T := fun r hr ls H locs hl hP hS => lv_ishr hX.1.1 hX.1.2.1 hd (kk r hr ls H locs hl hP hS)
theorem z_iushr (hX : z_Cx M V cc nL ret Ts own) {x y : Int32} (hd : decode cc pc = .ok (.iushr, 1)) (kk : z_Go M R nL V Qr σ (pc + 1) lv (.int (z_us x y) :: st) T) : z_Go M R nL V Qr σ pc lv (.int y :: .int x :: st) T := fun r hr ls H locs hl hP hS => lv_iushr hX.1.1 hX.1.2.1 hd rfl (kk r hr ls H locs hl hP hS)
theorem z_idivc (hX : z_Cx M V cc nL ret Ts own) {x y : Int32} (hd : decode cc pc = .ok (.idiv, 1)) (hy : ¬ y = 0) (kk : z_Go M R nL V Qr σ (pc + 1) lv (.int (x / y) :: st) T) : z_Go M R nL V Qr σ pc lv (.int y :: .int x :: st) T := fun r hr ls H locs hl hP hS => lv_idiv hX.1.1 hX.1.2.1 hd hy (kk r hr ls H locs hl hP hS)
theorem z_iremc (hX : z_Cx M V cc nL ret Ts own) {x y : Int32} (hd : decode cc pc = .ok (.irem, 1)) (hy : ¬ y = 0) (kk : z_Go M R nL V Qr σ (pc + 1) lv (.int (x - x / y * y) :: st) T) : z_Go M R nL V Qr σ pc lv (.int y :: .int x :: st) T := fun r hr ls H locs hl hP hS => lv_irem hX.1.1 hX.1.2.1 hd hy (kk r hr ls H locs hl hP hS)
theorem z_irem (hX : z_Cx M V cc nL ret Ts own) {x y : Int32} (hd : decode cc pc = .ok (.irem, 1)) (kk : z_Go M R nL V Qr σ (pc + 1) lv (.int (x - x / y * y) :: st) T) : z_Go M R nL V Qr σ pc lv (.int y :: .int x :: st) (z_nz y T) := fun r hr ls H locs hl hP hS => lv_irem hX.1.1 hX.1.2.1 hd (z_nz_some hr).1 (kk r (z_nz_some hr).2 ls H locs hl hP hS)
theorem z_ineg (hX : z_Cx M V cc nL ret Ts own) {x : Int32} (hd : decode cc pc = .ok (.ineg, 1)) (kk : z_Go M R nL V Qr σ (pc + 1) lv (.int (-x) :: st) T) : z_Go M R nL V Qr σ pc lv (.int x :: st) T := fun r hr ls H locs hl hP hS => lv_ineg hX.1.1 hX.1.2.1 hd (kk r hr ls H locs hl hP hS)
theorem z_ladd (hX : z_Cx M V cc nL ret Ts own) {x y : Int64} (hd : decode cc pc = .ok (.ladd, 1)) (kk : z_Go M R nL V Qr σ (pc + 1) lv (.long (x + y) :: st) T) : z_Go M R nL V Qr σ pc lv (.long y :: .long x :: st) T := fun r hr ls H locs hl hP hS => lv_ladd hX.1.1 hX.1.2.1 hd (kk r hr ls H locs hl hP hS)
theorem z_lcmp (hX : z_Cx M V cc nL ret Ts own) {x y : Int64} (hd : decode cc pc = .ok (.lcmp, 1)) (kk : z_Go M R nL V Qr σ (pc + 1) lv (.int (lg_cmp x y) :: st) T) : z_Go M R nL V Qr σ pc lv (.long y :: .long x :: st) T := fun r hr ls H locs hl hP hS => W.lcmp hX.1.1 hX.1.2.1 hd (kk r hr ls H locs hl hP hS)
theorem z_i2l (hX : z_Cx M V cc nL ret Ts own) {x : Int32} (hd : decode cc pc = .ok (.i2l, 1)) (kk : z_Go M R nL V Qr σ (pc + 1) lv (.long (x.toInt64) :: st) T) : z_Go M R nL V Qr σ pc lv (.int x :: st) T := fun r hr ls H locs hl hP hS => lv_i2l hX.1.1 hX.1.2.1 hd rfl (kk r hr ls H locs hl hP hS)
theorem z_i2b (hX : z_Cx M V cc nL ret Ts own) {x : Int32} (hd : decode cc pc = .ok (.i2b, 1)) (kk : z_Go M R nL V Qr σ (pc + 1) lv (.int (x.toInt8.toInt32) :: st) T) : z_Go M R nL V Qr σ pc lv (.int x :: st) T := fun r hr ls H locs hl hP hS => lv_i2b hX.1.1 hX.1.2.1 hd rfl (kk r hr ls H locs hl hP hS)
theorem z_i2s (hX : z_Cx M V cc nL ret Ts own) {x : Int32} (hd : decode cc pc = .ok (.i2s, 1)) (kk : z_Go M R nL V Qr σ (pc + 1) lv (.int (x.toInt16.toInt32) :: st) T) : z_Go M R nL V Qr σ pc lv (.int x :: st) T := fun r hr ls H locs hl hP hS => lv_i2s hX.1.1 hX.1.2.1 hd rfl (kk r hr ls H locs hl hP hS)
theorem z_i2c (hX : z_Cx M V cc nL ret Ts own) {x : Int32} (hd : decode cc pc = .ok (.i2c, 1)) (kk : z_Go M R nL V Qr σ (pc + 1) lv (.int ((x.toUInt32 % 65536).toInt32) :: st) T) : z_Go M R nL V Qr σ pc lv (.int x :: st) T := fun r hr ls H locs hl hP hS => lv_i2c hX.1.1 hX.1.2.1 hd rfl (kk r hr ls H locs hl hP hS)
theorem z_dup (hX : z_Cx M V cc nL ret Ts own) {va : Value} (hd : decode cc pc = .ok (.dup, 1)) (hc : va.category = 1) (kk : z_Go M R nL V Qr σ (pc + 1) lv (va :: va :: st) T) : z_Go M R nL V Qr σ pc lv (va :: st) T := fun r hr ls H locs hl hP hS => lv_dup hX.1.1 hX.1.2.1 hd hc (kk r hr ls H locs hl hP hS)
theorem z_pop (hX : z_Cx M V cc nL ret Ts own) {va : Value} (hd : decode cc pc = .ok (.pop, 1)) (hc : va.category = 1) (kk : z_Go M R nL V Qr σ (pc + 1) lv st T) : z_Go M R nL V Qr σ pc lv (va :: st) T := fun r hr ls H locs hl hP hS => lv_pop hX.1.1 hX.1.2.1 hd hc (kk r hr ls H locs hl hP hS)
theorem z_dup2 (hX : z_Cx M V cc nL ret Ts own) {va vb : Value} (hd : decode cc pc = .ok (.dup2, 1)) (hc : va.category = 1) (hc2 : vb.category = 1) (kk : z_Go M R nL V Qr σ (pc + 1) lv (va :: vb :: va :: vb :: st) T) : z_Go M R nL V Qr σ pc lv (va :: vb :: st) T := fun r hr ls H locs hl hP hS => lv_dup2_11 hX.1.1 hX.1.2.1 hd hc hc2 (kk r hr ls H locs hl hP hS)
theorem z_goto (hX : z_Cx M V cc nL ret Ts own) {off : Int} {tgt : Nat} (hd : decode cc pc = .ok (.goto off, 3)) (ht : (pc : Int) + off = (tgt : Int)) (kk : z_Go M R nL V Qr σ tgt lv st T) : z_Go M R nL V Qr σ pc lv st T := fun r hr ls H locs hl hP hS => lv_goto hX.1.1 hX.1.2.1 hd ht (kk r hr ls H locs hl hP hS)
theorem z_if_eq (hX : z_Cx M V cc nL ret Ts own) {x : Int32} {off : Int} {tgt : Nat} (hd : decode cc pc = .ok (.ifCond .eq off, 3)) (ht : (pc : Int) + off = (tgt : Int)) (kt : z_Go M R nL V Qr σ tgt lv st T1) (kf : z_Go M R nL V Qr σ (pc + 3) lv st T2) : z_Go M R nL V Qr σ pc lv (.int x :: st) (if x = 0 then T1 else T2) := fun r hr ls H locs hl hP hS => lv_if_eq hX.1.1 hX.1.2.1 hd ht (fun h => kt r (by rw [if_pos h] at hr; exact hr) ls H locs hl hP hS) (fun h => kf r (by rw [if_neg h] at hr; exact hr) ls H locs hl hP hS)
theorem z_icmp_eq (hX : z_Cx M V cc nL ret Ts own) {x y : Int32} {off : Int} {tgt : Nat} (hd : decode cc pc = .ok (.if_icmp .eq off, 3)) (ht : (pc : Int) + off = (tgt : Int)) (kt : z_Go M R nL V Qr σ tgt lv st T1) (kf : z_Go M R nL V Qr σ (pc + 3) lv st T2) : z_Go M R nL V Qr σ pc lv (.int y :: .int x :: st) (if x = y then T1 else T2) := fun r hr ls H locs hl hP hS => lv_icmp_eq hX.1.1 hX.1.2.1 hd ht (fun h => kt r (by rw [if_pos h] at hr; exact hr) ls H locs hl hP hS) (fun h => kf r (by rw [if_neg h] at hr; exact hr) ls H locs hl hP hS)
theorem z_if_ne (hX : z_Cx M V cc nL ret Ts own) {x : Int32} {off : Int} {tgt : Nat} (hd : decode cc pc = .ok (.ifCond .ne off, 3)) (ht : (pc : Int) + off = (tgt : Int)) (kt : z_Go M R nL V Qr σ tgt lv st T1) (kf : z_Go M R nL V Qr σ (pc + 3) lv st T2) : z_Go M R nL V Qr σ pc lv (.int x :: st) (if x = 0 then T2 else T1) := fun r hr ls H locs hl hP hS => lv_if_ne hX.1.1 hX.1.2.1 hd ht (fun h => kt r (by rw [if_neg h] at hr; exact hr) ls H locs hl hP hS) (fun h => kf r (by rw [if_pos h] at hr; exact hr) ls H locs hl hP hS)
theorem z_icmp_ne (hX : z_Cx M V cc nL ret Ts own) {x y : Int32} {off : Int} {tgt : Nat} (hd : decode cc pc = .ok (.if_icmp .ne off, 3)) (ht : (pc : Int) + off = (tgt : Int)) (kt : z_Go M R nL V Qr σ tgt lv st T1) (kf : z_Go M R nL V Qr σ (pc + 3) lv st T2) : z_Go M R nL V Qr σ pc lv (.int y :: .int x :: st) (if x = y then T2 else T1) := fun r hr ls H locs hl hP hS => lv_icmp_ne hX.1.1 hX.1.2.1 hd ht (fun h => kt r (by rw [if_neg h] at hr; exact hr) ls H locs hl hP hS) (fun h => kf r (by rw [if_pos h] at hr; exact hr) ls H locs hl hP hS)
theorem z_if_lt (hX : z_Cx M V cc nL ret Ts own) {x : Int32} {off : Int} {tgt : Nat} (hd : decode cc pc = .ok (.ifCond .lt off, 3)) (ht : (pc : Int) + off = (tgt : Int)) (kt : z_Go M R nL V Qr σ tgt lv st T1) (kf : z_Go M R nL V Qr σ (pc + 3) lv st T2) : z_Go M R nL V Qr σ pc lv (.int x :: st) (if x < 0 then T1 else T2) := fun r hr ls H locs hl hP hS => lv_if_lt hX.1.1 hX.1.2.1 hd ht (fun h => kt r (by rw [if_pos h] at hr; exact hr) ls H locs hl hP hS) (fun h => kf r (by rw [if_neg h] at hr; exact hr) ls H locs hl hP hS)
theorem z_icmp_lt (hX : z_Cx M V cc nL ret Ts own) {x y : Int32} {off : Int} {tgt : Nat} (hd : decode cc pc = .ok (.if_icmp .lt off, 3)) (ht : (pc : Int) + off = (tgt : Int)) (kt : z_Go M R nL V Qr σ tgt lv st T1) (kf : z_Go M R nL V Qr σ (pc + 3) lv st T2) : z_Go M R nL V Qr σ pc lv (.int y :: .int x :: st) (if x < y then T1 else T2) := fun r hr ls H locs hl hP hS => lv_icmp_lt hX.1.1 hX.1.2.1 hd ht (fun h => kt r (by rw [if_pos h] at hr; exact hr) ls H locs hl hP hS) (fun h => kf r (by rw [if_neg h] at hr; exact hr) ls H locs hl hP hS)
theorem z_if_ge (hX : z_Cx M V cc nL ret Ts own) {x : Int32} {off : Int} {tgt : Nat} (hd : decode cc pc = .ok (.ifCond .ge off, 3)) (ht : (pc : Int) + off = (tgt : Int)) (kt : z_Go M R nL V Qr σ tgt lv st T1) (kf : z_Go M R nL V Qr σ (pc + 3) lv st T2) : z_Go M R nL V Qr σ pc lv (.int x :: st) (if 0 ≤ x then T1 else T2) := fun r hr ls H locs hl hP hS => lv_if_ge hX.1.1 hX.1.2.1 hd ht (fun h => kt r (by rw [if_pos h] at hr; exact hr) ls H locs hl hP hS) (fun h => kf r (by rw [if_neg h] at hr; exact hr) ls H locs hl hP hS)
theorem z_icmp_ge (hX : z_Cx M V cc nL ret Ts own) {x y : Int32} {off : Int} {tgt : Nat} (hd : decode cc pc = .ok (.if_icmp .ge off, 3)) (ht : (pc : Int) + off = (tgt : Int)) (kt : z_Go M R nL V Qr σ tgt lv st T1) (kf : z_Go M R nL V Qr σ (pc + 3) lv st T2) : z_Go M R nL V Qr σ pc lv (.int y :: .int x :: st) (if y ≤ x then T1 else T2) := fun r hr ls H locs hl hP hS => lv_icmp_ge hX.1.1 hX.1.2.1 hd ht (fun h => kt r (by rw [if_pos h] at hr; exact hr) ls H locs hl hP hS) (fun h => kf r (by rw [if_neg h] at hr; exact hr) ls H locs hl hP hS)
theorem z_if_gt (hX : z_Cx M V cc nL ret Ts own) {x : Int32} {off : Int} {tgt : Nat} (hd : decode cc pc = .ok (.ifCond .gt off, 3)) (ht : (pc : Int) + off = (tgt : Int)) (kt : z_Go M R nL V Qr σ tgt lv st T1) (kf : z_Go M R nL V Qr σ (pc + 3) lv st T2) : z_Go M R nL V Qr σ pc lv (.int x :: st) (if 0 < x then T1 else T2) := fun r hr ls H locs hl hP hS => lv_if_gt hX.1.1 hX.1.2.1 hd ht (fun h => kt r (by rw [if_pos h] at hr; exact hr) ls H locs hl hP hS) (fun h => kf r (by rw [if_neg h] at hr; exact hr) ls H locs hl hP hS)
theorem z_icmp_gt (hX : z_Cx M V cc nL ret Ts own) {x y : Int32} {off : Int} {tgt : Nat} (hd : decode cc pc = .ok (.if_icmp .gt off, 3)) (ht : (pc : Int) + off = (tgt : Int)) (kt : z_Go M R nL V Qr σ tgt lv st T1) (kf : z_Go M R nL V Qr σ (pc + 3) lv st T2) : z_Go M R nL V Qr σ pc lv (.int y :: .int x :: st) (if y < x then T1 else T2) := fun r hr ls H locs hl hP hS => lv_icmp_gt hX.1.1 hX.1.2.1 hd ht (fun h => kt r (by rw [if_pos h] at hr; exact hr) ls H locs hl hP hS) (fun h => kf r (by rw [if_neg h] at hr; exact hr) ls H locs hl hP hS)
theorem z_if_le (hX : z_Cx M V cc nL ret Ts own) {x : Int32} {off : Int} {tgt : Nat} (hd : decode cc pc = .ok (.ifCond .le off, 3)) (ht : (pc : Int) + off = (tgt : Int)) (kt : z_Go M R nL V Qr σ tgt lv st T1) (kf : z_Go M R nL V Qr σ (pc + 3) lv st T2) : z_Go M R nL V Qr σ pc lv (.int x :: st) (if x ≤ 0 then T1 else T2) := fun r hr ls H locs hl hP hS => lv_if_le hX.1.1 hX.1.2.1 hd ht (fun h => kt r (by rw [if_pos h] at hr; exact hr) ls H locs hl hP hS) (fun h => kf r (by rw [if_neg h] at hr; exact hr) ls H locs hl hP hS)
theorem z_icmp_le (hX : z_Cx M V cc nL ret Ts own) {x y : Int32} {off : Int} {tgt : Nat} (hd : decode cc pc = .ok (.if_icmp .le off, 3)) (ht : (pc : Int) + off = (tgt : Int)) (kt : z_Go M R nL V Qr σ tgt lv st T1) (kf : z_Go M R nL V Qr σ (pc + 3) lv st T2) : z_Go M R nL V Qr σ pc lv (.int y :: .int x :: st) (if x ≤ y then T1 else T2) := fun r hr ls H locs hl hP hS => lv_icmp_le hX.1.1 hX.1.2.1 hd ht (fun h => kt r (by rw [if_pos h] at hr; exact hr) ls H locs hl hP hS) (fun h => kf r (by rw [if_neg h] at hr; exact hr) ls H locs hl hP hS)
theorem z_case {c : Prop} {hc : Decidable c} (kt : c → z_Go M R nL V Qr σ pc lv st T1) (kf : ¬ c → z_Go M R nL V Qr σ pc lv st T2) : z_Go M R nL V Qr σ pc lv st (if c then T1 else T2) := fun r hr ls H locs hl hP hS => by
  by_cases h : c
  · exact kt h r (by rw [if_pos h] at hr; exact hr) ls H locs hl hP hS
  · exact kf h r (by rw [if_neg h] at hr; exact hr) ls H locs hl hP hS
theorem z_tabIn (hX : z_Cx M V cc nL ret Ts own) {dflt lo hi : Int} {offs : Array Int} {len : Nat} {x : Int32} {off : Int} {tgt : Nat} (hd : decode cc pc = .ok (.tableswitch dflt lo hi offs, len)) (v : Int32) (hv : x = v) (h1 : ¬ v.toInt < lo) (h2 : ¬ hi < v.toInt) (ho : offs[(v.toInt - lo).toNat]? = some off) (ht : (pc : Int) + off = (tgt : Int)) (kk : z_Go M R nL V Qr σ tgt lv st T) : z_Go M R nL V Qr σ pc lv (.int x :: st) T := fun r hr ls H locs hl hP hS => by
  subst hv
  exact lv_tableIn hX.1.1 hX.1.2.1 hd h1 h2 ho ht (kk r hr ls H locs hl hP hS)
theorem z_tabOut (hX : z_Cx M V cc nL ret Ts own) {dflt lo hi : Int} {offs : Array Int} {len : Nat} {x : Int32} {tgt : Nat} (hd : decode cc pc = .ok (.tableswitch dflt lo hi offs, len)) (h : x.toInt < lo ∨ hi < x.toInt) (ht : (pc : Int) + dflt = (tgt : Int)) (kk : z_Go M R nL V Qr σ tgt lv st T) : z_Go M R nL V Qr σ pc lv (.int x :: st) T := fun r hr ls H locs hl hP hS => lv_tableOut hX.1.1 hX.1.2.1 hd h ht (kk r hr ls H locs hl hP hS)
theorem z_look (hX : z_Cx M V cc nL ret Ts own) {dflt : Int} {ps : Array (Int × Int)} {len : Nat} {x : Int32} {off : Int} {tgt : Nat} (hd : decode cc pc = .ok (.lookupswitch dflt ps, len)) (hp : (ps.toList.zip (ps.toList.drop 1)).all (fun (a, next) => a.1 < next.1) = true) (ho : Op.lookupswitch.offset ps.toList dflt x.toInt = off) (ht : (pc : Int) + off = (tgt : Int)) (kk : z_Go M R nL V Qr σ tgt lv st T) : z_Go M R nL V Qr σ pc lv (.int x :: st) T := fun r hr ls H locs hl hP hS => lv_lookup hX.1.1 hX.1.2.1 hd hp ho ht (kk r hr ls H locs hl hP hS)
theorem z_ldc (hX : z_Cx M V cc nL ret Ts own) {index : Nat} {v : Int32} (hk : Cond.constant own index v ∈ Ts) (hd : decode cc pc = .ok (.ldc index, 2)) (kk : z_Go M R nL V Qr σ (pc + 2) lv (.int v :: st) T) : z_Go M R nL V Qr σ pc lv st T := fun r hr ls H locs hl hP hS => lv_ldc hX.1.1 hX.1.2.1 hX.1.2.2.2.1 (hX.1.2.2.2.2 _ hk) hd (kk r hr ls H locs hl hP hS)
theorem z_ldcw (hX : z_Cx M V cc nL ret Ts own) {index : Nat} {v : Int32} (hk : Cond.constant own index v ∈ Ts) (hd : decode cc pc = .ok (.ldc_w index, 3)) (kk : z_Go M R nL V Qr σ (pc + 3) lv (.int v :: st) T) : z_Go M R nL V Qr σ pc lv st T := fun r hr ls H locs hl hP hS => lv_ldcw hX.1.1 hX.1.2.1 hX.1.2.2.2.1 (hX.1.2.2.2.2 _ hk) hd (kk r hr ls H locs hl hP hS)
theorem z_ldc2 (hX : z_Cx M V cc nL ret Ts own) {index : Nat} {v : Int64} (hk : Cond.constantLong own index v ∈ Ts) (hd : decode cc pc = .ok (.ldc2_w index, 3)) (kk : z_Go M R nL V Qr σ (pc + 3) lv (.long v :: st) T) : z_Go M R nL V Qr σ pc lv st T := fun r hr ls H locs hl hP hS => lv_ldc2 hX.1.1 hX.1.2.1 hX.1.2.2.2.1 (hX.1.2.2.2.2 _ hk) hd (kk r hr ls H locs hl hP hS)
theorem z_getI (hX : z_Cx M V cc nL ret Ts own) {b ci k N index : Nat} {fk : List (Option Nat)} {C : String} {T0 : u_T} (hsh : (z_sh V)[b]? = some (.inl (ci, fk))) (hcl : vwCl[ci]? = some (C, T0, N)) (hfk : fk[k]? = some none) (hin : ∀ w ∈ u_ws C T0 N, w ∈ Ts) (hk : k < N) (hlink : Cond.fieldLink own index (T0 k).1 (T0 k).2.1 (T0 k).2.2.1 ∈ Ts) (hd : decode cc pc = .ok (.getfield index, 3)) (kk : z_Go M R nL V Qr σ (pc + 3) lv (.int (σ b k) :: st) T) : z_Go M R nL V Qr σ pc lv (.ref (z_ad V b) :: st) T := fun r hr ls H locs hl hP hS => by
  have e : (z_fs (z_ad V) (σ b) 0 fk)[k]? = some (.int (σ b k)) := by
    have e1 := z_fs_int (z_ad V) (σ b) fk 0 k hfk
    rw [Nat.zero_add] at e1
    exact e1
  exact va_get hX.1.1 hX.1.2.1 hX.1.2.2.2.2 hin hX.1.2.2.2.1 hX.2.2.2.1 hP b (z_at σ hsh) hcl k hk (hX.1.2.2.2.2 _ hlink) (fun _ h => h) e hd (kk r hr ls H locs hl hP hS)
theorem z_getR (hX : z_Cx M V cc nL ret Ts own) {b ci k N index : Nat} {fk : List (Option Nat)} {C : String} {T0 : u_T} (hsh : (z_sh V)[b]? = some (.inl (ci, fk))) (hcl : vwCl[ci]? = some (C, T0, N)) {d : Nat} (hfk : fk[k]? = some (some d)) (hin : ∀ w ∈ u_ws C T0 N, w ∈ Ts) (hk : k < N) (hlink : Cond.fieldLink own index (T0 k).1 (T0 k).2.1 (T0 k).2.2.1 ∈ Ts) (hd : decode cc pc = .ok (.getfield index, 3)) (kk : z_Go M R nL V Qr σ (pc + 3) lv (.ref (z_ad V d) :: st) T) : z_Go M R nL V Qr σ pc lv (.ref (z_ad V b) :: st) T := fun r hr ls H locs hl hP hS => va_get hX.1.1 hX.1.2.1 hX.1.2.2.2.2 hin hX.1.2.2.2.1 hX.2.2.2.1 hP b (z_at σ hsh) hcl k hk (hX.1.2.2.2.2 _ hlink) (fun _ h => h) (z_fs_ref (z_ad V) (σ b) fk 0 k hfk) hd (kk r hr ls H locs hl hP hS)
theorem z_put1 (hX : z_Cx M V cc nL ret Ts own) {b ci k N index : Nat} {fk : List (Option Nat)} {C : String} {T0 : u_T} (hsh : (z_sh V)[b]? = some (.inl (ci, fk))) (hcl : vwCl[ci]? = some (C, T0, N)) (hfk : fk[k]? = some none) (hin : ∀ w ∈ u_ws C T0 N, w ∈ Ts) (hk : k < N) (hlink : Cond.fieldLink own index (T0 k).1 (T0 k).2.1 (T0 k).2.2.1 ∈ Ts) (ty0 : Nat → FieldType) (hty : ∀ k, k < N → parseFieldDescriptor (T0 k).2.2.1 = some (ty0 k)) (hnm : ∀ a, a < N → ∀ b, b < N → a ≠ b → (T0 a).2.1 ≠ (T0 b).2.1) (hfin : (T0 k).2.2.2 = false) {v : Int32} (hn : narrow (ty0 k) (.int v) = .int v) (hfit : fits (ty0 k) (.int v) = true) (hd : decode cc pc = .ok (.putfield index, 3)) (kk : z_Go M R nL V Qr (z_put σ b k v) (pc + 3) lv st T) : z_Go M R nL V Qr σ pc lv (.int v :: .ref (z_ad V b) :: st) T := fun r hr ls H locs hl hP hS => by
  have hlen : k < (z_fs (z_ad V) (σ b) 0 fk).length := by
    rw [z_fs_len]; exact (List.getElem?_eq_some_iff.mp hfk).1
  refine va_put (ty := ty0 k) hX.1.1 hX.1.2.1 hX.1.2.2.2.2 hin ty0 hty hnm hX.1.2.2.2.1 hX.2.2.2.1 hP (z_dis hX.2.2.2.2.2 σ) hS b (z_at σ hsh) hcl k hk (hX.1.2.2.2.2 _ hlink) (fun _ h => h) hfin (hty k hk) hn hfit hlen hd (fun H1 locs1 hP1 hD1 hS1 => ?_)
  refine kk r hr ls H1 locs1 hl ?_ hS1
  have e1 := z_fs_set (z_ad V) (σ b) v fk 0 k hfk
  rw [Nat.zero_add] at e1
  rw [e1] at hP1
  exact (z_set σ hsh (upd (σ b) k v)) ▸ hP1
theorem z_iald (hX : z_Cx M V cc nL ret Ts own) {b n : Nat} (hsh : (z_sh V)[b]? = some (.inr (.inl (0, n)))) {i : Int32} (hd : decode cc pc = .ok (.iaload, 1)) (kk : z_Go M R nL V Qr σ (pc + 1) lv (.int (σ b i.toNatClampNeg) :: st) T) : z_Go M R nL V Qr σ pc lv (.int i :: .ref (z_ad V b) :: st) (z_gd i n T) := fun r hr ls H locs hl hP hS => va_iald hX.1.1 hX.1.2.1 hX.2.2.2.1 hP b 0 (z_at σ hsh) rfl (z_gd_some hr).1 hd (kk r (z_gd_some hr).2 ls H locs hl hP hS)
theorem z_ialdc (hX : z_Cx M V cc nL ret Ts own) {b n : Nat} (hsh : (z_sh V)[b]? = some (.inr (.inl (0, n)))) {i : Int32} {j : Nat} (hi : z_li i n j) (hd : decode cc pc = .ok (.iaload, 1)) (kk : z_Go M R nL V Qr σ (pc + 1) lv (.int (σ b j) :: st) T) : z_Go M R nL V Qr σ pc lv (.int i :: .ref (z_ad V b) :: st) T := fun r hr ls H locs hl hP hS => va_iald hX.1.1 hX.1.2.1 hX.2.2.2.1 hP b 0 (z_at σ hsh) rfl hi.1 hd (by rw [hi.2]; exact kk r hr ls H locs hl hP hS)
theorem z_bald (hX : z_Cx M V cc nL ret Ts own) {b n : Nat} (hsh : (z_sh V)[b]? = some (.inr (.inl (1, n)))) {i : Int32} (hd : decode cc pc = .ok (.baload, 1)) (kk : z_Go M R nL V Qr σ (pc + 1) lv (.int (σ b i.toNatClampNeg) :: st) T) : z_Go M R nL V Qr σ pc lv (.int i :: .ref (z_ad V b) :: st) (z_gd i n T) := fun r hr ls H locs hl hP hS => va_bald hX.1.1 hX.1.2.1 hX.2.2.2.1 hP b 1 (z_at σ hsh) rfl (z_gd_some hr).1 hd (kk r (z_gd_some hr).2 ls H locs hl hP hS)
theorem z_baldc (hX : z_Cx M V cc nL ret Ts own) {b n : Nat} (hsh : (z_sh V)[b]? = some (.inr (.inl (1, n)))) {i : Int32} {j : Nat} (hi : z_li i n j) (hd : decode cc pc = .ok (.baload, 1)) (kk : z_Go M R nL V Qr σ (pc + 1) lv (.int (σ b j) :: st) T) : z_Go M R nL V Qr σ pc lv (.int i :: .ref (z_ad V b) :: st) T := fun r hr ls H locs hl hP hS => va_bald hX.1.1 hX.1.2.1 hX.2.2.2.1 hP b 1 (z_at σ hsh) rfl hi.1 hd (by rw [hi.2]; exact kk r hr ls H locs hl hP hS)
theorem z_zald (hX : z_Cx M V cc nL ret Ts own) {b n : Nat} (hsh : (z_sh V)[b]? = some (.inr (.inl (2, n)))) {i : Int32} (hd : decode cc pc = .ok (.baload, 1)) (kk : z_Go M R nL V Qr σ (pc + 1) lv (.int (σ b i.toNatClampNeg) :: st) T) : z_Go M R nL V Qr σ pc lv (.int i :: .ref (z_ad V b) :: st) (z_gd i n T) := fun r hr ls H locs hl hP hS => va_zald hX.1.1 hX.1.2.1 hX.2.2.2.1 hP b 2 (z_at σ hsh) rfl (z_gd_some hr).1 hd (kk r (z_gd_some hr).2 ls H locs hl hP hS)
theorem z_zaldc (hX : z_Cx M V cc nL ret Ts own) {b n : Nat} (hsh : (z_sh V)[b]? = some (.inr (.inl (2, n)))) {i : Int32} {j : Nat} (hi : z_li i n j) (hd : decode cc pc = .ok (.baload, 1)) (kk : z_Go M R nL V Qr σ (pc + 1) lv (.int (σ b j) :: st) T) : z_Go M R nL V Qr σ pc lv (.int i :: .ref (z_ad V b) :: st) T := fun r hr ls H locs hl hP hS => va_zald hX.1.1 hX.1.2.1 hX.2.2.2.1 hP b 2 (z_at σ hsh) rfl hi.1 hd (by rw [hi.2]; exact kk r hr ls H locs hl hP hS)
theorem z_iast (hX : z_Cx M V cc nL ret Ts own) {b n : Nat} (hsh : (z_sh V)[b]? = some (.inr (.inl (0, n)))) {i x : Int32} (hd : decode cc pc = .ok (.iastore, 1)) (kk : z_Go M R nL V Qr (z_put σ b i.toNatClampNeg x) (pc + 1) lv st T) : z_Go M R nL V Qr σ pc lv (.int x :: .int i :: .ref (z_ad V b) :: st) (z_gd i n T) := fun r hr ls H locs hl hP hS => va_iast hX.1.1 hX.1.2.1 hX.2.2.2.1 hP (z_dis hX.2.2.2.2.2 σ) hS b 0 (z_at σ hsh) rfl (z_gd_some hr).1 hd (fun H1 locs1 hP1 hD1 hS1 => kk r (z_gd_some hr).2 ls H1 locs1 hl ((z_set σ hsh (upd (σ b) i.toNatClampNeg x)) ▸ hP1) hS1)
theorem z_iastc (hX : z_Cx M V cc nL ret Ts own) {b n : Nat} (hsh : (z_sh V)[b]? = some (.inr (.inl (0, n)))) {i x : Int32} {j : Nat} (hi : z_li i n j) (hd : decode cc pc = .ok (.iastore, 1)) (kk : z_Go M R nL V Qr (z_put σ b j x) (pc + 1) lv st T) : z_Go M R nL V Qr σ pc lv (.int x :: .int i :: .ref (z_ad V b) :: st) T := fun r hr ls H locs hl hP hS => va_iast hX.1.1 hX.1.2.1 hX.2.2.2.1 hP (z_dis hX.2.2.2.2.2 σ) hS b 0 (z_at σ hsh) rfl hi.1 hd (fun H1 locs1 hP1 hD1 hS1 => by
  rw [hi.2] at hP1
  exact kk r hr ls H1 locs1 hl ((z_set σ hsh (upd (σ b) j x)) ▸ hP1) hS1)
theorem z_bast (hX : z_Cx M V cc nL ret Ts own) {b n : Nat} (hsh : (z_sh V)[b]? = some (.inr (.inl (1, n)))) {i x : Int32} (hd : decode cc pc = .ok (.bastore, 1)) (kk : z_Go M R nL V Qr (z_put σ b i.toNatClampNeg (vp_nar .byte x)) (pc + 1) lv st T) : z_Go M R nL V Qr σ pc lv (.int x :: .int i :: .ref (z_ad V b) :: st) (z_gd i n T) := fun r hr ls H locs hl hP hS => va_bast hX.1.1 hX.1.2.1 hX.2.2.2.1 hP (z_dis hX.2.2.2.2.2 σ) hS b 1 (z_at σ hsh) rfl (z_gd_some hr).1 hd (fun H1 locs1 hP1 hD1 hS1 => kk r (z_gd_some hr).2 ls H1 locs1 hl ((z_set σ hsh (upd (σ b) i.toNatClampNeg (vp_nar .byte x))) ▸ hP1) hS1)
theorem z_bastc (hX : z_Cx M V cc nL ret Ts own) {b n : Nat} (hsh : (z_sh V)[b]? = some (.inr (.inl (1, n)))) {i x : Int32} {j : Nat} (hi : z_li i n j) (hd : decode cc pc = .ok (.bastore, 1)) (kk : z_Go M R nL V Qr (z_put σ b j (vp_nar .byte x)) (pc + 1) lv st T) : z_Go M R nL V Qr σ pc lv (.int x :: .int i :: .ref (z_ad V b) :: st) T := fun r hr ls H locs hl hP hS => va_bast hX.1.1 hX.1.2.1 hX.2.2.2.1 hP (z_dis hX.2.2.2.2.2 σ) hS b 1 (z_at σ hsh) rfl hi.1 hd (fun H1 locs1 hP1 hD1 hS1 => by
  rw [hi.2] at hP1
  exact kk r hr ls H1 locs1 hl ((z_set σ hsh (upd (σ b) j (vp_nar .byte x))) ▸ hP1) hS1)
theorem z_zast (hX : z_Cx M V cc nL ret Ts own) {b n : Nat} (hsh : (z_sh V)[b]? = some (.inr (.inl (2, n)))) {i x : Int32} (hd : decode cc pc = .ok (.bastore, 1)) (kk : z_Go M R nL V Qr (z_put σ b i.toNatClampNeg (vp_nar .boolean x)) (pc + 1) lv st T) : z_Go M R nL V Qr σ pc lv (.int x :: .int i :: .ref (z_ad V b) :: st) (z_gd i n T) := fun r hr ls H locs hl hP hS => va_zast hX.1.1 hX.1.2.1 hX.2.2.2.1 hP (z_dis hX.2.2.2.2.2 σ) hS b 2 (z_at σ hsh) rfl (z_gd_some hr).1 hd (fun H1 locs1 hP1 hD1 hS1 => kk r (z_gd_some hr).2 ls H1 locs1 hl ((z_set σ hsh (upd (σ b) i.toNatClampNeg (vp_nar .boolean x))) ▸ hP1) hS1)
theorem z_zastc (hX : z_Cx M V cc nL ret Ts own) {b n : Nat} (hsh : (z_sh V)[b]? = some (.inr (.inl (2, n)))) {i x : Int32} {j : Nat} (hi : z_li i n j) (hd : decode cc pc = .ok (.bastore, 1)) (kk : z_Go M R nL V Qr (z_put σ b j (vp_nar .boolean x)) (pc + 1) lv st T) : z_Go M R nL V Qr σ pc lv (.int x :: .int i :: .ref (z_ad V b) :: st) T := fun r hr ls H locs hl hP hS => va_zast hX.1.1 hX.1.2.1 hX.2.2.2.1 hP (z_dis hX.2.2.2.2.2 σ) hS b 2 (z_at σ hsh) rfl hi.1 hd (fun H1 locs1 hP1 hD1 hS1 => by
  rw [hi.2] at hP1
  exact kk r hr ls H1 locs1 hl ((z_set σ hsh (upd (σ b) j (vp_nar .boolean x))) ▸ hP1) hS1)
theorem z_alen (hX : z_Cx M V cc nL ret Ts own) {b n : Nat} (hsh : (z_sh V)[b]? = some (.inr (.inl (0, n)))) {v : Int32} (hv : Int32.ofNat n = v) (hd : decode cc pc = .ok (.arraylength, 1)) (kk : z_Go M R nL V Qr σ (pc + 1) lv (.int v :: st) T) : z_Go M R nL V Qr σ pc lv (.ref (z_ad V b) :: st) T := fun r hr ls H locs hl hP hS => va_alen hX.1.1 hX.1.2.1 hX.2.2.2.1 hP b 0 (z_at σ hsh) rfl hv hd (kk r hr ls H locs hl hP hS)
theorem z_aald3 (hX : z_Cx M V cc nL ret Ts own) {b : Nat} (hsh : (z_sh V)[b]? = some (.inr (.inr (3, [43, 54])))) {i : Int32} (hd : decode cc pc = .ok (.aaload, 1)) (kk : vp_in i 2 → z_Go M R nL V Qr σ (pc + 1) lv (.ref (z_ad V (43 + 11 * i.toNatClampNeg)) :: st) T) : z_Go M R nL V Qr σ pc lv (.int i :: .ref (z_ad V b) :: st) (z_gd i 2 T) := fun r hr ls H locs hl hP hS => by
  refine va_aldq hX.1.1 hX.1.2.1 hX.2.2.2.1 hP b 3 (z_at σ hsh) rfl (z_gd_some hr).1 hd ?_
  have e : va_rf ((([43, 54] : List Nat)[i.toNatClampNeg]?).map (z_ad V)) = Value.ref (z_ad V (43 + 11 * i.toNatClampNeg)) := by
    obtain ⟨j, hj, hij⟩ := vp_in_of (z_gd_some hr).1 (by decide)
    rw [hij, nI_clamp (by omega)]
    rcases (show j = 0 ∨ j = 1 by omega) with rfl | rfl <;> rfl
  show W _ _ _ _ _ _ _ _ _ _ _ _ _ _ _ (F0 _ _ _ (va_rf ((([43, 54] : List Nat)[i.toNatClampNeg]?).map (z_ad V)) :: st))
  rw [e]
  exact kk (z_gd_some hr).1 r (z_gd_some hr).2 ls H locs hl hP hS
theorem z_aald3c (hX : z_Cx M V cc nL ret Ts own) {b j d : Nat} (hsh : (z_sh V)[b]? = some (.inr (.inr (3, [43, 54])))) {i : Int32} (hi : z_li i 2 j) (hdd : ([43, 54] : List Nat)[j]? = some d) (hd : decode cc pc = .ok (.aaload, 1)) (kk : z_Go M R nL V Qr σ (pc + 1) lv (.ref (z_ad V d) :: st) T) : z_Go M R nL V Qr σ pc lv (.int i :: .ref (z_ad V b) :: st) T := fun r hr ls H locs hl hP hS => by
  refine va_aldq hX.1.1 hX.1.2.1 hX.2.2.2.1 hP b 3 (z_at σ hsh) rfl hi.1 hd ?_
  have e : va_rf ((([43, 54] : List Nat)[i.toNatClampNeg]?).map (z_ad V)) = Value.ref (z_ad V d) := by rw [hi.2, hdd]; rfl
  show W _ _ _ _ _ _ _ _ _ _ _ _ _ _ _ (F0 _ _ _ (va_rf ((([43, 54] : List Nat)[i.toNatClampNeg]?).map (z_ad V)) :: st))
  rw [e]
  exact kk r hr ls H locs hl hP hS
theorem z_aald4 (hX : z_Cx M V cc nL ret Ts own) {b : Nat} (hsh : (z_sh V)[b]? = some (.inr (.inr (4, [65, 67, 69, 71])))) {i : Int32} (hd : decode cc pc = .ok (.aaload, 1)) (kk : vp_in i 4 → z_Go M R nL V Qr σ (pc + 1) lv (.ref (z_ad V (65 + 2 * i.toNatClampNeg)) :: st) T) : z_Go M R nL V Qr σ pc lv (.int i :: .ref (z_ad V b) :: st) (z_gd i 4 T) := fun r hr ls H locs hl hP hS => by
  refine va_aldq hX.1.1 hX.1.2.1 hX.2.2.2.1 hP b 4 (z_at σ hsh) rfl (z_gd_some hr).1 hd ?_
  have e : va_rf ((([65, 67, 69, 71] : List Nat)[i.toNatClampNeg]?).map (z_ad V)) = Value.ref (z_ad V (65 + 2 * i.toNatClampNeg)) := by
    obtain ⟨j, hj, hij⟩ := vp_in_of (z_gd_some hr).1 (by decide)
    rw [hij, nI_clamp (by omega)]
    rcases (show j = 0 ∨ j = 1 ∨ j = 2 ∨ j = 3 by omega) with rfl | rfl | rfl | rfl <;> rfl
  show W _ _ _ _ _ _ _ _ _ _ _ _ _ _ _ (F0 _ _ _ (va_rf ((([65, 67, 69, 71] : List Nat)[i.toNatClampNeg]?).map (z_ad V)) :: st))
  rw [e]
  exact kk (z_gd_some hr).1 r (z_gd_some hr).2 ls H locs hl hP hS
theorem z_aald4c (hX : z_Cx M V cc nL ret Ts own) {b j d : Nat} (hsh : (z_sh V)[b]? = some (.inr (.inr (4, [65, 67, 69, 71])))) {i : Int32} (hi : z_li i 4 j) (hdd : ([65, 67, 69, 71] : List Nat)[j]? = some d) (hd : decode cc pc = .ok (.aaload, 1)) (kk : z_Go M R nL V Qr σ (pc + 1) lv (.ref (z_ad V d) :: st) T) : z_Go M R nL V Qr σ pc lv (.int i :: .ref (z_ad V b) :: st) T := fun r hr ls H locs hl hP hS => by
  refine va_aldq hX.1.1 hX.1.2.1 hX.2.2.2.1 hP b 4 (z_at σ hsh) rfl hi.1 hd ?_
  have e : va_rf ((([65, 67, 69, 71] : List Nat)[i.toNatClampNeg]?).map (z_ad V)) = Value.ref (z_ad V d) := by rw [hi.2, hdd]; rfl
  show W _ _ _ _ _ _ _ _ _ _ _ _ _ _ _ (F0 _ _ _ (va_rf ((([65, 67, 69, 71] : List Nat)[i.toNatClampNeg]?).map (z_ad V)) :: st))
  rw [e]
  exact kk r hr ls H locs hl hP hS
theorem z_iret (hX : z_Cx M V cc nL (some .int) Ts own) {v : Int32} (hd : decode cc pc = .ok (.ireturn, 1)) : z_Go M R nL V (z_QI V) σ pc lv [.int v] (some (v, σ)) := fun r hr ls H locs hl hP hS => W.iret hX.1.1 hX.1.2.1 hX.2.1 (fun t ht hW => ⟨⟨v, σ, rfl, ⟨by rw [← Option.some.inj hr], by rw [← Option.some.inj hr]⟩, show va_P V.1 vwCl (z_W V σ) t.heap by rw [ht]; exact hP⟩, hS.F ht⟩) hS.2.2 hd hX.2.2.1
theorem z_zret (hX : z_Cx M V cc nL (some .boolean) Ts own) {v : Int32} (hd : decode cc pc = .ok (.ireturn, 1)) (hn : narrow .boolean (.int v) = .int v) : z_Go M R nL V (z_QI V) σ pc lv [.int v] (some (v, σ)) := fun r hr ls H locs hl hP hS => W.zret hX.1.1 hX.1.2.1 hX.2.1 hn (fun t ht hW => ⟨⟨v, σ, rfl, ⟨by rw [← Option.some.inj hr], by rw [← Option.some.inj hr]⟩, show va_P V.1 vwCl (z_W V σ) t.heap by rw [ht]; exact hP⟩, hS.F ht⟩) hS.2.2 hd hX.2.2.1
theorem z_zretv (hX : z_Cx M V cc nL (some .boolean) Ts own) {v : Int32} (hd : decode cc pc = .ok (.ireturn, 1)) : z_Go M R nL V (z_QI V) σ pc lv [.int v] (z_tf v (some (v, σ))) := fun r hr ls H locs hl hP hS => z_zret hX hd (by rcases (z_tf_some hr).1 with h | h <;> (rw [h]; decide)) r (z_tf_some hr).2 ls H locs hl hP hS
theorem z_vret (hX : z_Cx M V cc nL none Ts own) (hd : decode cc pc = .ok (.return_, 1)) : z_Go M R nL V (z_QV V) σ pc lv [] (some (0, σ)) := fun r hr ls H locs hl hP hS => W.vret hX.1.1 hX.1.2.1 hX.2.1 (fun t ht hW => ⟨⟨σ, rfl, by rw [← Option.some.inj hr], show va_P V.1 vwCl (z_W V σ) t.heap by rw [ht]; exact hP⟩, hS.F ht⟩) hS.2.2 hd hX.2.2.1
theorem z_blind (hV : z_ok V) (vs : List Value) (σ : z_St) : FrameBlind (va_Pc vs (z_B V σ)) := fun a U g mk q => ⟨q.1, q.2.1, va_K.moved (u := U) (U := U.calling g mk a) (Vm.Alike.refl U.vm) q.2.2.1, hV.2.1 U g mk a q.2.2.2⟩
theorem z_pre (hX : z_Cx M V cc nL ret Ts own) {H : Heap} {locs : List Loc} (hP : va_P V.1 vwCl (z_W V σ) H) (hS : va_S (z_A V) M.2.2.2.1.heap H locs) (vs : List Value) : ∀ U : State, U.heap = H → M.2.2.2.1.WarmedH U.vm → va_Pc vs (z_B V σ) vs.toArray U := fun U hU hW => ⟨rfl, by rw [hU]; exact hP, va_K.moved hW.alike hX.2.2.2.1, hX.2.2.2.2.2.2.2 _ U H locs hX.2.2.2.2.1 hS hU hW⟩
theorem z_callVI (hX : z_Cx M V cc nL ret Ts own) {y : MethodName} {bytes : ByteArray} {maxL index n b ci : Nat} {rt : Option FieldType} {ws ws' : List Cond} {rm : Room} {C : String} {fk : List (Option Nat)} {q : vw_C} {As rest stk : List Value} {T1 : Option (Int32 × z_St)} {g : Int32 × z_St → Option (Int32 × z_St)} (hc : z_CtI M.2.1 V y ws rm (.ref (z_ad V b) :: As) σ T1) (hG : GoodIn Ts (wsV own index C y ws)) (hw : ws = Cond.code y bytes maxL rt :: ws') (hd : y.cls = C ∧ y.cls ≠ "java/lang/invoke/MethodHandle" ∧ y.cls ≠ "java/lang/invoke/VarHandle" ∧ (parseMethodDescriptor y.desc).map (fun d => d.parameters.length) = some n) (hR : rm.frames + 1 ≤ R.frames ∧ 8 + (maxL + 11) + rm.locals ≤ R.locals) (hrc : rm.cells = 0) (hrs : rm.slots = 0) (hsh : (z_sh V)[b]? = some (.inl (ci, fk))) (hcl : vwCl[ci]? = some q) (hq : q.1 = C) (hn : As.length = n) (hstk : stk = As.reverse ++ .ref (z_ad V b) :: rest) (hrest : (rest.map fun v => v.category).sum ≤ 8) (hdg : decode cc pc = .ok (.invokevirtual index, 3)) (kk : ∀ r : Int32 × z_St, T1 = some r → z_Go M R nL V Qr r.2 (pc + 3) lv (.int r.1 :: rest) (g r)) : z_Go M R nL V Qr σ pc lv stk (T1.bind g) := fun r hr ls H locs hl hP hS => by
  obtain ⟨r1, hr1, hr2⟩ := z_bind_some hr
  subst hq
  have hcw := cwV (R := R) n hX.1.2.2.2.2 hG hw hrc hrs hd hR
  refine va_calli (va_runV (As := As) (rest := rest) hX.1 (hc r1 hr1) hcw ⟨z_blind hX.2.2.2.2.2 _ σ, va_recv hX.2.2.2.1 hP hcl (z_at σ hsh), z_pre hX hP hS _⟩ rfl hn hl.1 hstk (lv_room hrest) hdg ⟨Nat.zero_le _, Nat.zero_le _⟩) hS (fun q _ h => h) (fun q h => h) (fun v u t H1 locs1 ht hvm hw hB hz1 hk1 hS1 => by
    obtain ⟨rfl, rfl⟩ := hw
    rw [ht] at hB
    exact kk r1 hr1 r hr2 ls H1 locs1 hl hB hS1)
theorem z_callSI (hX : z_Cx M V cc nL ret Ts own) {y : MethodName} {bytes : ByteArray} {maxL index n : Nat} {rt : Option FieldType} {ws ws' : List Cond} {rm : Room} {As rest stk : List Value} {T1 : Option (Int32 × z_St)} {g : Int32 × z_St → Option (Int32 × z_St)} (hc : z_CtI M.2.1 V y ws rm As σ T1) (hG : GoodIn Ts (va_wsS own index y ws)) (hw : ws = Cond.code y bytes maxL rt :: ws') (hd : y.cls ≠ "java/lang/invoke/MethodHandle" ∧ y.cls ≠ "java/lang/invoke/VarHandle" ∧ (parseMethodDescriptor y.desc).map (fun d => d.parameters.length) = some n) (hR : rm.frames + 1 ≤ R.frames ∧ 8 + (maxL + 11) + rm.locals ≤ R.locals) (hrc : rm.cells = 0) (hrs : rm.slots = 0) (hn : As.length = n) (hstk : stk = As.reverse ++ rest) (hrest : (rest.map fun v => v.category).sum ≤ 8) (hdg : decode cc pc = .ok (.invokestatic index, 3)) (kk : ∀ r : Int32 × z_St, T1 = some r → z_Go M R nL V Qr r.2 (pc + 3) lv (.int r.1 :: rest) (g r)) : z_Go M R nL V Qr σ pc lv stk (T1.bind g) := fun r hr ls H locs hl hP hS => by
  obtain ⟨r1, hr1, hr2⟩ := z_bind_some hr
  have ok : ∀ w ∈ va_wsS own index y ws, w.before M.2.2.2.2.2.1 M.2.2.2.1 = true := fun w h => hX.1.2.2.2.2 w (hG w h).1
  have hcb := callB_of (R := R) (own := own) (index := index) n hX.1.2.2.2.2 (fun w h => hG w (by unfold va_wsS; exact List.mem_append_right _ h)) hw hrc hrs (ok _ (by simp [va_wsS])) (ok _ (by simp [va_wsS])) hd hR
  refine va_calli (va_runS (As := As) (rest := rest) hX.1 (hc r1 hr1) ⟨hcb, ok _ (by simp [va_wsS])⟩ ⟨z_blind hX.2.2.2.2.2 _ σ, z_pre hX hP hS _⟩ rfl hn hl.1 hstk (lv_room hrest) hdg ⟨Nat.zero_le _, Nat.zero_le _⟩) hS (fun q _ h => h) (fun q h => h) (fun v u t H1 locs1 ht hvm hw hB hz1 hk1 hS1 => by
    obtain ⟨rfl, rfl⟩ := hw
    rw [ht] at hB
    exact kk r1 hr1 r hr2 ls H1 locs1 hl hB hS1)
theorem z_callNI (hX : z_Cx M V cc nL ret Ts own) {y : MethodName} {bytes : ByteArray} {maxL index n : Nat} {rt : Option FieldType} {ws ws' : List Cond} {rm : Room} {host : String} {As rest stk : List Value} {T1 : Option (Int32 × z_St)} {g : Int32 × z_St → Option (Int32 × z_St)} (hc : z_CtI M.2.1 V y ws rm As σ T1) (hG : GoodIn Ts ws) (hw : ws = Cond.code y bytes maxL rt :: ws') (hnw : va_Nw (.methodLinkNest own index y host) M.2.2.2.1) (hini : Cond.initialized y.cls ∈ Ts) (hst : Cond.static y ∈ Ts) (hd : y.cls ≠ "java/lang/invoke/MethodHandle" ∧ y.cls ≠ "java/lang/invoke/VarHandle" ∧ (parseMethodDescriptor y.desc).map (fun d => d.parameters.length) = some n) (hR : rm.frames + 1 ≤ R.frames ∧ 8 + (maxL + 11) + rm.locals ≤ R.locals) (hrc : rm.cells = 0) (hrs : rm.slots = 0) (hn : As.length = n) (hstk : stk = As.reverse ++ rest) (hrest : (rest.map fun v => v.category).sum ≤ 8) (hdg : decode cc pc = .ok (.invokestatic index, 3)) (kk : ∀ r : Int32 × z_St, T1 = some r → z_Go M R nL V Qr r.2 (pc + 3) lv (.int r.1 :: rest) (g r)) : z_Go M R nL V Qr σ pc lv stk (T1.bind g) := fun r hr ls H locs hl hP hS => by
  obtain ⟨r1, hr1, hr2⟩ := z_bind_some hr
  have hcb := va_cnB (R := R) (host := host) (own := own) (index := index) n hX.1.2.2.2.2 hG hw hrc hrs hnw (hX.1.2.2.2.2 _ hini) hd hR
  refine va_calli (va_runSN (As := As) (rest := rest) hX.1 (hc r1 hr1) ⟨hcb, hX.1.2.2.2.2 _ hst, trivial⟩ ⟨z_blind hX.2.2.2.2.2 _ σ, z_pre hX hP hS _⟩ rfl hn hl.1 hstk (lv_room hrest) hdg ⟨Nat.zero_le _, Nat.zero_le _⟩) hS (fun q _ h => h) (fun q h => h) (fun v u t H1 locs1 ht hvm hw hB hz1 hk1 hS1 => by
    obtain ⟨rfl, rfl⟩ := hw
    rw [ht] at hB
    exact kk r1 hr1 r hr2 ls H1 locs1 hl hB hS1)
theorem z_callVV (hX : z_Cx M V cc nL ret Ts own) {y : MethodName} {bytes : ByteArray} {maxL index n b ci : Nat} {rt : Option FieldType} {ws ws' : List Cond} {rm : Room} {C : String} {fk : List (Option Nat)} {q : vw_C} {As rest stk : List Value} {T1 : Option (Int32 × z_St)} {g : Int32 × z_St → Option (Int32 × z_St)} (hc : z_CtV M.2.1 V y ws rm (.ref (z_ad V b) :: As) σ T1) (hG : GoodIn Ts (wsV own index C y ws)) (hw : ws = Cond.code y bytes maxL rt :: ws') (hd : y.cls = C ∧ y.cls ≠ "java/lang/invoke/MethodHandle" ∧ y.cls ≠ "java/lang/invoke/VarHandle" ∧ (parseMethodDescriptor y.desc).map (fun d => d.parameters.length) = some n) (hR : rm.frames + 1 ≤ R.frames ∧ 8 + (maxL + 11) + rm.locals ≤ R.locals) (hrc : rm.cells = 0) (hrs : rm.slots = 0) (hsh : (z_sh V)[b]? = some (.inl (ci, fk))) (hcl : vwCl[ci]? = some q) (hq : q.1 = C) (hn : As.length = n) (hstk : stk = As.reverse ++ .ref (z_ad V b) :: rest) (hrest : (rest.map fun v => v.category).sum ≤ 8) (hdg : decode cc pc = .ok (.invokevirtual index, 3)) (kk : ∀ r : Int32 × z_St, T1 = some r → z_Go M R nL V Qr r.2 (pc + 3) lv rest (g r)) : z_Go M R nL V Qr σ pc lv stk (T1.bind g) := fun r hr ls H locs hl hP hS => by
  obtain ⟨r1, hr1, hr2⟩ := z_bind_some hr
  subst hq
  have hcw := cwV (R := R) n hX.1.2.2.2.2 hG hw hrc hrs hd hR
  refine va_callv (va_runV (As := As) (rest := rest) hX.1 (hc r1 hr1) hcw ⟨z_blind hX.2.2.2.2.2 _ σ, va_recv hX.2.2.2.1 hP hcl (z_at σ hsh), z_pre hX hP hS _⟩ rfl hn hl.1 hstk (lv_room hrest) hdg ⟨Nat.zero_le _, Nat.zero_le _⟩) hS (fun q _ h => h) (fun q h => h) (fun u t H1 locs1 ht hvm hw hB hz1 hk1 hS1 => by
    subst hw
    rw [ht] at hB
    exact kk r1 hr1 r hr2 ls H1 locs1 hl hB hS1)
theorem z_callSV (hX : z_Cx M V cc nL ret Ts own) {y : MethodName} {bytes : ByteArray} {maxL index n : Nat} {rt : Option FieldType} {ws ws' : List Cond} {rm : Room} {As rest stk : List Value} {T1 : Option (Int32 × z_St)} {g : Int32 × z_St → Option (Int32 × z_St)} (hc : z_CtV M.2.1 V y ws rm As σ T1) (hG : GoodIn Ts (va_wsS own index y ws)) (hw : ws = Cond.code y bytes maxL rt :: ws') (hd : y.cls ≠ "java/lang/invoke/MethodHandle" ∧ y.cls ≠ "java/lang/invoke/VarHandle" ∧ (parseMethodDescriptor y.desc).map (fun d => d.parameters.length) = some n) (hR : rm.frames + 1 ≤ R.frames ∧ 8 + (maxL + 11) + rm.locals ≤ R.locals) (hrc : rm.cells = 0) (hrs : rm.slots = 0) (hn : As.length = n) (hstk : stk = As.reverse ++ rest) (hrest : (rest.map fun v => v.category).sum ≤ 8) (hdg : decode cc pc = .ok (.invokestatic index, 3)) (kk : ∀ r : Int32 × z_St, T1 = some r → z_Go M R nL V Qr r.2 (pc + 3) lv rest (g r)) : z_Go M R nL V Qr σ pc lv stk (T1.bind g) := fun r hr ls H locs hl hP hS => by
  obtain ⟨r1, hr1, hr2⟩ := z_bind_some hr
  have ok : ∀ w ∈ va_wsS own index y ws, w.before M.2.2.2.2.2.1 M.2.2.2.1 = true := fun w h => hX.1.2.2.2.2 w (hG w h).1
  have hcb := callB_of (R := R) (own := own) (index := index) n hX.1.2.2.2.2 (fun w h => hG w (by unfold va_wsS; exact List.mem_append_right _ h)) hw hrc hrs (ok _ (by simp [va_wsS])) (ok _ (by simp [va_wsS])) hd hR
  refine va_callv (va_runS (As := As) (rest := rest) hX.1 (hc r1 hr1) ⟨hcb, ok _ (by simp [va_wsS])⟩ ⟨z_blind hX.2.2.2.2.2 _ σ, z_pre hX hP hS _⟩ rfl hn hl.1 hstk (lv_room hrest) hdg ⟨Nat.zero_le _, Nat.zero_le _⟩) hS (fun q _ h => h) (fun q h => h) (fun u t H1 locs1 ht hvm hw hB hz1 hk1 hS1 => by
    subst hw
    rw [ht] at hB
    exact kk r1 hr1 r hr2 ls H1 locs1 hl hB hS1)
theorem z_callNV (hX : z_Cx M V cc nL ret Ts own) {y : MethodName} {bytes : ByteArray} {maxL index n : Nat} {rt : Option FieldType} {ws ws' : List Cond} {rm : Room} {host : String} {As rest stk : List Value} {T1 : Option (Int32 × z_St)} {g : Int32 × z_St → Option (Int32 × z_St)} (hc : z_CtV M.2.1 V y ws rm As σ T1) (hG : GoodIn Ts ws) (hw : ws = Cond.code y bytes maxL rt :: ws') (hnw : va_Nw (.methodLinkNest own index y host) M.2.2.2.1) (hini : Cond.initialized y.cls ∈ Ts) (hst : Cond.static y ∈ Ts) (hd : y.cls ≠ "java/lang/invoke/MethodHandle" ∧ y.cls ≠ "java/lang/invoke/VarHandle" ∧ (parseMethodDescriptor y.desc).map (fun d => d.parameters.length) = some n) (hR : rm.frames + 1 ≤ R.frames ∧ 8 + (maxL + 11) + rm.locals ≤ R.locals) (hrc : rm.cells = 0) (hrs : rm.slots = 0) (hn : As.length = n) (hstk : stk = As.reverse ++ rest) (hrest : (rest.map fun v => v.category).sum ≤ 8) (hdg : decode cc pc = .ok (.invokestatic index, 3)) (kk : ∀ r : Int32 × z_St, T1 = some r → z_Go M R nL V Qr r.2 (pc + 3) lv rest (g r)) : z_Go M R nL V Qr σ pc lv stk (T1.bind g) := fun r hr ls H locs hl hP hS => by
  obtain ⟨r1, hr1, hr2⟩ := z_bind_some hr
  have hcb := va_cnB (R := R) (host := host) (own := own) (index := index) n hX.1.2.2.2.2 hG hw hrc hrs hnw (hX.1.2.2.2.2 _ hini) hd hR
  refine va_callv (va_runSN (As := As) (rest := rest) hX.1 (hc r1 hr1) ⟨hcb, hX.1.2.2.2.2 _ hst, trivial⟩ ⟨z_blind hX.2.2.2.2.2 _ σ, z_pre hX hP hS _⟩ rfl hn hl.1 hstk (lv_room hrest) hdg ⟨Nat.zero_le _, Nat.zero_le _⟩) hS (fun q _ h => h) (fun q h => h) (fun u t H1 locs1 ht hvm hw hB hz1 hk1 hS1 => by
    subst hw
    rw [ht] at hB
    exact kk r1 hr1 r hr2 ls H1 locs1 hl hB hS1)
theorem z_mmin (hX : z_Cx M V cc nL ret Ts own) {index : Nat} {x y : Int32} (hlink : Cond.methodLink own index Lib.Math.min.name ∈ Ts) (hstat : Cond.static Lib.Math.min.name ∈ Ts) (hini : Cond.initialized "java/lang/Math" ∈ Ts) (hcode : Cond.code Lib.Math.min.name Lib.Math.min.code 2 (some .int) ∈ Ts) (hfr : 1 ≤ R.frames) (hlo : (st.map fun v => v.category).sum + 13 ≤ R.locals) (hd : decode cc pc = .ok (.invokestatic index, 3)) (kk : z_Go M R nL V Qr σ (pc + 3) lv (.int (z_min x y) :: st) T) : z_Go M R nL V Qr σ pc lv (.int y :: .int x :: st) T := fun r hr ls H locs hl hP hS => va_mmin hX.1.1 hX.1.2.1 (hX.1.2.2.1.trans hl.1.symm) hX.1.2.2.2.1 (hX.1.2.2.2.2 _ hlink) (hX.1.2.2.2.2 _ hstat) (hX.1.2.2.2.2 _ hini) (hX.1.2.2.2.2 _ hcode) hfr hlo (Nat.zero_le _) (Nat.zero_le _) hd (kk r hr ls H locs hl hP hS)
theorem z_copy (hX : z_Cx M V cc nL ret Ts own) {index b0 b1 n0 n1 : Nat} (hlink : Cond.methodLink own index arraycopyName ∈ Ts) (hnat : Cond.native arraycopyName ∈ Ts) (hstat : Cond.static arraycopyName ∈ Ts) (hini : Cond.initialized "java/lang/System" ∈ Ts) (hs0 : (z_sh V)[b0]? = some (.inr (.inl (0, n0)))) (hs1 : (z_sh V)[b1]? = some (.inr (.inl (0, n1)))) {n : Int32} {k : Nat} (h3 : ¬ n < 0) (hk : n.toNatClampNeg = k) (h4 : k ≤ n0) (h5 : k ≤ n1) (hfr : 1 ≤ R.frames) (hlo : (st.map fun v => v.category).sum + (nativeFrameWords "java/lang/System" "arraycopy" 5 + 11) ≤ R.locals) (hd : decode cc pc = .ok (.invokestatic index, 3)) (kk : z_Go M R nL V Qr (z_row σ b1 (va_cpy (σ b0) (σ b1) 0 0 k)) (pc + 3) lv st T) : z_Go M R nL V Qr σ pc lv (.int n :: .int 0 :: .ref (z_ad V b1) :: .int 0 :: .ref (z_ad V b0) :: st) T := fun r hr ls H locs hl hP hS => by
  subst hk
  refine va_copyi (ty := .int) hX.1.1 hX.1.2.1 (hX.1.2.2.1.trans hl.1.symm) hX.1.2.2.2.1 (hX.1.2.2.2.2 _ hlink) (hX.1.2.2.2.2 _ hnat) (hX.1.2.2.2.2 _ hstat) (hX.1.2.2.2.2 _ hini) hX.2.2.2.1 hP (z_dis hX.2.2.2.2.2 σ) hS b0 b1 0 0 (z_at σ hs0) (z_at σ hs1) rfl rfl rfl (by decide) (by decide) h3 (by rw [show (0 : Int32).toNatClampNeg = 0 from rfl, Nat.zero_add]; exact h4) (by rw [show (0 : Int32).toNatClampNeg = 0 from rfl, Nat.zero_add]; exact h5) (fun i _ => rfl) hfr hlo hd (fun H1 locs1 hP1 hD1 hS1 => ?_)
  exact kk r hr ls H1 locs1 hl ((z_set σ hs1 (va_cpy (σ b0) (σ b1) 0 0 n.toNatClampNeg)) ▸ hP1) hS1
end ZR
theorem z_startI {l : Launch} {V : z_V} {y : MethodName} {ws ws' : List Cond} {rm : Room} {vs : List Value} {σ : z_St} {T : Option (Int32 × z_St)} {cc : ByteArray} {nL : Nat} {ty : FieldType} {lv : List (Nat × Value)} (hV : z_ok V) (hy : plainName y.cls = true) (hw : ws = Cond.code y cc nL (some ty) :: ws') (hlen : (lg_sl vs).length ≤ nL) (hlv : lv_args 0 vs = lv) (body : ∀ M : z_M, M.2.1 = l → z_Cx M V cc nL (some ty) ws y.cls → z_Go M rm nL V (z_QI V) σ 0 lv [] T) : z_CtI l V y ws rm vs σ T := by
  intro r hr
  refine Met.ofW (cc := cc) (maxL := nL) (ret := (some ty)) hy hw ?_
  intro p e s m args below meth c s₁ B hml hv
  obtain ⟨rfl, hP, hK, hF⟩ := hv
  have hx := B.exec
  have hb := B.bytes
  have hr1 := B.returns
  have hts := atoms_spec (ws := ws) B.pre
  have hown : s.vm.findClass y.cls = some m.cls := findClass_of_methodNamed B.named
  have hlocks := B.notSynchronized
  have hl := lv_entry vs (n := nL) hlen
  rw [hlv] at hl
  rw [lg_entry_eq]
  exact body (p, l, e, s, m, vs.toArray, below, meth, c) rfl ⟨⟨hx, hb, hml, hown, hts⟩, hr1, hlocks, hK, hF, hV⟩ r hr _ s.heap [] hl hP va_S.rf
theorem z_startV {l : Launch} {V : z_V} {y : MethodName} {ws ws' : List Cond} {rm : Room} {vs : List Value} {σ : z_St} {T : Option (Int32 × z_St)} {cc : ByteArray} {nL : Nat} {lv : List (Nat × Value)} (hV : z_ok V) (hy : plainName y.cls = true) (hw : ws = Cond.code y cc nL none :: ws') (hlen : (lg_sl vs).length ≤ nL) (hlv : lv_args 0 vs = lv) (body : ∀ M : z_M, M.2.1 = l → z_Cx M V cc nL none ws y.cls → z_Go M rm nL V (z_QV V) σ 0 lv [] T) : z_CtV l V y ws rm vs σ T := by
  intro r hr
  refine Met.ofW (cc := cc) (maxL := nL) (ret := none) hy hw ?_
  intro p e s m args below meth c s₁ B hml hv
  obtain ⟨rfl, hP, hK, hF⟩ := hv
  have hx := B.exec
  have hb := B.bytes
  have hr1 := B.returns
  have hts := atoms_spec (ws := ws) B.pre
  have hown : s.vm.findClass y.cls = some m.cls := findClass_of_methodNamed B.named
  have hlocks := B.notSynchronized
  have hl := lv_entry vs (n := nL) hlen
  rw [hlv] at hl
  rw [lg_entry_eq]
  exact body (p, l, e, s, m, vs.toArray, below, meth, c) rfl ⟨⟨hx, hb, hml, hown, hts⟩, hr1, hlocks, hK, hF, hV⟩ r hr _ s.heap [] hl hP va_S.rf
