/-! ===== the start: what the tables and the Statement give ===== -/
def y_fl : List Cond := flatC (Jvm.Cond.and given_1 narrow_1)
def y_tm (i : Nat) : Term := .string "BlushBank$Scribe" (z_sidx.getD i (0, "")).1
def y_sp : List Nat := [71, 80, 91, 102, 114, 126, 140, 158]
theorem y_f4 : y_fl[4]? = some (Cond.eq (.static "java/lang/String" "COMPACT_STRINGS" "Z") (.int 1)) := by decide +kernel
theorem y_f5 : y_fl[5]? = some (Cond.isRef (.static "jdk/internal/util/Preconditions" "SIOOBE_FORMATTER" "Ljava/util/function/BiFunction;")) := by decide +kernel
theorem y_f10 : y_fl[10]? = some (Cond.arrayOf (.static "BlushBank$Scribe" "NUMBERS_OF" "[I") .int) := by decide +kernel
theorem y_f11 : y_fl[11]? = some (Cond.eq (.length (.static "BlushBank$Scribe" "NUMBERS_OF" "[I")) (.int (Int32.ofNat 8))) := by decide +kernel
theorem y_f12 : ∀ j, j < 8 → y_fl[12 + j]? = some (Cond.eq (.elem (.static "BlushBank$Scribe" "NUMBERS_OF" "[I") (.int (Int32.ofNat j))) (.int (z_l_NUMBERS_OF.getD j 0))) := by decide +kernel
theorem y_f21 : y_fl[21]? = some (Cond.arrayOf (.static "BlushBank$Scribe" "BOUNDS" "[I") .int) := by decide +kernel
theorem y_f22 : y_fl[22]? = some (Cond.eq (.length (.static "BlushBank$Scribe" "BOUNDS" "[I")) (.int (Int32.ofNat 32))) := by decide +kernel
theorem y_f23 : ∀ j, j < 32 → y_fl[23 + j]? = some (Cond.eq (.elem (.static "BlushBank$Scribe" "BOUNDS" "[I") (.int (Int32.ofNat j))) (.int (z_l_BOUNDS.getD j 0))) := by decide +kernel
theorem y_s0 : ∀ i, i < 8 → y_fl[y_sp.getD i 0]? = some (Cond.exactly (y_tm i) "java/lang/String") := by decide +kernel
theorem y_s1 : ∀ i, i < 8 → y_fl[y_sp.getD i 0 + 1]? = some (Cond.eq (.field (y_tm i) "java/lang/String" "coder" "B") (.int 0)) := by decide +kernel
theorem y_s2 : ∀ i, i < 8 → y_fl[y_sp.getD i 0 + 2]? = some (Cond.arrayOf (.field (y_tm i) "java/lang/String" "value" "[B") .byte) := by decide +kernel
theorem y_s3 : ∀ i, i < 8 → y_fl[y_sp.getD i 0 + 3]? = some (Cond.eq (.length (.field (y_tm i) "java/lang/String" "value" "[B")) (.int (Int32.ofNat (z_slen.getD i 0)))) := by decide +kernel
theorem y_s4 : ∀ i, i < 8 → ∀ j, j < z_slen.getD i 0 → y_fl[y_sp.getD i 0 + 4 + j]? = some (Cond.eq (.elem (.field (y_tm i) "java/lang/String" "value" "[B") (.int (Int32.ofNat j))) (.int ((z_sbyt.getD i []).getD j 0))) := by decide +kernel
theorem y_s5 : ∀ j, j < 8 → ∀ i, i < j → y_fl[y_sp.getD j 0 + 4 + z_slen.getD j 0 + i]? = some (Cond.not (Cond.eq (y_tm i) (y_tm j))) := by decide +kernel
theorem y_s6 : ∀ i, i < 8 → Cond.stringRef "BlushBank$Scribe" (z_sidx.getD i (0, "")).1 (z_sidx.getD i (0, "")).2 ∈ lw_tbl := by decide +kernel
theorem y_s7 : ∀ i, i < 8 → z_slen.getD i 0 < 2 ^ 31 := by decide +kernel
theorem y_t0 : Cond.laysStatic "BlushBank$Scribe" "NUMBERS_OF" "[I" ∈ lw_tbl := by decide +kernel
theorem y_t1 : Cond.laysStatic "BlushBank$Scribe" "BOUNDS" "[I" ∈ lw_tbl := by decide +kernel
theorem y_t2 : Cond.laysStatic "java/lang/String" "COMPACT_STRINGS" "Z" ∈ lw_tbl := by decide +kernel
theorem y_t3 : Cond.laysStatic "jdk/internal/util/Preconditions" "SIOOBE_FORMATTER" "Ljava/util/function/BiFunction;" ∈ lw_tbl := by decide +kernel
theorem y_t4 : Cond.initialized "BlushBank$Scribe" ∈ lw_tbl := by decide +kernel
theorem y_t5 : Cond.initialized "java/lang/String" ∈ lw_tbl := by decide +kernel
theorem y_t6 : Cond.initialized "jdk/internal/util/Preconditions" ∈ lw_tbl := by decide +kernel
theorem y_t7 : Cond.methodLinkNest "BlushBank$Ledger" 66 ⟨"BlushBank", "isWithin", "(II)Z"⟩ "BlushBank" ∈ lw_tbl := by decide +kernel
theorem y_t8 : ∀ i, i < 10 → (match y_nl[i]? with | some q => decide (Cond.methodLinkNest q.1 q.2.1 q.2.2.1 q.2.2.2 ∈ lw_tbl) | none => false) = true := by decide +kernel
theorem y_t9 : Cond.arrayOver (.object RX0) ∈ lw_tbl := by decide +kernel
theorem y_t10 : Cond.arrayOver (.object RX4) ∈ lw_tbl := by decide +kernel
theorem y_t11 : Cond.arrayClass .int ∈ lw_tbl := by decide +kernel
theorem y_t12 : Cond.arrayClass .byte ∈ lw_tbl := by decide +kernel
theorem y_t13 : Cond.arrayClass .boolean ∈ lw_tbl := by decide +kernel
theorem y_u0 : Cond.instantiable RX0 3 ∈ lw_tbl := by decide +kernel
theorem y_u1 : Cond.instantiable RX1 11 ∈ lw_tbl := by decide +kernel
theorem y_u2 : Cond.instantiable RX2 4 ∈ lw_tbl := by decide +kernel
theorem y_u3 : Cond.instantiable RX3 12 ∈ lw_tbl := by decide +kernel
theorem y_u4 : Cond.instantiable RX4 3 ∈ lw_tbl := by decide +kernel
theorem y_u5 : Cond.instantiable RX5 8 ∈ lw_tbl := by decide +kernel
theorem y_u6 : Cond.instantiable RX6 9 ∈ lw_tbl := by decide +kernel
theorem y_u7 : Cond.instantiable RX7 39 ∈ lw_tbl := by decide +kernel
theorem y_arc {s : State} {args : Array Value} {ty : FieldType} (h : (Cond.arrayClass ty).before args s = true) (hob : ∀ C, ty ≠ .object C) : ∃ cA, ArrOfT s cA ty ∧ va_RA s cA ty := by
  obtain ⟨cA, kA, comp, h1, h2, h3⟩ := Cond.arrayClass_spec h
  refine ⟨cA, fun n z => ⟨fun k h => (by cases h), kA, h2, comp, h3⟩, ?_⟩
  cases ty <;> first | exact absurd rfl (hob _) | exact h1
theorem y_aro {s : State} {C : String} (h : va_AO C s) : ∃ cA, ArrOfT s cA (.object C) ∧ va_RA s cA (.object C) := by
  obtain ⟨comp, c, k, h1, h2, h3, h4, h5⟩ := Cond.arrayOver_spec h
  exact ⟨c, fun N z => ⟨fun k h => (by cases h), k, h3, comp, h4⟩, k, comp, h3, h4, h1, h5⟩
theorem y_vkS {N : Nat} {len : List Nat} {byt : List (List Int32)} {aK aK' aV aV' : Nat → Nat} {A : Nat → Prop} {U : State} {H : Heap} (hK : ∀ i, i < N → aK' i = aK i) (hV : ∀ i, i < N → aV' i = aV i) (h : vk_S N len byt aK aV A U H) : vk_S N len byt aK' aV' A U H :=
  ⟨fun i hi => by rw [hK i hi, hV i hi]; exact h.1 i hi, fun i j hi hj e => h.2 i j hi hj (by rw [← hK i hi, ← hK j hj]; exact e)⟩
theorem z_FX_call {V : z_V} {U : State} (g : JFrame) (mk : MethodId) (a : Array Value) (h : z_FX V U) : z_FX V (U.calling g mk a) := by
  obtain ⟨h1, ⟨h2, h3⟩, ⟨h4, h5⟩, h6, h7, h8, h9⟩ := h
  exact ⟨va_Nw.same rfl rfl h1, ⟨va_Z.moved (Vm.Alike.refl U.vm) h2, va_T.moved (Vm.Alike.refl U.vm) h3⟩, ⟨va_Z.moved (Vm.Alike.refl U.vm) h4, va_T.moved (Vm.Alike.refl U.vm) h5⟩, fun i hi => vk_R.same rfl (h6 i hi), vk_S.moved (Vm.Alike.refl U.vm) h7, va_Z.moved (Vm.Alike.refl U.vm) h8, va_Zq.moved (Vm.Alike.refl U.vm) h9⟩
theorem z_FX_warm {V : z_V} {s U : State} {H : Heap} {locs : List Loc} (h : z_FX V s) (hS : va_S (z_A V) s.heap H locs) (hU : U.heap = H) (hW : s.WarmedH U.vm) : z_FX V U := by
  subst hU
  obtain ⟨h1, ⟨h2, h3⟩, ⟨h4, h5⟩, h6, h7, h8, h9⟩ := h
  have hq : ∀ a : Nat, a < s.heap.size → ¬ z_A V a → U.heap[a]? = s.heap[a]? := fun a h1 h2 => hS.2.1 a h1 h2
  have hv := hW.alike
  exact ⟨va_Nw.warmM hW h1, ⟨(va_Z.moved hv h2).kept hq, (va_T.moved hv h3).kept hq⟩, ⟨(va_Z.moved hv h4).kept hq, (va_T.moved hv h5).kept hq⟩, fun i hi => vk_R.warm hW (h6 i hi), (vk_S.moved hv h7).kept hq, (va_Z.moved hv h8).kept hq, (va_Zq.moved hv h9).kept hq⟩
theorem l_apart {A : Nat → Prop} {V : z_V} {σ : z_St} (hD : va_D A (z_W V σ)) : (∀ i j, i < (z_sh V).length → j < (z_sh V).length → z_ad V i = z_ad V j → i = j) ∧ ∀ q, z_A V q → A q := by
  have look : ∀ i, i < (z_sh V).length → ∃ en, (z_W V σ)[i]? = some (z_ad V i, en) := fun i hi => by
    have h1 : (z_sh V)[i]? = some (z_sh V)[i] := List.getElem?_eq_getElem hi
    exact ⟨_, z_at σ h1⟩
  refine ⟨fun i j hi hj e => ?_, ?_⟩
  · obtain ⟨ei, h1⟩ := look i hi
    obtain ⟨ej, h2⟩ := look j hj
    exact hD.1 i j _ _ h1 h2 e
  · rintro q ⟨i, hi, rfl⟩
    obtain ⟨ei, h1⟩ := look i hi
    exact hD.2 i _ h1
theorem l_two {A : Nat → Prop} {V V' : z_V} {σ σ' : z_St} (hD : va_D A (z_W V σ ++ z_W V' σ')) : va_D A (z_W V σ) ∧ va_D A (z_W V' σ') ∧ ∀ q, z_A V q → ¬ z_A V' q := by
  have left : ∀ (k : Nat) (x : Nat × va_E), (z_W V σ)[k]? = some x → (z_W V σ ++ z_W V' σ')[k]? = some x := fun k x hx => by
    rw [List.getElem?_append_left (List.getElem?_eq_some_iff.mp hx).1]; exact hx
  have right : ∀ (k : Nat) (x : Nat × va_E), (z_W V' σ')[k]? = some x → (z_W V σ ++ z_W V' σ')[(z_W V σ).length + k]? = some x := fun k x hx => by
    rw [List.getElem?_append_right (by omega), Nat.add_sub_cancel_left]; exact hx
  refine ⟨⟨fun i j x y hx hy => hD.1 i j x y (left i x hx) (left j y hy), fun k x hx => hD.2 k x (left k x hx)⟩, ⟨fun i j x y hx hy e => ?_, fun k x hx => hD.2 _ x (right k x hx)⟩, ?_⟩
  · have := hD.1 _ _ x y (right i x hx) (right j y hy) e
    omega
  · rintro q ⟨i, hi, rfl⟩ ⟨j, hj, e⟩
    have h1 : (z_sh V)[i]? = some (z_sh V)[i] := List.getElem?_eq_getElem hi
    have h2 : (z_sh V')[j]? = some (z_sh V')[j] := List.getElem?_eq_getElem hj
    have g1 := z_at σ h1
    have g2 := z_at σ' h2
    have h3 := hD.1 _ _ _ _ (left i _ g1) (right j _ g2) e
    have h4 := (List.getElem?_eq_some_iff.mp g1).1
    omega
theorem l_twoP {D : va_G} {V V' : z_V} {σ σ' : z_St} {H : Heap} (hP : va_P D vwCl (z_W V σ ++ z_W V' σ') H) : va_P D vwCl (z_W V σ) H ∧ va_P D vwCl (z_W V' σ') H := by
  refine ⟨fun k x hx => hP k x ?_, fun k x hx => hP ((z_W V σ).length + k) x ?_⟩
  · rw [List.getElem?_append_left (List.getElem?_eq_some_iff.mp hx).1]; exact hx
  · rw [List.getElem?_append_right (by omega), Nat.add_sub_cancel_left]; exact hx
section LS
variable {p : Program} {l : Launch} {e : Env} {R : Room} {s : State} {m : MethodId} {args : Array Value} {below : List Frame} {meth : Method} {c : Code} {Q : State → Prop} {D : va_G} {A : Nat → Prop} {nL : Nat} {cc : ByteArray} {Ts : List Cond} {own : String} {tys : List (ClassId × FieldType)} {ws : va_W} {cells slots pc : Nat} {lv : List (Nat × Value)} {st rest : List Value}
theorem l_ast (S : CallFix p m c cc nL s args Ts own) {k : Fin 4} {i x : Nat} {lv' : List (Nat × Value)} (hd : decode cc pc = .ok (.astore_n k, 1)) (hi : (k : Nat) = i) (hn : i < nL) (hl' : (i, Value.ref x) :: lv.filter (fun q => !(q.1 == i) && !(q.1 + 1 == i && q.2.category == 2)) = lv') (kk : y_Go (p, l, e, R, s, m, args, below, meth, c, Q, D, A, nL) ws cells slots (pc + 1) lv' st) : y_Go (p, l, e, R, s, m, args, below, meth, c, Q, D, A, nL) ws cells slots pc lv (.ref x :: st) := fun ls H locs hl hP hD hS => lv_astore_n S.1 S.2.1 hd hi hl hn hl' (fun ls hl => kk ls H locs hl hP hD hS)
theorem l_ist (S : CallFix p m c cc nL s args Ts own) {k : Fin 4} {i : Nat} {x : Int32} {lv' : List (Nat × Value)} (hd : decode cc pc = .ok (.istore_n k, 1)) (hi : (k : Nat) = i) (hn : i < nL) (hl' : (i, Value.int x) :: lv.filter (fun q => !(q.1 == i) && !(q.1 + 1 == i && q.2.category == 2)) = lv') (kk : y_Go (p, l, e, R, s, m, args, below, meth, c, Q, D, A, nL) ws cells slots (pc + 1) lv' st) : y_Go (p, l, e, R, s, m, args, below, meth, c, Q, D, A, nL) ws cells slots pc lv (.int x :: st) := fun ls H locs hl hP hD hS => lv_istore_n S.1 S.2.1 hd hi hl hn hl' (fun ls hl => kk ls H locs hl hP hD hS)
theorem l_ico (S : CallFix p m c cc nL s args Ts own) {n : Int} {v : Int32} (hd : decode cc pc = .ok (.iconst n, 1)) (hv : Int32.ofInt n = v) (kk : y_Go (p, l, e, R, s, m, args, below, meth, c, Q, D, A, nL) ws cells slots (pc + 1) lv (.int v :: st)) : y_Go (p, l, e, R, s, m, args, below, meth, c, Q, D, A, nL) ws cells slots pc lv st := fun ls H locs hl hP hD hS => lv_iconst S.1 S.2.1 hd hv (kk ls H locs hl hP hD hS)
theorem l_sub (S : CallFix p m c cc nL s args Ts own) (hK : va_K D vwCl tys s) (hAs : ∀ q : Nat, s.heap.size ≤ q → A q) {E : State → Prop} (hE : y_E E) (hEs : E s) {y : MethodName} {wsy wsy' : List Cond} {bytes : ByteArray} {maxL mc ms ci N index index2 : Nat} {C : String} {T : u_T} {rm : Room} {fs0 : List Value} {P : Nat → va_W → Prop} (hct : y_Ct l D tys E y wsy rm ci mc ms fs0 P) (hin : ∀ w ∈ u_ws C T N, w ∈ Ts) (ty0 : Nat → FieldType) (hty : ∀ k, k < N → parseFieldDescriptor (T k).2.2.1 = some (ty0 k)) (hcl : Cond.classLink own index C ∈ Ts) (hinst : Cond.instantiable C N ∈ Ts) (hini : Cond.initialized C ∈ Ts) (hc : vwCl[ci]? = some (C, T, N)) (hfs : ∀ j, j < N → defaultValue (ty0 j) = vp_V fs0 j) (hG : GoodIn Ts wsy) (hw : wsy = Cond.code y bytes maxL none :: wsy') (hml : Cond.methodLink own index2 y ∈ Ts) (hyC : y.cls = C) (hyi : y.name = "<init>") (him : Cond.instanceMethod y ∈ Ts) (hd : y.cls ≠ "java/lang/invoke/MethodHandle" ∧ y.cls ≠ "java/lang/invoke/VarHandle" ∧ (parseMethodDescriptor y.desc).map (fun d => d.parameters.length) = some 0) (hR : rm.frames + 1 ≤ R.frames ∧ 8 + (maxL + 11) + rm.locals ≤ R.locals) (hrc : rm.cells = mc) (hrs : rm.slots = ms) (hcells : cells + 1 + mc ≤ R.cells) (hslots : slots + N + ms ≤ R.slots) (hrest : (rest.map fun v => v.category).sum + 1 ≤ 8) (d0 : decode cc pc = .ok (.new index, 3)) (d1 : decode cc (pc + 3) = .ok (.dup, 1)) (d2 : decode cc (pc + 4) = .ok (.invokespecial index2, 3)) (kk : ∀ (q : Nat) (u : va_W), P q u → y_Go (p, l, e, R, s, m, args, below, meth, c, Q, D, A, nL) (ws ++ u) (cells + 1 + mc) (slots + N + ms) (pc + 7) lv (.ref q :: rest)) : y_Go (p, l, e, R, s, m, args, below, meth, c, Q, D, A, nL) ws cells slots pc lv rest := fun ls H locs hl hP hD hS => by
  refine va_new (fs := fs0) S.1 S.2.1 S.2.2.2.2 hin ty0 hty S.2.2.2.1 (S.2.2.2.2 _ hcl) (S.2.2.2.2 _ hinst) (S.2.2.2.2 _ hini) hK hP hD hS hAs hc hfs (by omega) (by omega) d0 (fun q H1 hP1 hD1 hS1 => ?_)
  refine lv_dup S.1 S.2.1 d1 rfl ?_
  have hlast : (ws ++ [(q, (Sum.inr (ci, fs0) : va_E))])[ws.length]? = some (q, .inr (ci, fs0)) := by rw [List.getElem?_append_right (Nat.le_refl _), Nat.sub_self]; rfl
  have hAq : ∀ x, va_A [(q, .inr (ci, fs0))] H1.size x → A x := by
    intro x h
    rcases h with ⟨k, f, h⟩ | h
    · have hk : k = 0 := by
        have := (List.getElem?_eq_some_iff.mp h).1
        simp at this; exact this
      subst hk
      have h2 : (x, f) = (q, (Sum.inr (ci, fs0) : va_E)) := (Option.some.inj h).symm
      have h3 := hD1.2 ws.length _ hlast
      rw [show x = q from congrArg Prod.fst h2]; exact h3
    · exact hAs x (Nat.le_trans hS1.1 h)
  have hcb := cwI (R := R) (own := own) (index := index2) 0 S.2.2.2.2 hG hw hrc hrs (by rw [hyC]; exact S.2.2.2.2 _ hini) (S.2.2.2.2 _ hml) (S.2.2.2.2 _ him) hyi hd hR
  refine va_callv (va_runI (As := []) (rest := .ref q :: rest) S (hct q H1.size) hcb ⟨fun a U g mk w => ⟨w.1, w.2.1, w.2.2.1, va_K.moved (u := U) (U := U.calling g mk a) (Vm.Alike.refl U.vm) w.2.2.2.1, hE.1 U g mk a w.2.2.2.2⟩, fun U hU hW => ⟨rfl, by rw [hU], by rw [hU]; exact fun k x hx => hP1 ws.length x (by
    have hk : k = 0 := by
      have := (List.getElem?_eq_some_iff.mp hx).1
      simp at this; exact this
    subst hk
    rw [hlast]; exact hx), va_K.moved hW.alike hK, hE.2 s U hEs hW⟩⟩ rfl rfl hl.1 rfl (lv_room (by show 1 + (rest.map fun v => v.category).sum ≤ 8; omega)) d2 ⟨by omega, by omega⟩) hS1 (fun x _ h => hAq x h) hAq (fun u t H2 locs2 ht hvm hPu hB hz hk2 hS2 => ?_)
  obtain ⟨hPu1, hDu1⟩ := hB
  rw [ht] at hPu1
  obtain ⟨hP2, hD2⟩ := y_joined hP1 hD1 hk2 hAq hPu1 hDu1
  exact kk q u hPu ls H2 locs2 hl hP2 hD2 hS2
end LS
theorem lk_L_0 : Cond.classLink RL 7 RX6 ∈ wsL_law := by decide +kernel
theorem lk_L_1 : Cond.instantiable RX6 9 ∈ wsL_law := by decide +kernel
theorem lk_L_2 : Cond.initialized RX6 ∈ wsL_law := by decide +kernel
theorem lk_L_3 : Cond.classLink RL 10 RX7 ∈ wsL_law := by decide +kernel
theorem lk_L_4 : Cond.instantiable RX7 39 ∈ wsL_law := by decide +kernel
theorem lk_L_5 : Cond.initialized RX7 ∈ wsL_law := by decide +kernel
theorem lk_L_6 : Cond.methodLink RL 9 yX6_init ∈ wsL_law := by decide +kernel
theorem lk_L_7 : Cond.instanceMethod yX6_init ∈ wsL_law := by decide +kernel
theorem lk_L_8 : Cond.methodLink RL 12 yX7_init ∈ wsL_law := by decide +kernel
theorem lk_L_9 : Cond.instanceMethod yX7_init ∈ wsL_law := by decide +kernel
/-- the classes and the array classes, as the tables have them -/
theorem l_tables {s : State} {args : Array Value} (hts : ∀ w ∈ lw_tbl, w.before args s = true) : ∃ (D : va_G) (cy : Nat → ClassId), va_K D vwCl (y_tys cy) s := by

  obtain ⟨c0, i0, h0⟩ := u_known (C := RX0) (T := TX0) (N := 3) (n := 3) hts inX0 (hts _ y_u0)
  obtain ⟨c1, i1, h1⟩ := u_known (C := RX1) (T := TX1) (N := 11) (n := 11) hts inX1 (hts _ y_u1)
  obtain ⟨c2, i2, h2⟩ := u_known (C := RX2) (T := TX2) (N := 4) (n := 4) hts inX2 (hts _ y_u2)
  obtain ⟨c3, i3, h3⟩ := u_known (C := RX3) (T := TX3) (N := 12) (n := 12) hts inX3 (hts _ y_u3)
  obtain ⟨c4, i4, h4⟩ := u_known (C := RX4) (T := TX4) (N := 3) (n := 3) hts inX4 (hts _ y_u4)
  obtain ⟨c5, i5, h5⟩ := u_known (C := RX5) (T := TX5) (N := 8) (n := 8) hts inX5 (hts _ y_u5)
  obtain ⟨c6, i6, h6⟩ := u_known (C := RX6) (T := TX6) (N := 9) (n := 9) hts inX6 (hts _ y_u6)
  obtain ⟨c7, i7, h7⟩ := u_known (C := RX7) (T := TX7) (N := 39) (n := 39) hts inX7 (hts _ y_u7)
  obtain ⟨a0, k0⟩ := y_arc (hts _ y_t11) (fun _ h => by cases h)
  obtain ⟨a1, k1⟩ := y_arc (hts _ y_t12) (fun _ h => by cases h)
  obtain ⟨a2, k2⟩ := y_arc (hts _ y_t13) (fun _ h => by cases h)
  obtain ⟨a3, k3⟩ := y_aro (va_AO.of (hts _ y_t9))
  obtain ⟨a4, k4⟩ := y_aro (va_AO.of (hts _ y_t10))
  refine ⟨(fun k => [c0, c1, c2, c3, c4, c5, c6, c7].getD k c0, fun k => [i0, i1, i2, i3, i4, i5, i6, i7].getD k i0), fun k => [a0, a1, a2, a3, a4].getD k a0, fun k q hq => ?_, fun k q hq => ?_⟩
  · match k, hq with
    | 0, hq => cases hq; exact h0
    | 1, hq => cases hq; exact h1
    | 2, hq => cases hq; exact h2
    | 3, hq => cases hq; exact h3
    | 4, hq => cases hq; exact h4
    | 5, hq => cases hq; exact h5
    | 6, hq => cases hq; exact h6
    | 7, hq => cases hq; exact h7
    | k + 8, hq => simp [vwCl] at hq
  · match k, hq with
    | 0, hq => cases hq; exact k0
    | 1, hq => cases hq; exact k1
    | 2, hq => cases hq; exact k2
    | 3, hq => cases hq; exact k3
    | 4, hq => cases hq; exact k4
    | k + 5, hq => simp at hq
theorem l_EX {s : State} {args : Array Value} (hts : ∀ w ∈ lw_tbl, w.before args s = true) : y_EX s := by
  refine ⟨fun i q hq => ?_, va_AO.of (hts _ y_t9), va_AO.of (hts _ y_t10)⟩
  have hi : i < 10 := (List.getElem?_eq_some_iff.mp hq).1
  have h := y_t8 i hi
  rw [hq] at h
  exact va_Nw.of rfl (hts _ (of_decide_eq_true h))
