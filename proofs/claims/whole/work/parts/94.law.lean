/-! THE CLAIM OUT OF ONE WALK OF THE LAW'S BODY. Your part is whole_start (and what it stands on); all else here is the same for every law, but numbers. -/
def R_law : String := "BlushBankLaw"
def lw_P (b : Addr) (xs : List Int32) (args : Array Value) (s : State) : Prop := args = #[.ref b] ∧ s.IntsAt b xs ∧ xs.length ≤ 2560 ∧ (Jvm.Cond.and given_1 narrow_1).before args s = true
def lw_Q (_ : Array Value) (s : State) (o : Outcome) (t : State) : Prop := o = .returned (some (.int 1)) ∧ Framed s o t [] 600000 7302250
def lw_Z (below : List Frame) (a : Array Value) (s : State) : State → Prop := fun t => ∃ o, t.status = .running ∧ Ended t below o ∧ lw_Q a s o t
/-- the law's own end, with 1 on the stack, nothing written that was there before, its room as the claim has it -/
theorem lw_ret {p : Program} {l : Launch} {e : Env} {s : State} {m : MethodId} {below : List Frame} {meth : Method} {c : Code} {b : Nat} (hx : p.tables.exec = Jvm.exec) (hb : c.code = code) (hr : meth.sig.returnType = ret) (hlocks : meth.locks = false) {pc : Nat} {H : Heap} {ls : Array Slot} (hdg : decode code pc = .ok (.ireturn, 1)) : W p l e room_1 s m #[Value.ref b] below meth c H [] 600000 7302250 (lw_Z below #[Value.ref b] s) (F0 m pc ls [.int 1]) := by
  intro T hT X
  obtain ⟨fs, hret, hrun, hended, hW, hframe⟩ := X.leave (v := some (.int 1)) (hlocks := hlocks) (fun h => by rw [hr] at h; cases h)
  have hmeth' : T.vm.method? m = some meth := X.method'
  refine ⟨T.setFrames fs, ?_, .returned (some (.int 1)), hrun, hended, rfl, ⟨_, rfl⟩, hW, hframe⟩
  jvm_step X.here [X.here.top, hx, hb, hdg, hmeth', hr, ret, narrow_b1]
  (try refine ⟨rfl, ?_⟩); (try refine ⟨rfl, ?_⟩)
  first | (intro acts; rw [hret _ acts rfl rfl rfl]) | rw [hret _ _ rfl rfl rfl]
  exact Steps.refl _
/-- what holds at the law's entry: the machine, the code, the tables' words (any of lw_tbl by 'hts w (by decide +kernel)'), the script of L ints xs at the cell b, what the Statement gives of the start (any of its parts by flat_of_before) -/
def lw_At (p : Program) (s : State) (m : MethodId) (meth : Method) (c : Code) (b L : Nat) (xs : Nat → Int32) : Prop :=
  p.tables.exec = Jvm.exec ∧ c.code = code ∧ meth.sig.returnType = ret ∧ c.maxLocals = 4 ∧ s.vm.findClass R_law = some m.cls ∧ (∀ w ∈ lw_tbl, w.before #[Value.ref b] s = true) ∧ va_X b L xs s s.heap ∧ b < s.heap.size ∧ meth.locks = false ∧ (Jvm.Cond.and given_1 narrow_1).before #[Value.ref b] s = true

/-! ===== the law: two worlds, the class's and the reference's ===== -/
abbrev l_A (s : State) : Nat → Prop := fun q => s.heap.size ≤ q
abbrev z_LM : Type := Program × Launch × Env × State × MethodId × List Frame × Method × Code × Nat × Nat × (Nat → Int32)
def z_LC (N : z_LM) (VX VM : z_V) : Prop := lw_At N.1 N.2.2.2.1 N.2.2.2.2.1 N.2.2.2.2.2.2.1 N.2.2.2.2.2.2.2.1 N.2.2.2.2.2.2.2.2.1 N.2.2.2.2.2.2.2.2.2.1 N.2.2.2.2.2.2.2.2.2.2 ∧ N.2.2.2.2.2.2.2.2.2.1 ≤ 2560 ∧ (z_ok VX ∧ z_isX VX ∧ VX.2.2.2.2 N.2.2.2.1 ∧ va_K VX.1 vwCl (z_tys VX) N.2.2.2.1 ∧ ∀ q, z_A VX q → N.2.2.2.1.heap.size ≤ q) ∧ (z_ok VM ∧ z_isM VM ∧ VM.2.2.2.2 N.2.2.2.1 ∧ va_K VM.1 vwCl (z_tys VM) N.2.2.2.1 ∧ ∀ q, z_A VM q → N.2.2.2.1.heap.size ≤ q) ∧ ∀ q, z_A VX q → ¬ z_A VM q
def z_LG (N : z_LM) (VX VM : z_V) (σX σM : z_St) (pc : Nat) (lv : List (Nat × Value)) (st : List Value) : Prop := ∀ (ls : Array Slot) (H : Heap) (locs : List Loc), lv_has ls 4 lv → va_P VX.1 vwCl (z_W VX σX) H → va_P VM.1 vwCl (z_W VM σM) H → va_S (l_A N.2.2.2.1) N.2.2.2.1.heap H locs → W N.1 N.2.1 N.2.2.1 room_1 N.2.2.2.1 N.2.2.2.2.1 #[Value.ref N.2.2.2.2.2.2.2.2.1] N.2.2.2.2.2.1 N.2.2.2.2.2.2.1 N.2.2.2.2.2.2.2.1 H locs 600000 7302250 (lw_Z N.2.2.2.2.2.1 #[Value.ref N.2.2.2.2.2.2.2.2.1] N.2.2.2.1) (F0 N.2.2.2.2.1 pc ls st)
abbrev l_lv (N : z_LM) (VX VM : z_V) (i : Nat) : List (Nat × Value) := [(3, .int (nI i)), (2, .ref (z_ad VM 0)), (1, .ref (z_ad VX 0)), (0, .ref N.2.2.2.2.2.2.2.2.1)]
section LW
variable {N : z_LM} {VX VM : z_V} {σX σM σ' : z_St} {pc i : Nat} {st rest : List Value}
theorem lg_hts (C : z_LC N VX VM) : ∀ w ∈ wsL_law, w.before #[Value.ref N.2.2.2.2.2.2.2.2.1] N.2.2.2.1 = true := fun w h => C.1.2.2.2.2.2.1 w (wsL_law_in w h)
theorem lg_fix (C : z_LC N VX VM) : CallFix N.1 N.2.2.2.2.1 N.2.2.2.2.2.2.2.1 cL_law 4 N.2.2.2.1 #[Value.ref N.2.2.2.2.2.2.2.2.1] wsL_law RL := ⟨C.1.1, C.1.2.1, C.1.2.2.2.1, C.1.2.2.2.2.1, lg_hts C⟩
theorem lg_aload1 (C : z_LC N VX VM) (hd : decode cL_law pc = .ok (.aload_n 1, 1)) (kk : z_LG N VX VM σX σM (pc + 1) (l_lv N VX VM i) (.ref (z_ad VX 0) :: st)) : z_LG N VX VM σX σM pc (l_lv N VX VM i) st := fun ls H locs hl hP hQ hS => lv_aload_n C.1.1 C.1.2.1 hd rfl (lv_at hl 2 rfl) (kk ls H locs hl hP hQ hS)
theorem lg_aload2 (C : z_LC N VX VM) (hd : decode cL_law pc = .ok (.aload_n 2, 1)) (kk : z_LG N VX VM σX σM (pc + 1) (l_lv N VX VM i) (.ref (z_ad VM 0) :: st)) : z_LG N VX VM σX σM pc (l_lv N VX VM i) st := fun ls H locs hl hP hQ hS => lv_aload_n C.1.1 C.1.2.1 hd rfl (lv_at hl 1 rfl) (kk ls H locs hl hP hQ hS)
theorem lg_iload (C : z_LC N VX VM) (hd : decode cL_law pc = .ok (.iload_n 3, 1)) (kk : z_LG N VX VM σX σM (pc + 1) (l_lv N VX VM i) (.int (nI i) :: st)) : z_LG N VX VM σX σM pc (l_lv N VX VM i) st := fun ls H locs hl hP hQ hS => lv_iload_n C.1.1 C.1.2.1 hd rfl (lv_at hl 0 rfl) (kk ls H locs hl hP hQ hS)
theorem lg_aload0 (C : z_LC N VX VM) (hd : decode cL_law pc = .ok (.aload_n 0, 1)) (kk : z_LG N VX VM σX σM (pc + 1) (l_lv N VX VM i) (.ref N.2.2.2.2.2.2.2.2.1 :: st)) : z_LG N VX VM σX σM pc (l_lv N VX VM i) st := fun ls H locs hl hP hQ hS => lv_aload_n C.1.1 C.1.2.1 hd rfl (lv_at hl 3 rfl) (kk ls H locs hl hP hQ hS)
theorem lg_iconst (C : z_LC N VX VM) {lv : List (Nat × Value)} {n : Int} {v : Int32} (hd : decode cL_law pc = .ok (.iconst n, 1)) (hv : Int32.ofInt n = v) (kk : z_LG N VX VM σX σM (pc + 1) lv (.int v :: st)) : z_LG N VX VM σX σM pc lv st := fun ls H locs hl hP hQ hS => lv_iconst C.1.1 C.1.2.1 hd hv (kk ls H locs hl hP hQ hS)
theorem lg_iadd (C : z_LC N VX VM) {lv : List (Nat × Value)} {x y : Int32} (hd : decode cL_law pc = .ok (.iadd, 1)) (kk : z_LG N VX VM σX σM (pc + 1) lv (.int (x + y) :: st)) : z_LG N VX VM σX σM pc lv (.int y :: .int x :: st) := fun ls H locs hl hP hQ hS => lv_iadd C.1.1 C.1.2.1 hd (kk ls H locs hl hP hQ hS)
theorem lg_sld (C : z_LC N VX VM) {lv : List (Nat × Value)} {j : Nat} (hj : j < N.2.2.2.2.2.2.2.2.2.1) (hd : decode cL_law pc = .ok (.iaload, 1)) (kk : z_LG N VX VM σX σM (pc + 1) lv (.int (N.2.2.2.2.2.2.2.2.2.2 j) :: st)) : z_LG N VX VM σX σM pc lv (.int (nI j) :: .ref N.2.2.2.2.2.2.2.2.1 :: st) := fun ls H locs hl hP hQ hS => by
  have hL := C.2.1
  have h := kk ls H locs hl hP hQ hS
  have ej : (nI j).toNatClampNeg = j := nI_clamp (by omega)
  refine va_sld C.1.1 C.1.2.1 C.1.2.2.2.2.2.2.1 C.1.2.2.2.2.2.2.2.1 (Nat.not_le.mpr C.1.2.2.2.2.2.2.2.1) hS (vp_in_nI hj (by omega)) hd ?_
  rw [ej]; exact h
/-- script[i + k] -/
theorem lg_arg (C : z_LC N VX VM) {k : Nat} {kk' : Int} (hk : Int32.ofInt kk' = nI k) (hi : i + k < N.2.2.2.2.2.2.2.2.2.1) (d0 : decode cL_law pc = .ok (.aload_n 0, 1)) (d1 : decode cL_law (pc + 1) = .ok (.iload_n 3, 1)) (d2 : decode cL_law (pc + 2) = .ok (.iconst kk', 1)) (d3 : decode cL_law (pc + 3) = .ok (.iadd, 1)) (d4 : decode cL_law (pc + 4) = .ok (.iaload, 1)) (kk : z_LG N VX VM σX σM (pc + 5) (l_lv N VX VM i) (.int (N.2.2.2.2.2.2.2.2.2.2 (i + k)) :: st)) : z_LG N VX VM σX σM pc (l_lv N VX VM i) st := by
  refine lg_aload0 C d0 (lg_iload C d1 (lg_iconst C d2 hk (lg_iadd C d3 ?_)))
  rw [nI_add]
  exact lg_sld C hi d4 kk
theorem lg_ifeq (C : z_LC N VX VM) {lv : List (Nat × Value)} {x : Int32} {off : Int} {tgt : Nat} (hd : decode cL_law pc = .ok (.ifCond .eq off, 3)) (ht : (pc : Int) + off = (tgt : Int)) (kt : x = 0 → z_LG N VX VM σX σM tgt lv st) (kf : ¬ x = 0 → z_LG N VX VM σX σM (pc + 3) lv st) : z_LG N VX VM σX σM pc lv (.int x :: st) := fun ls H locs hl hP hQ hS => lv_if_eq C.1.1 C.1.2.1 hd ht (fun h => kt h ls H locs hl hP hQ hS) (fun h => kf h ls H locs hl hP hQ hS)
theorem lg_goto (C : z_LC N VX VM) {lv : List (Nat × Value)} {off : Int} {tgt : Nat} (hd : decode cL_law pc = .ok (.goto off, 3)) (ht : (pc : Int) + off = (tgt : Int)) (kk : z_LG N VX VM σX σM tgt lv st) : z_LG N VX VM σX σM pc lv st := fun ls H locs hl hP hQ hS => lv_goto C.1.1 C.1.2.1 hd ht (kk ls H locs hl hP hQ hS)
theorem lg_same (C : z_LC N VX VM) {lv : List (Nat × Value)} {r : Int32} {off : Int} {tgt : Nat} (hd : decode cL_law pc = .ok (.if_icmp .eq off, 3)) (ht : (pc : Int) + off = (tgt : Int)) (kt : z_LG N VX VM σX σM tgt lv st) : z_LG N VX VM σX σM pc lv (.int r :: .int r :: st) := fun ls H locs hl hP hQ hS => lv_icmp_eq C.1.1 C.1.2.1 hd ht (fun _ => kt ls H locs hl hP hQ hS) (fun h => absurd rfl h)
theorem lg_F {V : z_V} {s U : State} {H : Heap} {locs : List Loc} (hV : z_ok V) (hA : ∀ q, z_A V q → s.heap.size ≤ q) (hF : V.2.2.2.2 s) (hS : va_S (l_A s) s.heap H locs) (hU : U.heap = H) (hW : s.WarmedH U.vm) : V.2.2.2.2 U := hV.2.2 s U H [] hF ⟨hS.1, fun q h1 _ => hS.2.1 q h1 (Nat.not_le.mpr h1), fun _ h => absurd h List.not_mem_nil⟩ hU hW
theorem lg_keep {V V' : z_V} {τ : z_St} {H H1 : Heap} (hP : va_P V.1 vwCl (z_W V τ) H) (hk : ∀ q : Nat, q < H.size → ¬ z_A V' q → H1[q]? = H[q]?) (hd : ∀ q, z_A V q → ¬ z_A V' q) (hV : z_ok V) : va_P V.1 vwCl (z_W V τ) H1 := hP.kept (fun k x hx => hk x.1 ((hP k x hx).lt) (hd x.1 ((z_dis hV τ).2 k x hx)))
theorem lg_callX (C : z_LC N VX VM) {lv : List (Nat × Value)} {y : MethodName} {bytes : ByteArray} {maxL index n : Nat} {rt : Option FieldType} {ws ws' : List Cond} {rm : Room} {As stk : List Value} {T : Option (Int32 × z_St)} {r : Int32} (hc : z_CtI N.2.1 VX y ws rm (.ref (z_ad VX 0) :: As) σX T) (hT : T = some (r, σ')) (hG : GoodIn wsL_law (wsV RL index RX6 y ws)) (hw : ws = Cond.code y bytes maxL rt :: ws') (hd : y.cls = RX6 ∧ y.cls ≠ "java/lang/invoke/MethodHandle" ∧ y.cls ≠ "java/lang/invoke/VarHandle" ∧ (parseMethodDescriptor y.desc).map (fun d => d.parameters.length) = some n) (hR : rm.frames + 1 ≤ room_1.frames ∧ 8 + (maxL + 11) + rm.locals ≤ room_1.locals) (hrc : rm.cells = 0) (hrs : rm.slots = 0) (hn : As.length = n) (hstk : stk = As.reverse ++ .ref (z_ad VX 0) :: rest) (hrest : (rest.map fun v => v.category).sum ≤ 8) (hdg : decode cL_law pc = .ok (.invokevirtual index, 3)) (kk : z_LG N VX VM σ' σM (pc + 3) lv (.int r :: rest)) : z_LG N VX VM σX σM pc lv stk := fun ls H locs hl hP hQ hS => by
  obtain ⟨hV, hs, hF, hK, hA⟩ := C.2.2.1
  have hcw := cwV (R := room_1) n (lg_hts C) hG hw hrc hrs hd hR
  refine va_calli (va_runV (As := As) (rest := rest) (lg_fix C) (hc _ hT) hcw ⟨z_blind hV _ σX, va_recv hK hP (q := (RX6, TX6, 9)) rfl (z_at σX (z_bnk0 hs)), fun U hU hW => ⟨rfl, by rw [hU]; exact hP, va_K.moved hW.alike hK, lg_F hV hA hF hS hU hW⟩⟩ rfl hn hl.1 hstk (lv_room hrest) hdg ⟨Nat.le_refl _, Nat.le_refl _⟩) hS (fun q _ h => hA q h) hA (fun v u t H1 locs1 ht hvm hw hB hz1 hk1 hS1 => by
    obtain ⟨rfl, rfl⟩ := hw
    rw [ht] at hB
    exact kk ls H1 locs1 hl hB (lg_keep hQ hk1 (fun q h h' => C.2.2.2.2 q h' h) C.2.2.2.1.1) hS1)
theorem lg_callM (C : z_LC N VX VM) {lv : List (Nat × Value)} {y : MethodName} {bytes : ByteArray} {maxL index n : Nat} {rt : Option FieldType} {ws ws' : List Cond} {rm : Room} {As stk : List Value} {T : Option (Int32 × z_St)} {r : Int32} (hc : z_CtI N.2.1 VM y ws rm (.ref (z_ad VM 0) :: As) σM T) (hT : T = some (r, σ')) (hG : GoodIn wsL_law (wsV RL index RX7 y ws)) (hw : ws = Cond.code y bytes maxL rt :: ws') (hd : y.cls = RX7 ∧ y.cls ≠ "java/lang/invoke/MethodHandle" ∧ y.cls ≠ "java/lang/invoke/VarHandle" ∧ (parseMethodDescriptor y.desc).map (fun d => d.parameters.length) = some n) (hR : rm.frames + 1 ≤ room_1.frames ∧ 8 + (maxL + 11) + rm.locals ≤ room_1.locals) (hrc : rm.cells = 0) (hrs : rm.slots = 0) (hn : As.length = n) (hstk : stk = As.reverse ++ .ref (z_ad VM 0) :: rest) (hrest : (rest.map fun v => v.category).sum ≤ 8) (hdg : decode cL_law pc = .ok (.invokevirtual index, 3)) (kk : z_LG N VX VM σX σ' (pc + 3) lv (.int r :: rest)) : z_LG N VX VM σX σM pc lv stk := fun ls H locs hl hP hQ hS => by
  obtain ⟨hV, hs, hF, hK, hA⟩ := C.2.2.2.1
  have hcw := cwV (R := room_1) n (lg_hts C) hG hw hrc hrs hd hR
  refine va_calli (va_runV (As := As) (rest := rest) (lg_fix C) (hc _ hT) hcw ⟨z_blind hV _ σM, va_recv hK hQ (q := (RX7, TX7, 39)) rfl (z_at σM (z_mod0 hs)), fun U hU hW => ⟨rfl, by rw [hU]; exact hQ, va_K.moved hW.alike hK, lg_F hV hA hF hS hU hW⟩⟩ rfl hn hl.1 hstk (lv_room hrest) hdg ⟨Nat.le_refl _, Nat.le_refl _⟩) hS (fun q _ h => hA q h) hA (fun v u t H1 locs1 ht hvm hw hB hz1 hk1 hS1 => by
    obtain ⟨rfl, rfl⟩ := hw
    rw [ht] at hB
    exact kk ls H1 locs1 hl (lg_keep hP hk1 C.2.2.2.2 C.2.2.1.1) hB hS1)

theorem lc_feed (C : z_LC N VX VM) (hi : i + 5 ≤ N.2.2.2.2.2.2.2.2.2.1) (hR : z_Rel σX σM) (kk : ∀ σX σM, z_Rel σX σM → z_LG N VX VM σX σM 1323 (l_lv N VX VM i) []) : z_LG N VX VM σX σM 204 (l_lv N VX VM i) [] := by
  obtain ⟨r, τX, τM, e1, e2, hR2⟩ := sim_feed hR (N.2.2.2.2.2.2.2.2.2.2 (i + 1))
  refine lg_aload1 C dL_law_204 ?_
  refine lg_arg C (k := 1) rfl (by omega) dL_law_205 dL_law_206 dL_law_207 dL_law_208 dL_law_209 ?_
  refine lg_callX (n := 1) (As := [.int (N.2.2.2.2.2.2.2.2.2.2 (i + 1))]) (rest := []) C (c_X6_feed N.2.1 VX C.2.2.1.1 C.2.2.1.2.1 (N.2.2.2.2.2.2.2.2.2.2 (i + 1)) σX) e1 gL_law_X6_feed rfl (by decide +kernel) ⟨by decide, by decide⟩ rfl rfl rfl rfl (Nat.le_of_ble_eq_true rfl) dL_law_210 ?_
  refine lg_aload2 C dL_law_213 ?_
  refine lg_arg C (k := 1) rfl (by omega) dL_law_214 dL_law_215 dL_law_216 dL_law_217 dL_law_218 ?_
  refine lg_callM (n := 1) (As := [.int (N.2.2.2.2.2.2.2.2.2.2 (i + 1))]) (rest := [.int r]) C (c_X7_feed N.2.1 VM C.2.2.2.1.1 C.2.2.2.1.2.1 (N.2.2.2.2.2.2.2.2.2.2 (i + 1)) σM) e2 gL_law_X7_feed rfl (by decide +kernel) ⟨by decide, by decide⟩ rfl rfl rfl rfl (Nat.le_of_ble_eq_true rfl) dL_law_219 ?_
  exact lg_same C (tgt := 1323) dL_law_222 (by decide) (kk τX τM hR2)
theorem lc_end (C : z_LC N VX VM) (hi : i + 5 ≤ N.2.2.2.2.2.2.2.2.2.1) (hR : z_Rel σX σM) (kk : ∀ σX σM, z_Rel σX σM → z_LG N VX VM σX σM 1323 (l_lv N VX VM i) []) : z_LG N VX VM σX σM 227 (l_lv N VX VM i) [] := by
  obtain ⟨r, τX, τM, e1, e2, hR2⟩ := sim_end hR (N.2.2.2.2.2.2.2.2.2.2 (i + 1))
  refine lg_aload1 C dL_law_227 ?_
  refine lg_arg C (k := 1) rfl (by omega) dL_law_228 dL_law_229 dL_law_230 dL_law_231 dL_law_232 ?_
  refine lg_callX (n := 1) (As := [.int (N.2.2.2.2.2.2.2.2.2.2 (i + 1))]) (rest := []) C (c_X6_end N.2.1 VX C.2.2.1.1 C.2.2.1.2.1 (N.2.2.2.2.2.2.2.2.2.2 (i + 1)) σX) e1 gL_law_X6_end rfl (by decide +kernel) ⟨by decide, by decide⟩ rfl rfl rfl rfl (Nat.le_of_ble_eq_true rfl) dL_law_233 ?_
  refine lg_aload2 C dL_law_236 ?_
  refine lg_arg C (k := 1) rfl (by omega) dL_law_237 dL_law_238 dL_law_239 dL_law_240 dL_law_241 ?_
  refine lg_callM (n := 1) (As := [.int (N.2.2.2.2.2.2.2.2.2.2 (i + 1))]) (rest := [.int r]) C (c_X7_end N.2.1 VM C.2.2.2.1.1 C.2.2.2.1.2.1 (N.2.2.2.2.2.2.2.2.2.2 (i + 1)) σM) e2 gL_law_X7_end rfl (by decide +kernel) ⟨by decide, by decide⟩ rfl rfl rfl rfl (Nat.le_of_ble_eq_true rfl) dL_law_242 ?_
  exact lg_same C (tgt := 1323) dL_law_245 (by decide) (kk τX τM hR2)
theorem lc_text (C : z_LC N VX VM) (hi : i + 5 ≤ N.2.2.2.2.2.2.2.2.2.1) (hR : z_Rel σX σM) (kk : ∀ σX σM, z_Rel σX σM → z_LG N VX VM σX σM 1323 (l_lv N VX VM i) []) : z_LG N VX VM σX σM 250 (l_lv N VX VM i) [] := by
  obtain ⟨r, τX, τM, e1, e2, hR2⟩ := sim_text hR
  refine lg_aload1 C dL_law_250 ?_
  refine lg_callX (n := 0) (As := []) (rest := []) C (c_X6_text N.2.1 VX C.2.2.1.1 C.2.2.1.2.1 σX) e1 gL_law_X6_text rfl (by decide +kernel) ⟨by decide, by decide⟩ rfl rfl rfl rfl (Nat.le_of_ble_eq_true rfl) dL_law_251 ?_
  refine lg_aload2 C dL_law_254 ?_
  refine lg_callM (n := 0) (As := []) (rest := [.int r]) C (c_X7_text N.2.1 VM C.2.2.2.1.1 C.2.2.2.1.2.1 σM) e2 gL_law_X7_text rfl (by decide +kernel) ⟨by decide, by decide⟩ rfl rfl rfl rfl (Nat.le_of_ble_eq_true rfl) dL_law_255 ?_
  exact lg_same C (tgt := 1323) dL_law_258 (by decide) (kk τX τM hR2)
theorem lc_fault (C : z_LC N VX VM) (hi : i + 5 ≤ N.2.2.2.2.2.2.2.2.2.1) (hR : z_Rel σX σM) (kk : ∀ σX σM, z_Rel σX σM → z_LG N VX VM σX σM 1323 (l_lv N VX VM i) []) : z_LG N VX VM σX σM 263 (l_lv N VX VM i) [] := by
  obtain ⟨r, τX, τM, e1, e2, hR2⟩ := sim_fault hR
  refine lg_aload1 C dL_law_263 ?_
  refine lg_callX (n := 0) (As := []) (rest := []) C (c_X6_fault N.2.1 VX C.2.2.1.1 C.2.2.1.2.1 σX) e1 gL_law_X6_fault rfl (by decide +kernel) ⟨by decide, by decide⟩ rfl rfl rfl rfl (Nat.le_of_ble_eq_true rfl) dL_law_264 ?_
  refine lg_aload2 C dL_law_267 ?_
  refine lg_callM (n := 0) (As := []) (rest := [.int r]) C (c_X7_fault N.2.1 VM C.2.2.2.1.1 C.2.2.2.1.2.1 σM) e2 gL_law_X7_fault rfl (by decide +kernel) ⟨by decide, by decide⟩ rfl rfl rfl rfl (Nat.le_of_ble_eq_true rfl) dL_law_268 ?_
  exact lg_same C (tgt := 1323) dL_law_271 (by decide) (kk τX τM hR2)
theorem lc_rule (C : z_LC N VX VM) (hi : i + 5 ≤ N.2.2.2.2.2.2.2.2.2.1) (hR : z_Rel σX σM) (kk : ∀ σX σM, z_Rel σX σM → z_LG N VX VM σX σM 1323 (l_lv N VX VM i) []) : z_LG N VX VM σX σM 276 (l_lv N VX VM i) [] := by
  obtain ⟨r, τX, τM, e1, e2, hR2⟩ := sim_rule hR (N.2.2.2.2.2.2.2.2.2.2 (i + 1))
  refine lg_aload1 C dL_law_276 ?_
  refine lg_arg C (k := 1) rfl (by omega) dL_law_277 dL_law_278 dL_law_279 dL_law_280 dL_law_281 ?_
  refine lg_callX (n := 1) (As := [.int (N.2.2.2.2.2.2.2.2.2.2 (i + 1))]) (rest := []) C (c_X6_rule N.2.1 VX C.2.2.1.1 C.2.2.1.2.1 (N.2.2.2.2.2.2.2.2.2.2 (i + 1)) σX) e1 gL_law_X6_rule rfl (by decide +kernel) ⟨by decide, by decide⟩ rfl rfl rfl rfl (Nat.le_of_ble_eq_true rfl) dL_law_282 ?_
  refine lg_aload2 C dL_law_285 ?_
  refine lg_arg C (k := 1) rfl (by omega) dL_law_286 dL_law_287 dL_law_288 dL_law_289 dL_law_290 ?_
  refine lg_callM (n := 1) (As := [.int (N.2.2.2.2.2.2.2.2.2.2 (i + 1))]) (rest := [.int r]) C (c_X7_rule N.2.1 VM C.2.2.2.1.1 C.2.2.2.1.2.1 (N.2.2.2.2.2.2.2.2.2.2 (i + 1)) σM) e2 gL_law_X7_rule rfl (by decide +kernel) ⟨by decide, by decide⟩ rfl rfl rfl rfl (Nat.le_of_ble_eq_true rfl) dL_law_291 ?_
  exact lg_same C (tgt := 1323) dL_law_294 (by decide) (kk τX τM hR2)
theorem lc_one (C : z_LC N VX VM) (hi : i + 5 ≤ N.2.2.2.2.2.2.2.2.2.1) (hR : z_Rel σX σM) (kk : ∀ σX σM, z_Rel σX σM → z_LG N VX VM σX σM 1323 (l_lv N VX VM i) []) : z_LG N VX VM σX σM 299 (l_lv N VX VM i) [] := by
  obtain ⟨r, τX, τM, e1, e2, hR2⟩ := sim_one hR (N.2.2.2.2.2.2.2.2.2.2 (i + 1)) (N.2.2.2.2.2.2.2.2.2.2 (i + 2))
  refine lg_aload1 C dL_law_299 ?_
  refine lg_arg C (k := 1) rfl (by omega) dL_law_300 dL_law_301 dL_law_302 dL_law_303 dL_law_304 ?_
  refine lg_arg C (k := 2) rfl (by omega) dL_law_305 dL_law_306 dL_law_307 dL_law_308 dL_law_309 ?_
  refine lg_callX (n := 2) (As := [.int (N.2.2.2.2.2.2.2.2.2.2 (i + 1)), .int (N.2.2.2.2.2.2.2.2.2.2 (i + 2))]) (rest := []) C (c_X6_one N.2.1 VX C.2.2.1.1 C.2.2.1.2.1 (N.2.2.2.2.2.2.2.2.2.2 (i + 1)) (N.2.2.2.2.2.2.2.2.2.2 (i + 2)) σX) e1 gL_law_X6_one rfl (by decide +kernel) ⟨by decide, by decide⟩ rfl rfl rfl rfl (Nat.le_of_ble_eq_true rfl) dL_law_310 ?_
  refine lg_aload2 C dL_law_313 ?_
  refine lg_arg C (k := 1) rfl (by omega) dL_law_314 dL_law_315 dL_law_316 dL_law_317 dL_law_318 ?_
  refine lg_arg C (k := 2) rfl (by omega) dL_law_319 dL_law_320 dL_law_321 dL_law_322 dL_law_323 ?_
  refine lg_callM (n := 2) (As := [.int (N.2.2.2.2.2.2.2.2.2.2 (i + 1)), .int (N.2.2.2.2.2.2.2.2.2.2 (i + 2))]) (rest := [.int r]) C (c_X7_one N.2.1 VM C.2.2.2.1.1 C.2.2.2.1.2.1 (N.2.2.2.2.2.2.2.2.2.2 (i + 1)) (N.2.2.2.2.2.2.2.2.2.2 (i + 2)) σM) e2 gL_law_X7_one rfl (by decide +kernel) ⟨by decide, by decide⟩ rfl rfl rfl rfl (Nat.le_of_ble_eq_true rfl) dL_law_324 ?_
  exact lg_same C (tgt := 1323) dL_law_327 (by decide) (kk τX τM hR2)
theorem lc_trip (C : z_LC N VX VM) (hi : i + 5 ≤ N.2.2.2.2.2.2.2.2.2.1) (hR : z_Rel σX σM) (kk : ∀ σX σM, z_Rel σX σM → z_LG N VX VM σX σM 1323 (l_lv N VX VM i) []) : z_LG N VX VM σX σM 332 (l_lv N VX VM i) [] := by
  obtain ⟨r, τX, τM, e1, e2, hR2⟩ := sim_trip hR (N.2.2.2.2.2.2.2.2.2.2 (i + 1)) (N.2.2.2.2.2.2.2.2.2.2 (i + 2))
  refine lg_aload1 C dL_law_332 ?_
  refine lg_arg C (k := 1) rfl (by omega) dL_law_333 dL_law_334 dL_law_335 dL_law_336 dL_law_337 ?_
  refine lg_arg C (k := 2) rfl (by omega) dL_law_338 dL_law_339 dL_law_340 dL_law_341 dL_law_342 ?_
  refine lg_callX (n := 2) (As := [.int (N.2.2.2.2.2.2.2.2.2.2 (i + 1)), .int (N.2.2.2.2.2.2.2.2.2.2 (i + 2))]) (rest := []) C (c_X6_trip N.2.1 VX C.2.2.1.1 C.2.2.1.2.1 (N.2.2.2.2.2.2.2.2.2.2 (i + 1)) (N.2.2.2.2.2.2.2.2.2.2 (i + 2)) σX) e1 gL_law_X6_trip rfl (by decide +kernel) ⟨by decide, by decide⟩ rfl rfl rfl rfl (Nat.le_of_ble_eq_true rfl) dL_law_343 ?_
  refine lg_aload2 C dL_law_346 ?_
  refine lg_arg C (k := 1) rfl (by omega) dL_law_347 dL_law_348 dL_law_349 dL_law_350 dL_law_351 ?_
  refine lg_arg C (k := 2) rfl (by omega) dL_law_352 dL_law_353 dL_law_354 dL_law_355 dL_law_356 ?_
  refine lg_callM (n := 2) (As := [.int (N.2.2.2.2.2.2.2.2.2.2 (i + 1)), .int (N.2.2.2.2.2.2.2.2.2.2 (i + 2))]) (rest := [.int r]) C (c_X7_trip N.2.1 VM C.2.2.2.1.1 C.2.2.2.1.2.1 (N.2.2.2.2.2.2.2.2.2.2 (i + 1)) (N.2.2.2.2.2.2.2.2.2.2 (i + 2)) σM) e2 gL_law_X7_trip rfl (by decide +kernel) ⟨by decide, by decide⟩ rfl rfl rfl rfl (Nat.le_of_ble_eq_true rfl) dL_law_357 ?_
  exact lg_same C (tgt := 1323) dL_law_360 (by decide) (kk τX τM hR2)
theorem lc_asked (C : z_LC N VX VM) (hi : i + 5 ≤ N.2.2.2.2.2.2.2.2.2.1) (hR : z_Rel σX σM) (kk : ∀ σX σM, z_Rel σX σM → z_LG N VX VM σX σM 1323 (l_lv N VX VM i) []) : z_LG N VX VM σX σM 365 (l_lv N VX VM i) [] := by
  obtain ⟨r, τX, τM, e1, e2, hR2⟩ := sim_asked hR (N.2.2.2.2.2.2.2.2.2.2 (i + 1)) (N.2.2.2.2.2.2.2.2.2.2 (i + 2))
  refine lg_aload1 C dL_law_365 ?_
  refine lg_arg C (k := 1) rfl (by omega) dL_law_366 dL_law_367 dL_law_368 dL_law_369 dL_law_370 ?_
  refine lg_arg C (k := 2) rfl (by omega) dL_law_371 dL_law_372 dL_law_373 dL_law_374 dL_law_375 ?_
  refine lg_callX (n := 2) (As := [.int (N.2.2.2.2.2.2.2.2.2.2 (i + 1)), .int (N.2.2.2.2.2.2.2.2.2.2 (i + 2))]) (rest := []) C (c_X6_asked N.2.1 VX C.2.2.1.1 C.2.2.1.2.1 (N.2.2.2.2.2.2.2.2.2.2 (i + 1)) (N.2.2.2.2.2.2.2.2.2.2 (i + 2)) σX) e1 gL_law_X6_asked rfl (by decide +kernel) ⟨by decide, by decide⟩ rfl rfl rfl rfl (Nat.le_of_ble_eq_true rfl) dL_law_376 ?_
  refine lg_aload2 C dL_law_379 ?_
  refine lg_arg C (k := 1) rfl (by omega) dL_law_380 dL_law_381 dL_law_382 dL_law_383 dL_law_384 ?_
  refine lg_arg C (k := 2) rfl (by omega) dL_law_385 dL_law_386 dL_law_387 dL_law_388 dL_law_389 ?_
  refine lg_callM (n := 2) (As := [.int (N.2.2.2.2.2.2.2.2.2.2 (i + 1)), .int (N.2.2.2.2.2.2.2.2.2.2 (i + 2))]) (rest := [.int r]) C (c_X7_asked N.2.1 VM C.2.2.2.1.1 C.2.2.2.1.2.1 (N.2.2.2.2.2.2.2.2.2.2 (i + 1)) (N.2.2.2.2.2.2.2.2.2.2 (i + 2)) σM) e2 gL_law_X7_asked rfl (by decide +kernel) ⟨by decide, by decide⟩ rfl rfl rfl rfl (Nat.le_of_ble_eq_true rfl) dL_law_390 ?_
  exact lg_same C (tgt := 1323) dL_law_393 (by decide) (kk τX τM hR2)
theorem lc_deposit (C : z_LC N VX VM) (hi : i + 5 ≤ N.2.2.2.2.2.2.2.2.2.1) (hR : z_Rel σX σM) (kk : ∀ σX σM, z_Rel σX σM → z_LG N VX VM σX σM 1323 (l_lv N VX VM i) []) : z_LG N VX VM σX σM 398 (l_lv N VX VM i) [] := by
  by_cases hb : (N.2.2.2.2.2.2.2.2.2.2 (i + 2)) = 0
  · obtain ⟨r, τX, τM, e1, e2, hR2⟩ := sim_deposit hR (N.2.2.2.2.2.2.2.2.2.2 (i + 1)) 0
    refine lg_aload1 C dL_law_398 ?_
    refine lg_arg C (k := 1) rfl (by omega) dL_law_399 dL_law_400 dL_law_401 dL_law_402 dL_law_403 ?_
    refine lg_arg C (k := 2) rfl (by omega) dL_law_404 dL_law_405 dL_law_406 dL_law_407 dL_law_408 ?_
    refine lg_ifeq C (tgt := 416) dL_law_409 (by decide) (fun _ => ?_) (fun h => absurd hb h)
    refine lg_iconst C (v := 0) dL_law_416 (by decide) ?_
    refine lg_callX (n := 2) (As := [.int (N.2.2.2.2.2.2.2.2.2.2 (i + 1)), .int 0]) (rest := []) C (c_X6_deposit N.2.1 VX C.2.2.1.1 C.2.2.1.2.1 (N.2.2.2.2.2.2.2.2.2.2 (i + 1)) 0 σX) e1 gL_law_X6_deposit rfl (by decide +kernel) ⟨by decide, by decide⟩ rfl rfl rfl rfl (Nat.le_of_ble_eq_true rfl) dL_law_417 ?_
    refine lg_aload2 C dL_law_420 ?_
    refine lg_arg C (k := 1) rfl (by omega) dL_law_421 dL_law_422 dL_law_423 dL_law_424 dL_law_425 ?_
    refine lg_arg C (k := 2) rfl (by omega) dL_law_426 dL_law_427 dL_law_428 dL_law_429 dL_law_430 ?_
    refine lg_ifeq C (tgt := 438) dL_law_431 (by decide) (fun _ => ?_) (fun h => absurd hb h)
    refine lg_iconst C (v := 0) dL_law_438 (by decide) ?_
    refine lg_callM (n := 2) (As := [.int (N.2.2.2.2.2.2.2.2.2.2 (i + 1)), .int 0]) (rest := [.int r]) C (c_X7_deposit N.2.1 VM C.2.2.2.1.1 C.2.2.2.1.2.1 (N.2.2.2.2.2.2.2.2.2.2 (i + 1)) 0 σM) e2 gL_law_X7_deposit rfl (by decide +kernel) ⟨by decide, by decide⟩ rfl rfl rfl rfl (Nat.le_of_ble_eq_true rfl) dL_law_439 ?_
    exact lg_same C (tgt := 1323) dL_law_442 (by decide) (kk τX τM hR2)
  · obtain ⟨r, τX, τM, e1, e2, hR2⟩ := sim_deposit hR (N.2.2.2.2.2.2.2.2.2.2 (i + 1)) 1
    refine lg_aload1 C dL_law_398 ?_
    refine lg_arg C (k := 1) rfl (by omega) dL_law_399 dL_law_400 dL_law_401 dL_law_402 dL_law_403 ?_
    refine lg_arg C (k := 2) rfl (by omega) dL_law_404 dL_law_405 dL_law_406 dL_law_407 dL_law_408 ?_
    refine lg_ifeq C (tgt := 416) dL_law_409 (by decide) (fun h => absurd h hb) (fun _ => ?_)
    refine lg_iconst C (v := 1) dL_law_412 (by decide) ?_
    refine lg_goto C (tgt := 417) dL_law_413 (by decide) ?_
    refine lg_callX (n := 2) (As := [.int (N.2.2.2.2.2.2.2.2.2.2 (i + 1)), .int 1]) (rest := []) C (c_X6_deposit N.2.1 VX C.2.2.1.1 C.2.2.1.2.1 (N.2.2.2.2.2.2.2.2.2.2 (i + 1)) 1 σX) e1 gL_law_X6_deposit rfl (by decide +kernel) ⟨by decide, by decide⟩ rfl rfl rfl rfl (Nat.le_of_ble_eq_true rfl) dL_law_417 ?_
    refine lg_aload2 C dL_law_420 ?_
    refine lg_arg C (k := 1) rfl (by omega) dL_law_421 dL_law_422 dL_law_423 dL_law_424 dL_law_425 ?_
    refine lg_arg C (k := 2) rfl (by omega) dL_law_426 dL_law_427 dL_law_428 dL_law_429 dL_law_430 ?_
    refine lg_ifeq C (tgt := 438) dL_law_431 (by decide) (fun h => absurd h hb) (fun _ => ?_)
    refine lg_iconst C (v := 1) dL_law_434 (by decide) ?_
    refine lg_goto C (tgt := 439) dL_law_435 (by decide) ?_
    refine lg_callM (n := 2) (As := [.int (N.2.2.2.2.2.2.2.2.2.2 (i + 1)), .int 1]) (rest := [.int r]) C (c_X7_deposit N.2.1 VM C.2.2.2.1.1 C.2.2.2.1.2.1 (N.2.2.2.2.2.2.2.2.2.2 (i + 1)) 1 σM) e2 gL_law_X7_deposit rfl (by decide +kernel) ⟨by decide, by decide⟩ rfl rfl rfl rfl (Nat.le_of_ble_eq_true rfl) dL_law_439 ?_
    exact lg_same C (tgt := 1323) dL_law_442 (by decide) (kk τX τM hR2)
theorem lc_give (C : z_LC N VX VM) (hi : i + 5 ≤ N.2.2.2.2.2.2.2.2.2.1) (hR : z_Rel σX σM) (kk : ∀ σX σM, z_Rel σX σM → z_LG N VX VM σX σM 1323 (l_lv N VX VM i) []) : z_LG N VX VM σX σM 447 (l_lv N VX VM i) [] := by
  obtain ⟨r, τX, τM, e1, e2, hR2⟩ := sim_give hR (N.2.2.2.2.2.2.2.2.2.2 (i + 1)) (N.2.2.2.2.2.2.2.2.2.2 (i + 2)) (N.2.2.2.2.2.2.2.2.2.2 (i + 3))
  refine lg_aload1 C dL_law_447 ?_
  refine lg_arg C (k := 1) rfl (by omega) dL_law_448 dL_law_449 dL_law_450 dL_law_451 dL_law_452 ?_
  refine lg_arg C (k := 2) rfl (by omega) dL_law_453 dL_law_454 dL_law_455 dL_law_456 dL_law_457 ?_
  refine lg_arg C (k := 3) rfl (by omega) dL_law_458 dL_law_459 dL_law_460 dL_law_461 dL_law_462 ?_
  refine lg_callX (n := 3) (As := [.int (N.2.2.2.2.2.2.2.2.2.2 (i + 1)), .int (N.2.2.2.2.2.2.2.2.2.2 (i + 2)), .int (N.2.2.2.2.2.2.2.2.2.2 (i + 3))]) (rest := []) C (c_X6_give N.2.1 VX C.2.2.1.1 C.2.2.1.2.1 (N.2.2.2.2.2.2.2.2.2.2 (i + 1)) (N.2.2.2.2.2.2.2.2.2.2 (i + 2)) (N.2.2.2.2.2.2.2.2.2.2 (i + 3)) σX) e1 gL_law_X6_give rfl (by decide +kernel) ⟨by decide, by decide⟩ rfl rfl rfl rfl (Nat.le_of_ble_eq_true rfl) dL_law_463 ?_
  refine lg_aload2 C dL_law_466 ?_
  refine lg_arg C (k := 1) rfl (by omega) dL_law_467 dL_law_468 dL_law_469 dL_law_470 dL_law_471 ?_
  refine lg_arg C (k := 2) rfl (by omega) dL_law_472 dL_law_473 dL_law_474 dL_law_475 dL_law_476 ?_
  refine lg_arg C (k := 3) rfl (by omega) dL_law_477 dL_law_478 dL_law_479 dL_law_480 dL_law_481 ?_
  refine lg_callM (n := 3) (As := [.int (N.2.2.2.2.2.2.2.2.2.2 (i + 1)), .int (N.2.2.2.2.2.2.2.2.2.2 (i + 2)), .int (N.2.2.2.2.2.2.2.2.2.2 (i + 3))]) (rest := [.int r]) C (c_X7_give N.2.1 VM C.2.2.2.1.1 C.2.2.2.1.2.1 (N.2.2.2.2.2.2.2.2.2.2 (i + 1)) (N.2.2.2.2.2.2.2.2.2.2 (i + 2)) (N.2.2.2.2.2.2.2.2.2.2 (i + 3)) σM) e2 gL_law_X7_give rfl (by decide +kernel) ⟨by decide, by decide⟩ rfl rfl rfl rfl (Nat.le_of_ble_eq_true rfl) dL_law_482 ?_
  exact lg_same C (tgt := 1323) dL_law_485 (by decide) (kk τX τM hR2)
theorem lc_draw (C : z_LC N VX VM) (hi : i + 5 ≤ N.2.2.2.2.2.2.2.2.2.1) (hR : z_Rel σX σM) (kk : ∀ σX σM, z_Rel σX σM → z_LG N VX VM σX σM 1323 (l_lv N VX VM i) []) : z_LG N VX VM σX σM 490 (l_lv N VX VM i) [] := by
  obtain ⟨r, τX, τM, e1, e2, hR2⟩ := sim_draw hR (N.2.2.2.2.2.2.2.2.2.2 (i + 1)) (N.2.2.2.2.2.2.2.2.2.2 (i + 2))
  refine lg_aload1 C dL_law_490 ?_
  refine lg_arg C (k := 1) rfl (by omega) dL_law_491 dL_law_492 dL_law_493 dL_law_494 dL_law_495 ?_
  refine lg_arg C (k := 2) rfl (by omega) dL_law_496 dL_law_497 dL_law_498 dL_law_499 dL_law_500 ?_
  refine lg_callX (n := 2) (As := [.int (N.2.2.2.2.2.2.2.2.2.2 (i + 1)), .int (N.2.2.2.2.2.2.2.2.2.2 (i + 2))]) (rest := []) C (c_X6_draw N.2.1 VX C.2.2.1.1 C.2.2.1.2.1 (N.2.2.2.2.2.2.2.2.2.2 (i + 1)) (N.2.2.2.2.2.2.2.2.2.2 (i + 2)) σX) e1 gL_law_X6_draw rfl (by decide +kernel) ⟨by decide, by decide⟩ rfl rfl rfl rfl (Nat.le_of_ble_eq_true rfl) dL_law_501 ?_
  refine lg_aload2 C dL_law_504 ?_
  refine lg_arg C (k := 1) rfl (by omega) dL_law_505 dL_law_506 dL_law_507 dL_law_508 dL_law_509 ?_
  refine lg_arg C (k := 2) rfl (by omega) dL_law_510 dL_law_511 dL_law_512 dL_law_513 dL_law_514 ?_
  refine lg_callM (n := 2) (As := [.int (N.2.2.2.2.2.2.2.2.2.2 (i + 1)), .int (N.2.2.2.2.2.2.2.2.2.2 (i + 2))]) (rest := [.int r]) C (c_X7_draw N.2.1 VM C.2.2.2.1.1 C.2.2.2.1.2.1 (N.2.2.2.2.2.2.2.2.2.2 (i + 1)) (N.2.2.2.2.2.2.2.2.2.2 (i + 2)) σM) e2 gL_law_X7_draw rfl (by decide +kernel) ⟨by decide, by decide⟩ rfl rfl rfl rfl (Nat.le_of_ble_eq_true rfl) dL_law_515 ?_
  exact lg_same C (tgt := 1323) dL_law_518 (by decide) (kk τX τM hR2)
theorem lc_rumour (C : z_LC N VX VM) (hi : i + 5 ≤ N.2.2.2.2.2.2.2.2.2.1) (hR : z_Rel σX σM) (kk : ∀ σX σM, z_Rel σX σM → z_LG N VX VM σX σM 1323 (l_lv N VX VM i) []) : z_LG N VX VM σX σM 523 (l_lv N VX VM i) [] := by
  obtain ⟨r, τX, τM, e1, e2, hR2⟩ := sim_rumour hR (N.2.2.2.2.2.2.2.2.2.2 (i + 1))
  refine lg_aload1 C dL_law_523 ?_
  refine lg_arg C (k := 1) rfl (by omega) dL_law_524 dL_law_525 dL_law_526 dL_law_527 dL_law_528 ?_
  refine lg_callX (n := 1) (As := [.int (N.2.2.2.2.2.2.2.2.2.2 (i + 1))]) (rest := []) C (c_X6_rumour N.2.1 VX C.2.2.1.1 C.2.2.1.2.1 (N.2.2.2.2.2.2.2.2.2.2 (i + 1)) σX) e1 gL_law_X6_rumour rfl (by decide +kernel) ⟨by decide, by decide⟩ rfl rfl rfl rfl (Nat.le_of_ble_eq_true rfl) dL_law_529 ?_
  refine lg_aload2 C dL_law_532 ?_
  refine lg_arg C (k := 1) rfl (by omega) dL_law_533 dL_law_534 dL_law_535 dL_law_536 dL_law_537 ?_
  refine lg_callM (n := 1) (As := [.int (N.2.2.2.2.2.2.2.2.2.2 (i + 1))]) (rest := [.int r]) C (c_X7_rumour N.2.1 VM C.2.2.2.1.1 C.2.2.2.1.2.1 (N.2.2.2.2.2.2.2.2.2.2 (i + 1)) σM) e2 gL_law_X7_rumour rfl (by decide +kernel) ⟨by decide, by decide⟩ rfl rfl rfl rfl (Nat.le_of_ble_eq_true rfl) dL_law_538 ?_
  exact lg_same C (tgt := 1323) dL_law_541 (by decide) (kk τX τM hR2)
theorem lc_law (C : z_LC N VX VM) (hi : i + 5 ≤ N.2.2.2.2.2.2.2.2.2.1) (hR : z_Rel σX σM) (kk : ∀ σX σM, z_Rel σX σM → z_LG N VX VM σX σM 1323 (l_lv N VX VM i) []) : z_LG N VX VM σX σM 546 (l_lv N VX VM i) [] := by
  obtain ⟨r, τX, τM, e1, e2, hR2⟩ := sim_law hR (N.2.2.2.2.2.2.2.2.2.2 (i + 1)) (N.2.2.2.2.2.2.2.2.2.2 (i + 2))
  refine lg_aload1 C dL_law_546 ?_
  refine lg_arg C (k := 1) rfl (by omega) dL_law_547 dL_law_548 dL_law_549 dL_law_550 dL_law_551 ?_
  refine lg_arg C (k := 2) rfl (by omega) dL_law_552 dL_law_553 dL_law_554 dL_law_555 dL_law_556 ?_
  refine lg_callX (n := 2) (As := [.int (N.2.2.2.2.2.2.2.2.2.2 (i + 1)), .int (N.2.2.2.2.2.2.2.2.2.2 (i + 2))]) (rest := []) C (c_X6_law N.2.1 VX C.2.2.1.1 C.2.2.1.2.1 (N.2.2.2.2.2.2.2.2.2.2 (i + 1)) (N.2.2.2.2.2.2.2.2.2.2 (i + 2)) σX) e1 gL_law_X6_law rfl (by decide +kernel) ⟨by decide, by decide⟩ rfl rfl rfl rfl (Nat.le_of_ble_eq_true rfl) dL_law_557 ?_
  refine lg_aload2 C dL_law_560 ?_
  refine lg_arg C (k := 1) rfl (by omega) dL_law_561 dL_law_562 dL_law_563 dL_law_564 dL_law_565 ?_
  refine lg_arg C (k := 2) rfl (by omega) dL_law_566 dL_law_567 dL_law_568 dL_law_569 dL_law_570 ?_
  refine lg_callM (n := 2) (As := [.int (N.2.2.2.2.2.2.2.2.2.2 (i + 1)), .int (N.2.2.2.2.2.2.2.2.2.2 (i + 2))]) (rest := [.int r]) C (c_X7_law N.2.1 VM C.2.2.2.1.1 C.2.2.2.1.2.1 (N.2.2.2.2.2.2.2.2.2.2 (i + 1)) (N.2.2.2.2.2.2.2.2.2.2 (i + 2)) σM) e2 gL_law_X7_law rfl (by decide +kernel) ⟨by decide, by decide⟩ rfl rfl rfl rfl (Nat.le_of_ble_eq_true rfl) dL_law_571 ?_
  exact lg_same C (tgt := 1323) dL_law_574 (by decide) (kk τX τM hR2)
theorem lc_teach (C : z_LC N VX VM) (hi : i + 5 ≤ N.2.2.2.2.2.2.2.2.2.1) (hR : z_Rel σX σM) (kk : ∀ σX σM, z_Rel σX σM → z_LG N VX VM σX σM 1323 (l_lv N VX VM i) []) : z_LG N VX VM σX σM 579 (l_lv N VX VM i) [] := by
  obtain ⟨r, τX, τM, e1, e2, hR2⟩ := sim_teach hR (N.2.2.2.2.2.2.2.2.2.2 (i + 1)) (N.2.2.2.2.2.2.2.2.2.2 (i + 2))
  refine lg_aload1 C dL_law_579 ?_
  refine lg_arg C (k := 1) rfl (by omega) dL_law_580 dL_law_581 dL_law_582 dL_law_583 dL_law_584 ?_
  refine lg_arg C (k := 2) rfl (by omega) dL_law_585 dL_law_586 dL_law_587 dL_law_588 dL_law_589 ?_
  refine lg_callX (n := 2) (As := [.int (N.2.2.2.2.2.2.2.2.2.2 (i + 1)), .int (N.2.2.2.2.2.2.2.2.2.2 (i + 2))]) (rest := []) C (c_X6_teach N.2.1 VX C.2.2.1.1 C.2.2.1.2.1 (N.2.2.2.2.2.2.2.2.2.2 (i + 1)) (N.2.2.2.2.2.2.2.2.2.2 (i + 2)) σX) e1 gL_law_X6_teach rfl (by decide +kernel) ⟨by decide, by decide⟩ rfl rfl rfl rfl (Nat.le_of_ble_eq_true rfl) dL_law_590 ?_
  refine lg_aload2 C dL_law_593 ?_
  refine lg_arg C (k := 1) rfl (by omega) dL_law_594 dL_law_595 dL_law_596 dL_law_597 dL_law_598 ?_
  refine lg_arg C (k := 2) rfl (by omega) dL_law_599 dL_law_600 dL_law_601 dL_law_602 dL_law_603 ?_
  refine lg_callM (n := 2) (As := [.int (N.2.2.2.2.2.2.2.2.2.2 (i + 1)), .int (N.2.2.2.2.2.2.2.2.2.2 (i + 2))]) (rest := [.int r]) C (c_X7_teach N.2.1 VM C.2.2.2.1.1 C.2.2.2.1.2.1 (N.2.2.2.2.2.2.2.2.2.2 (i + 1)) (N.2.2.2.2.2.2.2.2.2.2 (i + 2)) σM) e2 gL_law_X7_teach rfl (by decide +kernel) ⟨by decide, by decide⟩ rfl rfl rfl rfl (Nat.le_of_ble_eq_true rfl) dL_law_604 ?_
  exact lg_same C (tgt := 1323) dL_law_607 (by decide) (kk τX τM hR2)
theorem lc_go (C : z_LC N VX VM) (hi : i + 5 ≤ N.2.2.2.2.2.2.2.2.2.1) (hR : z_Rel σX σM) (kk : ∀ σX σM, z_Rel σX σM → z_LG N VX VM σX σM 1323 (l_lv N VX VM i) []) : z_LG N VX VM σX σM 612 (l_lv N VX VM i) [] := by
  obtain ⟨r, τX, τM, e1, e2, hR2⟩ := sim_go hR (N.2.2.2.2.2.2.2.2.2.2 (i + 1))
  refine lg_aload1 C dL_law_612 ?_
  refine lg_arg C (k := 1) rfl (by omega) dL_law_613 dL_law_614 dL_law_615 dL_law_616 dL_law_617 ?_
  refine lg_callX (n := 1) (As := [.int (N.2.2.2.2.2.2.2.2.2.2 (i + 1))]) (rest := []) C (c_X6_go N.2.1 VX C.2.2.1.1 C.2.2.1.2.1 (N.2.2.2.2.2.2.2.2.2.2 (i + 1)) σX) e1 gL_law_X6_go rfl (by decide +kernel) ⟨by decide, by decide⟩ rfl rfl rfl rfl (Nat.le_of_ble_eq_true rfl) dL_law_618 ?_
  refine lg_aload2 C dL_law_621 ?_
  refine lg_arg C (k := 1) rfl (by omega) dL_law_622 dL_law_623 dL_law_624 dL_law_625 dL_law_626 ?_
  refine lg_callM (n := 1) (As := [.int (N.2.2.2.2.2.2.2.2.2.2 (i + 1))]) (rest := [.int r]) C (c_X7_go N.2.1 VM C.2.2.2.1.1 C.2.2.2.1.2.1 (N.2.2.2.2.2.2.2.2.2.2 (i + 1)) σM) e2 gL_law_X7_go rfl (by decide +kernel) ⟨by decide, by decide⟩ rfl rfl rfl rfl (Nat.le_of_ble_eq_true rfl) dL_law_627 ?_
  exact lg_same C (tgt := 1323) dL_law_630 (by decide) (kk τX τM hR2)
theorem lc_ahead (C : z_LC N VX VM) (hi : i + 5 ≤ N.2.2.2.2.2.2.2.2.2.1) (hR : z_Rel σX σM) (kk : ∀ σX σM, z_Rel σX σM → z_LG N VX VM σX σM 1323 (l_lv N VX VM i) []) : z_LG N VX VM σX σM 635 (l_lv N VX VM i) [] := by
  obtain ⟨r, τX, τM, e1, e2, hR2⟩ := sim_ahead hR (N.2.2.2.2.2.2.2.2.2.2 (i + 1)) (N.2.2.2.2.2.2.2.2.2.2 (i + 2)) (N.2.2.2.2.2.2.2.2.2.2 (i + 3))
  refine lg_aload1 C dL_law_635 ?_
  refine lg_arg C (k := 1) rfl (by omega) dL_law_636 dL_law_637 dL_law_638 dL_law_639 dL_law_640 ?_
  refine lg_arg C (k := 2) rfl (by omega) dL_law_641 dL_law_642 dL_law_643 dL_law_644 dL_law_645 ?_
  refine lg_arg C (k := 3) rfl (by omega) dL_law_646 dL_law_647 dL_law_648 dL_law_649 dL_law_650 ?_
  refine lg_callX (n := 3) (As := [.int (N.2.2.2.2.2.2.2.2.2.2 (i + 1)), .int (N.2.2.2.2.2.2.2.2.2.2 (i + 2)), .int (N.2.2.2.2.2.2.2.2.2.2 (i + 3))]) (rest := []) C (c_X6_ahead N.2.1 VX C.2.2.1.1 C.2.2.1.2.1 (N.2.2.2.2.2.2.2.2.2.2 (i + 1)) (N.2.2.2.2.2.2.2.2.2.2 (i + 2)) (N.2.2.2.2.2.2.2.2.2.2 (i + 3)) σX) e1 gL_law_X6_ahead rfl (by decide +kernel) ⟨by decide, by decide⟩ rfl rfl rfl rfl (Nat.le_of_ble_eq_true rfl) dL_law_651 ?_
  refine lg_aload2 C dL_law_654 ?_
  refine lg_arg C (k := 1) rfl (by omega) dL_law_655 dL_law_656 dL_law_657 dL_law_658 dL_law_659 ?_
  refine lg_arg C (k := 2) rfl (by omega) dL_law_660 dL_law_661 dL_law_662 dL_law_663 dL_law_664 ?_
  refine lg_arg C (k := 3) rfl (by omega) dL_law_665 dL_law_666 dL_law_667 dL_law_668 dL_law_669 ?_
  refine lg_callM (n := 3) (As := [.int (N.2.2.2.2.2.2.2.2.2.2 (i + 1)), .int (N.2.2.2.2.2.2.2.2.2.2 (i + 2)), .int (N.2.2.2.2.2.2.2.2.2.2 (i + 3))]) (rest := [.int r]) C (c_X7_ahead N.2.1 VM C.2.2.2.1.1 C.2.2.2.1.2.1 (N.2.2.2.2.2.2.2.2.2.2 (i + 1)) (N.2.2.2.2.2.2.2.2.2.2 (i + 2)) (N.2.2.2.2.2.2.2.2.2.2 (i + 3)) σM) e2 gL_law_X7_ahead rfl (by decide +kernel) ⟨by decide, by decide⟩ rfl rfl rfl rfl (Nat.le_of_ble_eq_true rfl) dL_law_670 ?_
  exact lg_same C (tgt := 1323) dL_law_673 (by decide) (kk τX τM hR2)
theorem lc_first (C : z_LC N VX VM) (hi : i + 5 ≤ N.2.2.2.2.2.2.2.2.2.1) (hR : z_Rel σX σM) (kk : ∀ σX σM, z_Rel σX σM → z_LG N VX VM σX σM 1323 (l_lv N VX VM i) []) : z_LG N VX VM σX σM 678 (l_lv N VX VM i) [] := by
  obtain ⟨r, τX, τM, e1, e2, hR2⟩ := sim_first hR (N.2.2.2.2.2.2.2.2.2.2 (i + 1))
  refine lg_aload1 C dL_law_678 ?_
  refine lg_arg C (k := 1) rfl (by omega) dL_law_679 dL_law_680 dL_law_681 dL_law_682 dL_law_683 ?_
  refine lg_callX (n := 1) (As := [.int (N.2.2.2.2.2.2.2.2.2.2 (i + 1))]) (rest := []) C (c_X6_first N.2.1 VX C.2.2.1.1 C.2.2.1.2.1 (N.2.2.2.2.2.2.2.2.2.2 (i + 1)) σX) e1 gL_law_X6_first rfl (by decide +kernel) ⟨by decide, by decide⟩ rfl rfl rfl rfl (Nat.le_of_ble_eq_true rfl) dL_law_684 ?_
  refine lg_aload2 C dL_law_687 ?_
  refine lg_arg C (k := 1) rfl (by omega) dL_law_688 dL_law_689 dL_law_690 dL_law_691 dL_law_692 ?_
  refine lg_callM (n := 1) (As := [.int (N.2.2.2.2.2.2.2.2.2.2 (i + 1))]) (rest := [.int r]) C (c_X7_first N.2.1 VM C.2.2.2.1.1 C.2.2.2.1.2.1 (N.2.2.2.2.2.2.2.2.2.2 (i + 1)) σM) e2 gL_law_X7_first rfl (by decide +kernel) ⟨by decide, by decide⟩ rfl rfl rfl rfl (Nat.le_of_ble_eq_true rfl) dL_law_693 ?_
  exact lg_same C (tgt := 1323) dL_law_696 (by decide) (kk τX τM hR2)
theorem lc_modest (C : z_LC N VX VM) (hi : i + 5 ≤ N.2.2.2.2.2.2.2.2.2.1) (hR : z_Rel σX σM) (kk : ∀ σX σM, z_Rel σX σM → z_LG N VX VM σX σM 1323 (l_lv N VX VM i) []) : z_LG N VX VM σX σM 701 (l_lv N VX VM i) [] := by
  obtain ⟨r, τX, τM, e1, e2, hR2⟩ := sim_modest hR
  refine lg_aload1 C dL_law_701 ?_
  refine lg_callX (n := 0) (As := []) (rest := []) C (c_X6_modest N.2.1 VX C.2.2.1.1 C.2.2.1.2.1 σX) e1 gL_law_X6_modest rfl (by decide +kernel) ⟨by decide, by decide⟩ rfl rfl rfl rfl (Nat.le_of_ble_eq_true rfl) dL_law_702 ?_
  refine lg_aload2 C dL_law_705 ?_
  refine lg_callM (n := 0) (As := []) (rest := [.int r]) C (c_X7_modest N.2.1 VM C.2.2.2.1.1 C.2.2.2.1.2.1 σM) e2 gL_law_X7_modest rfl (by decide +kernel) ⟨by decide, by decide⟩ rfl rfl rfl rfl (Nat.le_of_ble_eq_true rfl) dL_law_706 ?_
  exact lg_same C (tgt := 1323) dL_law_709 (by decide) (kk τX τM hR2)
theorem lc_plan (C : z_LC N VX VM) (hi : i + 5 ≤ N.2.2.2.2.2.2.2.2.2.1) (hR : z_Rel σX σM) (kk : ∀ σX σM, z_Rel σX σM → z_LG N VX VM σX σM 1323 (l_lv N VX VM i) []) : z_LG N VX VM σX σM 714 (l_lv N VX VM i) [] := by
  obtain ⟨r, τX, τM, e1, e2, hR2⟩ := sim_plan hR (N.2.2.2.2.2.2.2.2.2.2 (i + 1))
  refine lg_aload1 C dL_law_714 ?_
  refine lg_arg C (k := 1) rfl (by omega) dL_law_715 dL_law_716 dL_law_717 dL_law_718 dL_law_719 ?_
  refine lg_callX (n := 1) (As := [.int (N.2.2.2.2.2.2.2.2.2.2 (i + 1))]) (rest := []) C (c_X6_plan N.2.1 VX C.2.2.1.1 C.2.2.1.2.1 (N.2.2.2.2.2.2.2.2.2.2 (i + 1)) σX) e1 gL_law_X6_plan rfl (by decide +kernel) ⟨by decide, by decide⟩ rfl rfl rfl rfl (Nat.le_of_ble_eq_true rfl) dL_law_720 ?_
  refine lg_aload2 C dL_law_723 ?_
  refine lg_arg C (k := 1) rfl (by omega) dL_law_724 dL_law_725 dL_law_726 dL_law_727 dL_law_728 ?_
  refine lg_callM (n := 1) (As := [.int (N.2.2.2.2.2.2.2.2.2.2 (i + 1))]) (rest := [.int r]) C (c_X7_plan N.2.1 VM C.2.2.2.1.1 C.2.2.2.1.2.1 (N.2.2.2.2.2.2.2.2.2.2 (i + 1)) σM) e2 gL_law_X7_plan rfl (by decide +kernel) ⟨by decide, by decide⟩ rfl rfl rfl rfl (Nat.le_of_ble_eq_true rfl) dL_law_729 ?_
  exact lg_same C (tgt := 1323) dL_law_732 (by decide) (kk τX τM hR2)
theorem lc_best (C : z_LC N VX VM) (hi : i + 5 ≤ N.2.2.2.2.2.2.2.2.2.1) (hR : z_Rel σX σM) (kk : ∀ σX σM, z_Rel σX σM → z_LG N VX VM σX σM 1323 (l_lv N VX VM i) []) : z_LG N VX VM σX σM 737 (l_lv N VX VM i) [] := by
  obtain ⟨r, τX, τM, e1, e2, hR2⟩ := sim_best hR (N.2.2.2.2.2.2.2.2.2.2 (i + 1))
  refine lg_aload1 C dL_law_737 ?_
  refine lg_arg C (k := 1) rfl (by omega) dL_law_738 dL_law_739 dL_law_740 dL_law_741 dL_law_742 ?_
  refine lg_callX (n := 1) (As := [.int (N.2.2.2.2.2.2.2.2.2.2 (i + 1))]) (rest := []) C (c_X6_best N.2.1 VX C.2.2.1.1 C.2.2.1.2.1 (N.2.2.2.2.2.2.2.2.2.2 (i + 1)) σX) e1 gL_law_X6_best rfl (by decide +kernel) ⟨by decide, by decide⟩ rfl rfl rfl rfl (Nat.le_of_ble_eq_true rfl) dL_law_743 ?_
  refine lg_aload2 C dL_law_746 ?_
  refine lg_arg C (k := 1) rfl (by omega) dL_law_747 dL_law_748 dL_law_749 dL_law_750 dL_law_751 ?_
  refine lg_callM (n := 1) (As := [.int (N.2.2.2.2.2.2.2.2.2.2 (i + 1))]) (rest := [.int r]) C (c_X7_best N.2.1 VM C.2.2.2.1.1 C.2.2.2.1.2.1 (N.2.2.2.2.2.2.2.2.2.2 (i + 1)) σM) e2 gL_law_X7_best rfl (by decide +kernel) ⟨by decide, by decide⟩ rfl rfl rfl rfl (Nat.le_of_ble_eq_true rfl) dL_law_752 ?_
  exact lg_same C (tgt := 1323) dL_law_755 (by decide) (kk τX τM hR2)
theorem lc_save (C : z_LC N VX VM) (hi : i + 5 ≤ N.2.2.2.2.2.2.2.2.2.1) (hR : z_Rel σX σM) (kk : ∀ σX σM, z_Rel σX σM → z_LG N VX VM σX σM 1323 (l_lv N VX VM i) []) : z_LG N VX VM σX σM 760 (l_lv N VX VM i) [] := by
  obtain ⟨r, τX, τM, e1, e2, hR2⟩ := sim_save hR (N.2.2.2.2.2.2.2.2.2.2 (i + 1))
  refine lg_aload1 C dL_law_760 ?_
  refine lg_arg C (k := 1) rfl (by omega) dL_law_761 dL_law_762 dL_law_763 dL_law_764 dL_law_765 ?_
  refine lg_callX (n := 1) (As := [.int (N.2.2.2.2.2.2.2.2.2.2 (i + 1))]) (rest := []) C (c_X6_save N.2.1 VX C.2.2.1.1 C.2.2.1.2.1 (N.2.2.2.2.2.2.2.2.2.2 (i + 1)) σX) e1 gL_law_X6_save rfl (by decide +kernel) ⟨by decide, by decide⟩ rfl rfl rfl rfl (Nat.le_of_ble_eq_true rfl) dL_law_766 ?_
  refine lg_aload2 C dL_law_769 ?_
  refine lg_arg C (k := 1) rfl (by omega) dL_law_770 dL_law_771 dL_law_772 dL_law_773 dL_law_774 ?_
  refine lg_callM (n := 1) (As := [.int (N.2.2.2.2.2.2.2.2.2.2 (i + 1))]) (rest := [.int r]) C (c_X7_save N.2.1 VM C.2.2.2.1.1 C.2.2.2.1.2.1 (N.2.2.2.2.2.2.2.2.2.2 (i + 1)) σM) e2 gL_law_X7_save rfl (by decide +kernel) ⟨by decide, by decide⟩ rfl rfl rfl rfl (Nat.le_of_ble_eq_true rfl) dL_law_775 ?_
  exact lg_same C (tgt := 1323) dL_law_778 (by decide) (kk τX τM hR2)
theorem lc_run (C : z_LC N VX VM) (hi : i + 5 ≤ N.2.2.2.2.2.2.2.2.2.1) (hR : z_Rel σX σM) (kk : ∀ σX σM, z_Rel σX σM → z_LG N VX VM σX σM 1323 (l_lv N VX VM i) []) : z_LG N VX VM σX σM 783 (l_lv N VX VM i) [] := by
  obtain ⟨r, τX, τM, e1, e2, hR2⟩ := sim_run hR (N.2.2.2.2.2.2.2.2.2.2 (i + 1))
  refine lg_aload1 C dL_law_783 ?_
  refine lg_arg C (k := 1) rfl (by omega) dL_law_784 dL_law_785 dL_law_786 dL_law_787 dL_law_788 ?_
  refine lg_callX (n := 1) (As := [.int (N.2.2.2.2.2.2.2.2.2.2 (i + 1))]) (rest := []) C (c_X6_run N.2.1 VX C.2.2.1.1 C.2.2.1.2.1 (N.2.2.2.2.2.2.2.2.2.2 (i + 1)) σX) e1 gL_law_X6_run rfl (by decide +kernel) ⟨by decide, by decide⟩ rfl rfl rfl rfl (Nat.le_of_ble_eq_true rfl) dL_law_789 ?_
  refine lg_aload2 C dL_law_792 ?_
  refine lg_arg C (k := 1) rfl (by omega) dL_law_793 dL_law_794 dL_law_795 dL_law_796 dL_law_797 ?_
  refine lg_callM (n := 1) (As := [.int (N.2.2.2.2.2.2.2.2.2.2 (i + 1))]) (rest := [.int r]) C (c_X7_run N.2.1 VM C.2.2.2.1.1 C.2.2.2.1.2.1 (N.2.2.2.2.2.2.2.2.2.2 (i + 1)) σM) e2 gL_law_X7_run rfl (by decide +kernel) ⟨by decide, by decide⟩ rfl rfl rfl rfl (Nat.le_of_ble_eq_true rfl) dL_law_798 ?_
  exact lg_same C (tgt := 1323) dL_law_801 (by decide) (kk τX τM hR2)
theorem lc_holds (C : z_LC N VX VM) (hi : i + 5 ≤ N.2.2.2.2.2.2.2.2.2.1) (hR : z_Rel σX σM) (kk : ∀ σX σM, z_Rel σX σM → z_LG N VX VM σX σM 1323 (l_lv N VX VM i) []) : z_LG N VX VM σX σM 806 (l_lv N VX VM i) [] := by
  obtain ⟨r, τX, τM, e1, e2, hR2⟩ := sim_holds hR
  refine lg_aload1 C dL_law_806 ?_
  refine lg_callX (n := 0) (As := []) (rest := []) C (c_X6_holds N.2.1 VX C.2.2.1.1 C.2.2.1.2.1 σX) e1 gL_law_X6_holds rfl (by decide +kernel) ⟨by decide, by decide⟩ rfl rfl rfl rfl (Nat.le_of_ble_eq_true rfl) dL_law_807 ?_
  refine lg_aload2 C dL_law_810 ?_
  refine lg_callM (n := 0) (As := []) (rest := [.int r]) C (c_X7_holds N.2.1 VM C.2.2.2.1.1 C.2.2.2.1.2.1 σM) e2 gL_law_X7_holds rfl (by decide +kernel) ⟨by decide, by decide⟩ rfl rfl rfl rfl (Nat.le_of_ble_eq_true rfl) dL_law_811 ?_
  exact lg_same C (tgt := 1323) dL_law_814 (by decide) (kk τX τM hR2)
theorem lc_cover (C : z_LC N VX VM) (hi : i + 5 ≤ N.2.2.2.2.2.2.2.2.2.1) (hR : z_Rel σX σM) (kk : ∀ σX σM, z_Rel σX σM → z_LG N VX VM σX σM 1323 (l_lv N VX VM i) []) : z_LG N VX VM σX σM 819 (l_lv N VX VM i) [] := by
  obtain ⟨r, τX, τM, e1, e2, hR2⟩ := sim_cover hR (N.2.2.2.2.2.2.2.2.2.2 (i + 1))
  refine lg_aload1 C dL_law_819 ?_
  refine lg_arg C (k := 1) rfl (by omega) dL_law_820 dL_law_821 dL_law_822 dL_law_823 dL_law_824 ?_
  refine lg_callX (n := 1) (As := [.int (N.2.2.2.2.2.2.2.2.2.2 (i + 1))]) (rest := []) C (c_X6_cover N.2.1 VX C.2.2.1.1 C.2.2.1.2.1 (N.2.2.2.2.2.2.2.2.2.2 (i + 1)) σX) e1 gL_law_X6_cover rfl (by decide +kernel) ⟨by decide, by decide⟩ rfl rfl rfl rfl (Nat.le_of_ble_eq_true rfl) dL_law_825 ?_
  refine lg_aload2 C dL_law_828 ?_
  refine lg_arg C (k := 1) rfl (by omega) dL_law_829 dL_law_830 dL_law_831 dL_law_832 dL_law_833 ?_
  refine lg_callM (n := 1) (As := [.int (N.2.2.2.2.2.2.2.2.2.2 (i + 1))]) (rest := [.int r]) C (c_X7_cover N.2.1 VM C.2.2.2.1.1 C.2.2.2.1.2.1 (N.2.2.2.2.2.2.2.2.2.2 (i + 1)) σM) e2 gL_law_X7_cover rfl (by decide +kernel) ⟨by decide, by decide⟩ rfl rfl rfl rfl (Nat.le_of_ble_eq_true rfl) dL_law_834 ?_
  exact lg_same C (tgt := 1323) dL_law_837 (by decide) (kk τX τM hR2)
theorem lc_rate (C : z_LC N VX VM) (hi : i + 5 ≤ N.2.2.2.2.2.2.2.2.2.1) (hR : z_Rel σX σM) (kk : ∀ σX σM, z_Rel σX σM → z_LG N VX VM σX σM 1323 (l_lv N VX VM i) []) : z_LG N VX VM σX σM 842 (l_lv N VX VM i) [] := by
  obtain ⟨r, τX, τM, e1, e2, hR2⟩ := sim_rate hR (N.2.2.2.2.2.2.2.2.2.2 (i + 1))
  refine lg_aload1 C dL_law_842 ?_
  refine lg_arg C (k := 1) rfl (by omega) dL_law_843 dL_law_844 dL_law_845 dL_law_846 dL_law_847 ?_
  refine lg_callX (n := 1) (As := [.int (N.2.2.2.2.2.2.2.2.2.2 (i + 1))]) (rest := []) C (c_X6_rate N.2.1 VX C.2.2.1.1 C.2.2.1.2.1 (N.2.2.2.2.2.2.2.2.2.2 (i + 1)) σX) e1 gL_law_X6_rate rfl (by decide +kernel) ⟨by decide, by decide⟩ rfl rfl rfl rfl (Nat.le_of_ble_eq_true rfl) dL_law_848 ?_
  refine lg_aload2 C dL_law_851 ?_
  refine lg_arg C (k := 1) rfl (by omega) dL_law_852 dL_law_853 dL_law_854 dL_law_855 dL_law_856 ?_
  refine lg_callM (n := 1) (As := [.int (N.2.2.2.2.2.2.2.2.2.2 (i + 1))]) (rest := [.int r]) C (c_X7_rate N.2.1 VM C.2.2.2.1.1 C.2.2.2.1.2.1 (N.2.2.2.2.2.2.2.2.2.2 (i + 1)) σM) e2 gL_law_X7_rate rfl (by decide +kernel) ⟨by decide, by decide⟩ rfl rfl rfl rfl (Nat.le_of_ble_eq_true rfl) dL_law_857 ?_
  exact lg_same C (tgt := 1323) dL_law_860 (by decide) (kk τX τM hR2)
theorem lc_gift (C : z_LC N VX VM) (hi : i + 5 ≤ N.2.2.2.2.2.2.2.2.2.1) (hR : z_Rel σX σM) (kk : ∀ σX σM, z_Rel σX σM → z_LG N VX VM σX σM 1323 (l_lv N VX VM i) []) : z_LG N VX VM σX σM 865 (l_lv N VX VM i) [] := by
  obtain ⟨r, τX, τM, e1, e2, hR2⟩ := sim_gift hR (N.2.2.2.2.2.2.2.2.2.2 (i + 1)) (N.2.2.2.2.2.2.2.2.2.2 (i + 2))
  refine lg_aload1 C dL_law_865 ?_
  refine lg_arg C (k := 1) rfl (by omega) dL_law_866 dL_law_867 dL_law_868 dL_law_869 dL_law_870 ?_
  refine lg_arg C (k := 2) rfl (by omega) dL_law_871 dL_law_872 dL_law_873 dL_law_874 dL_law_875 ?_
  refine lg_callX (n := 2) (As := [.int (N.2.2.2.2.2.2.2.2.2.2 (i + 1)), .int (N.2.2.2.2.2.2.2.2.2.2 (i + 2))]) (rest := []) C (c_X6_gift N.2.1 VX C.2.2.1.1 C.2.2.1.2.1 (N.2.2.2.2.2.2.2.2.2.2 (i + 1)) (N.2.2.2.2.2.2.2.2.2.2 (i + 2)) σX) e1 gL_law_X6_gift rfl (by decide +kernel) ⟨by decide, by decide⟩ rfl rfl rfl rfl (Nat.le_of_ble_eq_true rfl) dL_law_876 ?_
  refine lg_aload2 C dL_law_879 ?_
  refine lg_arg C (k := 1) rfl (by omega) dL_law_880 dL_law_881 dL_law_882 dL_law_883 dL_law_884 ?_
  refine lg_arg C (k := 2) rfl (by omega) dL_law_885 dL_law_886 dL_law_887 dL_law_888 dL_law_889 ?_
  refine lg_callM (n := 2) (As := [.int (N.2.2.2.2.2.2.2.2.2.2 (i + 1)), .int (N.2.2.2.2.2.2.2.2.2.2 (i + 2))]) (rest := [.int r]) C (c_X7_gift N.2.1 VM C.2.2.2.1.1 C.2.2.2.1.2.1 (N.2.2.2.2.2.2.2.2.2.2 (i + 1)) (N.2.2.2.2.2.2.2.2.2.2 (i + 2)) σM) e2 gL_law_X7_gift rfl (by decide +kernel) ⟨by decide, by decide⟩ rfl rfl rfl rfl (Nat.le_of_ble_eq_true rfl) dL_law_890 ?_
  exact lg_same C (tgt := 1323) dL_law_893 (by decide) (kk τX τM hR2)
theorem lc_told (C : z_LC N VX VM) (hi : i + 5 ≤ N.2.2.2.2.2.2.2.2.2.1) (hR : z_Rel σX σM) (kk : ∀ σX σM, z_Rel σX σM → z_LG N VX VM σX σM 1323 (l_lv N VX VM i) []) : z_LG N VX VM σX σM 898 (l_lv N VX VM i) [] := by
  obtain ⟨r, τX, τM, e1, e2, hR2⟩ := sim_told hR (N.2.2.2.2.2.2.2.2.2.2 (i + 1)) (N.2.2.2.2.2.2.2.2.2.2 (i + 2))
  refine lg_aload1 C dL_law_898 ?_
  refine lg_arg C (k := 1) rfl (by omega) dL_law_899 dL_law_900 dL_law_901 dL_law_902 dL_law_903 ?_
  refine lg_arg C (k := 2) rfl (by omega) dL_law_904 dL_law_905 dL_law_906 dL_law_907 dL_law_908 ?_
  refine lg_callX (n := 2) (As := [.int (N.2.2.2.2.2.2.2.2.2.2 (i + 1)), .int (N.2.2.2.2.2.2.2.2.2.2 (i + 2))]) (rest := []) C (c_X6_told N.2.1 VX C.2.2.1.1 C.2.2.1.2.1 (N.2.2.2.2.2.2.2.2.2.2 (i + 1)) (N.2.2.2.2.2.2.2.2.2.2 (i + 2)) σX) e1 gL_law_X6_told rfl (by decide +kernel) ⟨by decide, by decide⟩ rfl rfl rfl rfl (Nat.le_of_ble_eq_true rfl) dL_law_909 ?_
  refine lg_aload2 C dL_law_912 ?_
  refine lg_arg C (k := 1) rfl (by omega) dL_law_913 dL_law_914 dL_law_915 dL_law_916 dL_law_917 ?_
  refine lg_arg C (k := 2) rfl (by omega) dL_law_918 dL_law_919 dL_law_920 dL_law_921 dL_law_922 ?_
  refine lg_callM (n := 2) (As := [.int (N.2.2.2.2.2.2.2.2.2.2 (i + 1)), .int (N.2.2.2.2.2.2.2.2.2.2 (i + 2))]) (rest := [.int r]) C (c_X7_told N.2.1 VM C.2.2.2.1.1 C.2.2.2.1.2.1 (N.2.2.2.2.2.2.2.2.2.2 (i + 1)) (N.2.2.2.2.2.2.2.2.2.2 (i + 2)) σM) e2 gL_law_X7_told rfl (by decide +kernel) ⟨by decide, by decide⟩ rfl rfl rfl rfl (Nat.le_of_ble_eq_true rfl) dL_law_923 ?_
  exact lg_same C (tgt := 1323) dL_law_926 (by decide) (kk τX τM hR2)
theorem lc_whisper (C : z_LC N VX VM) (hi : i + 5 ≤ N.2.2.2.2.2.2.2.2.2.1) (hR : z_Rel σX σM) (kk : ∀ σX σM, z_Rel σX σM → z_LG N VX VM σX σM 1323 (l_lv N VX VM i) []) : z_LG N VX VM σX σM 931 (l_lv N VX VM i) [] := by
  obtain ⟨r, τX, τM, e1, e2, hR2⟩ := sim_whisper hR (N.2.2.2.2.2.2.2.2.2.2 (i + 1))
  refine lg_aload1 C dL_law_931 ?_
  refine lg_arg C (k := 1) rfl (by omega) dL_law_932 dL_law_933 dL_law_934 dL_law_935 dL_law_936 ?_
  refine lg_callX (n := 1) (As := [.int (N.2.2.2.2.2.2.2.2.2.2 (i + 1))]) (rest := []) C (c_X6_whisper N.2.1 VX C.2.2.1.1 C.2.2.1.2.1 (N.2.2.2.2.2.2.2.2.2.2 (i + 1)) σX) e1 gL_law_X6_whisper rfl (by decide +kernel) ⟨by decide, by decide⟩ rfl rfl rfl rfl (Nat.le_of_ble_eq_true rfl) dL_law_937 ?_
  refine lg_aload2 C dL_law_940 ?_
  refine lg_arg C (k := 1) rfl (by omega) dL_law_941 dL_law_942 dL_law_943 dL_law_944 dL_law_945 ?_
  refine lg_callM (n := 1) (As := [.int (N.2.2.2.2.2.2.2.2.2.2 (i + 1))]) (rest := [.int r]) C (c_X7_whisper N.2.1 VM C.2.2.2.1.1 C.2.2.2.1.2.1 (N.2.2.2.2.2.2.2.2.2.2 (i + 1)) σM) e2 gL_law_X7_whisper rfl (by decide +kernel) ⟨by decide, by decide⟩ rfl rfl rfl rfl (Nat.le_of_ble_eq_true rfl) dL_law_946 ?_
  exact lg_same C (tgt := 1323) dL_law_949 (by decide) (kk τX τM hR2)
theorem lc_note (C : z_LC N VX VM) (hi : i + 5 ≤ N.2.2.2.2.2.2.2.2.2.1) (hR : z_Rel σX σM) (kk : ∀ σX σM, z_Rel σX σM → z_LG N VX VM σX σM 1323 (l_lv N VX VM i) []) : z_LG N VX VM σX σM 954 (l_lv N VX VM i) [] := by
  by_cases hb : (N.2.2.2.2.2.2.2.2.2.2 (i + 3)) = 0
  · obtain ⟨r, τX, τM, e1, e2, hR2⟩ := sim_note hR (N.2.2.2.2.2.2.2.2.2.2 (i + 1)) (N.2.2.2.2.2.2.2.2.2.2 (i + 2)) 0
    refine lg_aload1 C dL_law_954 ?_
    refine lg_arg C (k := 1) rfl (by omega) dL_law_955 dL_law_956 dL_law_957 dL_law_958 dL_law_959 ?_
    refine lg_arg C (k := 2) rfl (by omega) dL_law_960 dL_law_961 dL_law_962 dL_law_963 dL_law_964 ?_
    refine lg_arg C (k := 3) rfl (by omega) dL_law_965 dL_law_966 dL_law_967 dL_law_968 dL_law_969 ?_
    refine lg_ifeq C (tgt := 977) dL_law_970 (by decide) (fun _ => ?_) (fun h => absurd hb h)
    refine lg_iconst C (v := 0) dL_law_977 (by decide) ?_
    refine lg_callX (n := 3) (As := [.int (N.2.2.2.2.2.2.2.2.2.2 (i + 1)), .int (N.2.2.2.2.2.2.2.2.2.2 (i + 2)), .int 0]) (rest := []) C (c_X6_note N.2.1 VX C.2.2.1.1 C.2.2.1.2.1 (N.2.2.2.2.2.2.2.2.2.2 (i + 1)) (N.2.2.2.2.2.2.2.2.2.2 (i + 2)) 0 σX) e1 gL_law_X6_note rfl (by decide +kernel) ⟨by decide, by decide⟩ rfl rfl rfl rfl (Nat.le_of_ble_eq_true rfl) dL_law_978 ?_
    refine lg_aload2 C dL_law_981 ?_
    refine lg_arg C (k := 1) rfl (by omega) dL_law_982 dL_law_983 dL_law_984 dL_law_985 dL_law_986 ?_
    refine lg_arg C (k := 2) rfl (by omega) dL_law_987 dL_law_988 dL_law_989 dL_law_990 dL_law_991 ?_
    refine lg_arg C (k := 3) rfl (by omega) dL_law_992 dL_law_993 dL_law_994 dL_law_995 dL_law_996 ?_
    refine lg_ifeq C (tgt := 1004) dL_law_997 (by decide) (fun _ => ?_) (fun h => absurd hb h)
    refine lg_iconst C (v := 0) dL_law_1004 (by decide) ?_
    refine lg_callM (n := 3) (As := [.int (N.2.2.2.2.2.2.2.2.2.2 (i + 1)), .int (N.2.2.2.2.2.2.2.2.2.2 (i + 2)), .int 0]) (rest := [.int r]) C (c_X7_note N.2.1 VM C.2.2.2.1.1 C.2.2.2.1.2.1 (N.2.2.2.2.2.2.2.2.2.2 (i + 1)) (N.2.2.2.2.2.2.2.2.2.2 (i + 2)) 0 σM) e2 gL_law_X7_note rfl (by decide +kernel) ⟨by decide, by decide⟩ rfl rfl rfl rfl (Nat.le_of_ble_eq_true rfl) dL_law_1005 ?_
    exact lg_same C (tgt := 1323) dL_law_1008 (by decide) (kk τX τM hR2)
  · obtain ⟨r, τX, τM, e1, e2, hR2⟩ := sim_note hR (N.2.2.2.2.2.2.2.2.2.2 (i + 1)) (N.2.2.2.2.2.2.2.2.2.2 (i + 2)) 1
    refine lg_aload1 C dL_law_954 ?_
    refine lg_arg C (k := 1) rfl (by omega) dL_law_955 dL_law_956 dL_law_957 dL_law_958 dL_law_959 ?_
    refine lg_arg C (k := 2) rfl (by omega) dL_law_960 dL_law_961 dL_law_962 dL_law_963 dL_law_964 ?_
    refine lg_arg C (k := 3) rfl (by omega) dL_law_965 dL_law_966 dL_law_967 dL_law_968 dL_law_969 ?_
    refine lg_ifeq C (tgt := 977) dL_law_970 (by decide) (fun h => absurd h hb) (fun _ => ?_)
    refine lg_iconst C (v := 1) dL_law_973 (by decide) ?_
    refine lg_goto C (tgt := 978) dL_law_974 (by decide) ?_
    refine lg_callX (n := 3) (As := [.int (N.2.2.2.2.2.2.2.2.2.2 (i + 1)), .int (N.2.2.2.2.2.2.2.2.2.2 (i + 2)), .int 1]) (rest := []) C (c_X6_note N.2.1 VX C.2.2.1.1 C.2.2.1.2.1 (N.2.2.2.2.2.2.2.2.2.2 (i + 1)) (N.2.2.2.2.2.2.2.2.2.2 (i + 2)) 1 σX) e1 gL_law_X6_note rfl (by decide +kernel) ⟨by decide, by decide⟩ rfl rfl rfl rfl (Nat.le_of_ble_eq_true rfl) dL_law_978 ?_
    refine lg_aload2 C dL_law_981 ?_
    refine lg_arg C (k := 1) rfl (by omega) dL_law_982 dL_law_983 dL_law_984 dL_law_985 dL_law_986 ?_
    refine lg_arg C (k := 2) rfl (by omega) dL_law_987 dL_law_988 dL_law_989 dL_law_990 dL_law_991 ?_
    refine lg_arg C (k := 3) rfl (by omega) dL_law_992 dL_law_993 dL_law_994 dL_law_995 dL_law_996 ?_
    refine lg_ifeq C (tgt := 1004) dL_law_997 (by decide) (fun h => absurd h hb) (fun _ => ?_)
    refine lg_iconst C (v := 1) dL_law_1000 (by decide) ?_
    refine lg_goto C (tgt := 1005) dL_law_1001 (by decide) ?_
    refine lg_callM (n := 3) (As := [.int (N.2.2.2.2.2.2.2.2.2.2 (i + 1)), .int (N.2.2.2.2.2.2.2.2.2.2 (i + 2)), .int 1]) (rest := [.int r]) C (c_X7_note N.2.1 VM C.2.2.2.1.1 C.2.2.2.1.2.1 (N.2.2.2.2.2.2.2.2.2.2 (i + 1)) (N.2.2.2.2.2.2.2.2.2.2 (i + 2)) 1 σM) e2 gL_law_X7_note rfl (by decide +kernel) ⟨by decide, by decide⟩ rfl rfl rfl rfl (Nat.le_of_ble_eq_true rfl) dL_law_1005 ?_
    exact lg_same C (tgt := 1323) dL_law_1008 (by decide) (kk τX τM hR2)
theorem lc_forget (C : z_LC N VX VM) (hi : i + 5 ≤ N.2.2.2.2.2.2.2.2.2.1) (hR : z_Rel σX σM) (kk : ∀ σX σM, z_Rel σX σM → z_LG N VX VM σX σM 1323 (l_lv N VX VM i) []) : z_LG N VX VM σX σM 1013 (l_lv N VX VM i) [] := by
  obtain ⟨r, τX, τM, e1, e2, hR2⟩ := sim_forget hR (N.2.2.2.2.2.2.2.2.2.2 (i + 1))
  refine lg_aload1 C dL_law_1013 ?_
  refine lg_arg C (k := 1) rfl (by omega) dL_law_1014 dL_law_1015 dL_law_1016 dL_law_1017 dL_law_1018 ?_
  refine lg_callX (n := 1) (As := [.int (N.2.2.2.2.2.2.2.2.2.2 (i + 1))]) (rest := []) C (c_X6_forget N.2.1 VX C.2.2.1.1 C.2.2.1.2.1 (N.2.2.2.2.2.2.2.2.2.2 (i + 1)) σX) e1 gL_law_X6_forget rfl (by decide +kernel) ⟨by decide, by decide⟩ rfl rfl rfl rfl (Nat.le_of_ble_eq_true rfl) dL_law_1019 ?_
  refine lg_aload2 C dL_law_1022 ?_
  refine lg_arg C (k := 1) rfl (by omega) dL_law_1023 dL_law_1024 dL_law_1025 dL_law_1026 dL_law_1027 ?_
  refine lg_callM (n := 1) (As := [.int (N.2.2.2.2.2.2.2.2.2.2 (i + 1))]) (rest := [.int r]) C (c_X7_forget N.2.1 VM C.2.2.2.1.1 C.2.2.2.1.2.1 (N.2.2.2.2.2.2.2.2.2.2 (i + 1)) σM) e2 gL_law_X7_forget rfl (by decide +kernel) ⟨by decide, by decide⟩ rfl rfl rfl rfl (Nat.le_of_ble_eq_true rfl) dL_law_1028 ?_
  exact lg_same C (tgt := 1323) dL_law_1031 (by decide) (kk τX τM hR2)
theorem lc_fits (C : z_LC N VX VM) (hi : i + 5 ≤ N.2.2.2.2.2.2.2.2.2.1) (hR : z_Rel σX σM) (kk : ∀ σX σM, z_Rel σX σM → z_LG N VX VM σX σM 1323 (l_lv N VX VM i) []) : z_LG N VX VM σX σM 1036 (l_lv N VX VM i) [] := by
  obtain ⟨r, τX, τM, e1, e2, hR2⟩ := sim_fits hR (N.2.2.2.2.2.2.2.2.2.2 (i + 1))
  refine lg_aload1 C dL_law_1036 ?_
  refine lg_arg C (k := 1) rfl (by omega) dL_law_1037 dL_law_1038 dL_law_1039 dL_law_1040 dL_law_1041 ?_
  refine lg_callX (n := 1) (As := [.int (N.2.2.2.2.2.2.2.2.2.2 (i + 1))]) (rest := []) C (c_X6_fits N.2.1 VX C.2.2.1.1 C.2.2.1.2.1 (N.2.2.2.2.2.2.2.2.2.2 (i + 1)) σX) e1 gL_law_X6_fits rfl (by decide +kernel) ⟨by decide, by decide⟩ rfl rfl rfl rfl (Nat.le_of_ble_eq_true rfl) dL_law_1042 ?_
  refine lg_aload2 C dL_law_1045 ?_
  refine lg_arg C (k := 1) rfl (by omega) dL_law_1046 dL_law_1047 dL_law_1048 dL_law_1049 dL_law_1050 ?_
  refine lg_callM (n := 1) (As := [.int (N.2.2.2.2.2.2.2.2.2.2 (i + 1))]) (rest := [.int r]) C (c_X7_fits N.2.1 VM C.2.2.2.1.1 C.2.2.2.1.2.1 (N.2.2.2.2.2.2.2.2.2.2 (i + 1)) σM) e2 gL_law_X7_fits rfl (by decide +kernel) ⟨by decide, by decide⟩ rfl rfl rfl rfl (Nat.le_of_ble_eq_true rfl) dL_law_1051 ?_
  exact lg_same C (tgt := 1323) dL_law_1054 (by decide) (kk τX τM hR2)
theorem lc_drift (C : z_LC N VX VM) (hi : i + 5 ≤ N.2.2.2.2.2.2.2.2.2.1) (hR : z_Rel σX σM) (kk : ∀ σX σM, z_Rel σX σM → z_LG N VX VM σX σM 1323 (l_lv N VX VM i) []) : z_LG N VX VM σX σM 1059 (l_lv N VX VM i) [] := by
  obtain ⟨r, τX, τM, e1, e2, hR2⟩ := sim_drift hR (N.2.2.2.2.2.2.2.2.2.2 (i + 1)) (N.2.2.2.2.2.2.2.2.2.2 (i + 2)) (N.2.2.2.2.2.2.2.2.2.2 (i + 3))
  refine lg_aload1 C dL_law_1059 ?_
  refine lg_arg C (k := 1) rfl (by omega) dL_law_1060 dL_law_1061 dL_law_1062 dL_law_1063 dL_law_1064 ?_
  refine lg_arg C (k := 2) rfl (by omega) dL_law_1065 dL_law_1066 dL_law_1067 dL_law_1068 dL_law_1069 ?_
  refine lg_arg C (k := 3) rfl (by omega) dL_law_1070 dL_law_1071 dL_law_1072 dL_law_1073 dL_law_1074 ?_
  refine lg_callX (n := 3) (As := [.int (N.2.2.2.2.2.2.2.2.2.2 (i + 1)), .int (N.2.2.2.2.2.2.2.2.2.2 (i + 2)), .int (N.2.2.2.2.2.2.2.2.2.2 (i + 3))]) (rest := []) C (c_X6_drift N.2.1 VX C.2.2.1.1 C.2.2.1.2.1 (N.2.2.2.2.2.2.2.2.2.2 (i + 1)) (N.2.2.2.2.2.2.2.2.2.2 (i + 2)) (N.2.2.2.2.2.2.2.2.2.2 (i + 3)) σX) e1 gL_law_X6_drift rfl (by decide +kernel) ⟨by decide, by decide⟩ rfl rfl rfl rfl (Nat.le_of_ble_eq_true rfl) dL_law_1075 ?_
  refine lg_aload2 C dL_law_1078 ?_
  refine lg_arg C (k := 1) rfl (by omega) dL_law_1079 dL_law_1080 dL_law_1081 dL_law_1082 dL_law_1083 ?_
  refine lg_arg C (k := 2) rfl (by omega) dL_law_1084 dL_law_1085 dL_law_1086 dL_law_1087 dL_law_1088 ?_
  refine lg_arg C (k := 3) rfl (by omega) dL_law_1089 dL_law_1090 dL_law_1091 dL_law_1092 dL_law_1093 ?_
  refine lg_callM (n := 3) (As := [.int (N.2.2.2.2.2.2.2.2.2.2 (i + 1)), .int (N.2.2.2.2.2.2.2.2.2.2 (i + 2)), .int (N.2.2.2.2.2.2.2.2.2.2 (i + 3))]) (rest := [.int r]) C (c_X7_drift N.2.1 VM C.2.2.2.1.1 C.2.2.2.1.2.1 (N.2.2.2.2.2.2.2.2.2.2 (i + 1)) (N.2.2.2.2.2.2.2.2.2.2 (i + 2)) (N.2.2.2.2.2.2.2.2.2.2 (i + 3)) σM) e2 gL_law_X7_drift rfl (by decide +kernel) ⟨by decide, by decide⟩ rfl rfl rfl rfl (Nat.le_of_ble_eq_true rfl) dL_law_1094 ?_
  exact lg_same C (tgt := 1323) dL_law_1097 (by decide) (kk τX τM hR2)
theorem lc_keep (C : z_LC N VX VM) (hi : i + 5 ≤ N.2.2.2.2.2.2.2.2.2.1) (hR : z_Rel σX σM) (kk : ∀ σX σM, z_Rel σX σM → z_LG N VX VM σX σM 1323 (l_lv N VX VM i) []) : z_LG N VX VM σX σM 1102 (l_lv N VX VM i) [] := by
  obtain ⟨r, τX, τM, e1, e2, hR2⟩ := sim_keep hR (N.2.2.2.2.2.2.2.2.2.2 (i + 1))
  refine lg_aload1 C dL_law_1102 ?_
  refine lg_arg C (k := 1) rfl (by omega) dL_law_1103 dL_law_1104 dL_law_1105 dL_law_1106 dL_law_1107 ?_
  refine lg_callX (n := 1) (As := [.int (N.2.2.2.2.2.2.2.2.2.2 (i + 1))]) (rest := []) C (c_X6_keep N.2.1 VX C.2.2.1.1 C.2.2.1.2.1 (N.2.2.2.2.2.2.2.2.2.2 (i + 1)) σX) e1 gL_law_X6_keep rfl (by decide +kernel) ⟨by decide, by decide⟩ rfl rfl rfl rfl (Nat.le_of_ble_eq_true rfl) dL_law_1108 ?_
  refine lg_aload2 C dL_law_1111 ?_
  refine lg_arg C (k := 1) rfl (by omega) dL_law_1112 dL_law_1113 dL_law_1114 dL_law_1115 dL_law_1116 ?_
  refine lg_callM (n := 1) (As := [.int (N.2.2.2.2.2.2.2.2.2.2 (i + 1))]) (rest := [.int r]) C (c_X7_keep N.2.1 VM C.2.2.2.1.1 C.2.2.2.1.2.1 (N.2.2.2.2.2.2.2.2.2.2 (i + 1)) σM) e2 gL_law_X7_keep rfl (by decide +kernel) ⟨by decide, by decide⟩ rfl rfl rfl rfl (Nat.le_of_ble_eq_true rfl) dL_law_1117 ?_
  exact lg_same C (tgt := 1323) dL_law_1120 (by decide) (kk τX τM hR2)
theorem lc_back (C : z_LC N VX VM) (hi : i + 5 ≤ N.2.2.2.2.2.2.2.2.2.1) (hR : z_Rel σX σM) (kk : ∀ σX σM, z_Rel σX σM → z_LG N VX VM σX σM 1323 (l_lv N VX VM i) []) : z_LG N VX VM σX σM 1125 (l_lv N VX VM i) [] := by
  obtain ⟨r, τX, τM, e1, e2, hR2⟩ := sim_back hR (N.2.2.2.2.2.2.2.2.2.2 (i + 1))
  refine lg_aload1 C dL_law_1125 ?_
  refine lg_arg C (k := 1) rfl (by omega) dL_law_1126 dL_law_1127 dL_law_1128 dL_law_1129 dL_law_1130 ?_
  refine lg_callX (n := 1) (As := [.int (N.2.2.2.2.2.2.2.2.2.2 (i + 1))]) (rest := []) C (c_X6_back N.2.1 VX C.2.2.1.1 C.2.2.1.2.1 (N.2.2.2.2.2.2.2.2.2.2 (i + 1)) σX) e1 gL_law_X6_back rfl (by decide +kernel) ⟨by decide, by decide⟩ rfl rfl rfl rfl (Nat.le_of_ble_eq_true rfl) dL_law_1131 ?_
  refine lg_aload2 C dL_law_1134 ?_
  refine lg_arg C (k := 1) rfl (by omega) dL_law_1135 dL_law_1136 dL_law_1137 dL_law_1138 dL_law_1139 ?_
  refine lg_callM (n := 1) (As := [.int (N.2.2.2.2.2.2.2.2.2.2 (i + 1))]) (rest := [.int r]) C (c_X7_back N.2.1 VM C.2.2.2.1.1 C.2.2.2.1.2.1 (N.2.2.2.2.2.2.2.2.2.2 (i + 1)) σM) e2 gL_law_X7_back rfl (by decide +kernel) ⟨by decide, by decide⟩ rfl rfl rfl rfl (Nat.le_of_ble_eq_true rfl) dL_law_1140 ?_
  exact lg_same C (tgt := 1323) dL_law_1143 (by decide) (kk τX τM hR2)
theorem lc_sheet (C : z_LC N VX VM) (hi : i + 5 ≤ N.2.2.2.2.2.2.2.2.2.1) (hR : z_Rel σX σM) (kk : ∀ σX σM, z_Rel σX σM → z_LG N VX VM σX σM 1323 (l_lv N VX VM i) []) : z_LG N VX VM σX σM 1148 (l_lv N VX VM i) [] := by
  obtain ⟨r, τX, τM, e1, e2, hR2⟩ := sim_sheet hR (N.2.2.2.2.2.2.2.2.2.2 (i + 1)) (N.2.2.2.2.2.2.2.2.2.2 (i + 2)) (N.2.2.2.2.2.2.2.2.2.2 (i + 3))
  refine lg_aload1 C dL_law_1148 ?_
  refine lg_arg C (k := 1) rfl (by omega) dL_law_1149 dL_law_1150 dL_law_1151 dL_law_1152 dL_law_1153 ?_
  refine lg_arg C (k := 2) rfl (by omega) dL_law_1154 dL_law_1155 dL_law_1156 dL_law_1157 dL_law_1158 ?_
  refine lg_arg C (k := 3) rfl (by omega) dL_law_1159 dL_law_1160 dL_law_1161 dL_law_1162 dL_law_1163 ?_
  refine lg_callX (n := 3) (As := [.int (N.2.2.2.2.2.2.2.2.2.2 (i + 1)), .int (N.2.2.2.2.2.2.2.2.2.2 (i + 2)), .int (N.2.2.2.2.2.2.2.2.2.2 (i + 3))]) (rest := []) C (c_X6_sheet N.2.1 VX C.2.2.1.1 C.2.2.1.2.1 (N.2.2.2.2.2.2.2.2.2.2 (i + 1)) (N.2.2.2.2.2.2.2.2.2.2 (i + 2)) (N.2.2.2.2.2.2.2.2.2.2 (i + 3)) σX) e1 gL_law_X6_sheet rfl (by decide +kernel) ⟨by decide, by decide⟩ rfl rfl rfl rfl (Nat.le_of_ble_eq_true rfl) dL_law_1164 ?_
  refine lg_aload2 C dL_law_1167 ?_
  refine lg_arg C (k := 1) rfl (by omega) dL_law_1168 dL_law_1169 dL_law_1170 dL_law_1171 dL_law_1172 ?_
  refine lg_arg C (k := 2) rfl (by omega) dL_law_1173 dL_law_1174 dL_law_1175 dL_law_1176 dL_law_1177 ?_
  refine lg_arg C (k := 3) rfl (by omega) dL_law_1178 dL_law_1179 dL_law_1180 dL_law_1181 dL_law_1182 ?_
  refine lg_callM (n := 3) (As := [.int (N.2.2.2.2.2.2.2.2.2.2 (i + 1)), .int (N.2.2.2.2.2.2.2.2.2.2 (i + 2)), .int (N.2.2.2.2.2.2.2.2.2.2 (i + 3))]) (rest := [.int r]) C (c_X7_sheet N.2.1 VM C.2.2.2.1.1 C.2.2.2.1.2.1 (N.2.2.2.2.2.2.2.2.2.2 (i + 1)) (N.2.2.2.2.2.2.2.2.2.2 (i + 2)) (N.2.2.2.2.2.2.2.2.2.2 (i + 3)) σM) e2 gL_law_X7_sheet rfl (by decide +kernel) ⟨by decide, by decide⟩ rfl rfl rfl rfl (Nat.le_of_ble_eq_true rfl) dL_law_1183 ?_
  exact lg_same C (tgt := 1323) dL_law_1186 (by decide) (kk τX τM hR2)
theorem lc_lay (C : z_LC N VX VM) (hi : i + 5 ≤ N.2.2.2.2.2.2.2.2.2.1) (hR : z_Rel σX σM) (kk : ∀ σX σM, z_Rel σX σM → z_LG N VX VM σX σM 1323 (l_lv N VX VM i) []) : z_LG N VX VM σX σM 1191 (l_lv N VX VM i) [] := by
  obtain ⟨r, τX, τM, e1, e2, hR2⟩ := sim_lay hR (N.2.2.2.2.2.2.2.2.2.2 (i + 1)) (N.2.2.2.2.2.2.2.2.2.2 (i + 2)) (N.2.2.2.2.2.2.2.2.2.2 (i + 3))
  refine lg_aload1 C dL_law_1191 ?_
  refine lg_arg C (k := 1) rfl (by omega) dL_law_1192 dL_law_1193 dL_law_1194 dL_law_1195 dL_law_1196 ?_
  refine lg_arg C (k := 2) rfl (by omega) dL_law_1197 dL_law_1198 dL_law_1199 dL_law_1200 dL_law_1201 ?_
  refine lg_arg C (k := 3) rfl (by omega) dL_law_1202 dL_law_1203 dL_law_1204 dL_law_1205 dL_law_1206 ?_
  refine lg_callX (n := 3) (As := [.int (N.2.2.2.2.2.2.2.2.2.2 (i + 1)), .int (N.2.2.2.2.2.2.2.2.2.2 (i + 2)), .int (N.2.2.2.2.2.2.2.2.2.2 (i + 3))]) (rest := []) C (c_X6_lay N.2.1 VX C.2.2.1.1 C.2.2.1.2.1 (N.2.2.2.2.2.2.2.2.2.2 (i + 1)) (N.2.2.2.2.2.2.2.2.2.2 (i + 2)) (N.2.2.2.2.2.2.2.2.2.2 (i + 3)) σX) e1 gL_law_X6_lay rfl (by decide +kernel) ⟨by decide, by decide⟩ rfl rfl rfl rfl (Nat.le_of_ble_eq_true rfl) dL_law_1207 ?_
  refine lg_aload2 C dL_law_1210 ?_
  refine lg_arg C (k := 1) rfl (by omega) dL_law_1211 dL_law_1212 dL_law_1213 dL_law_1214 dL_law_1215 ?_
  refine lg_arg C (k := 2) rfl (by omega) dL_law_1216 dL_law_1217 dL_law_1218 dL_law_1219 dL_law_1220 ?_
  refine lg_arg C (k := 3) rfl (by omega) dL_law_1221 dL_law_1222 dL_law_1223 dL_law_1224 dL_law_1225 ?_
  refine lg_callM (n := 3) (As := [.int (N.2.2.2.2.2.2.2.2.2.2 (i + 1)), .int (N.2.2.2.2.2.2.2.2.2.2 (i + 2)), .int (N.2.2.2.2.2.2.2.2.2.2 (i + 3))]) (rest := [.int r]) C (c_X7_lay N.2.1 VM C.2.2.2.1.1 C.2.2.2.1.2.1 (N.2.2.2.2.2.2.2.2.2.2 (i + 1)) (N.2.2.2.2.2.2.2.2.2.2 (i + 2)) (N.2.2.2.2.2.2.2.2.2.2 (i + 3)) σM) e2 gL_law_X7_lay rfl (by decide +kernel) ⟨by decide, by decide⟩ rfl rfl rfl rfl (Nat.le_of_ble_eq_true rfl) dL_law_1226 ?_
  exact lg_same C (tgt := 1323) dL_law_1229 (by decide) (kk τX τM hR2)
theorem lc_read (C : z_LC N VX VM) (hi : i + 5 ≤ N.2.2.2.2.2.2.2.2.2.1) (hR : z_Rel σX σM) (kk : ∀ σX σM, z_Rel σX σM → z_LG N VX VM σX σM 1323 (l_lv N VX VM i) []) : z_LG N VX VM σX σM 1234 (l_lv N VX VM i) [] := by
  obtain ⟨r, τX, τM, e1, e2, hR2⟩ := sim_read hR (N.2.2.2.2.2.2.2.2.2.2 (i + 1)) (N.2.2.2.2.2.2.2.2.2.2 (i + 2)) (N.2.2.2.2.2.2.2.2.2.2 (i + 3)) (N.2.2.2.2.2.2.2.2.2.2 (i + 4))
  refine lg_aload1 C dL_law_1234 ?_
  refine lg_arg C (k := 1) rfl (by omega) dL_law_1235 dL_law_1236 dL_law_1237 dL_law_1238 dL_law_1239 ?_
  refine lg_arg C (k := 2) rfl (by omega) dL_law_1240 dL_law_1241 dL_law_1242 dL_law_1243 dL_law_1244 ?_
  refine lg_arg C (k := 3) rfl (by omega) dL_law_1245 dL_law_1246 dL_law_1247 dL_law_1248 dL_law_1249 ?_
  refine lg_arg C (k := 4) rfl (by omega) dL_law_1250 dL_law_1251 dL_law_1252 dL_law_1253 dL_law_1254 ?_
  refine lg_callX (n := 4) (As := [.int (N.2.2.2.2.2.2.2.2.2.2 (i + 1)), .int (N.2.2.2.2.2.2.2.2.2.2 (i + 2)), .int (N.2.2.2.2.2.2.2.2.2.2 (i + 3)), .int (N.2.2.2.2.2.2.2.2.2.2 (i + 4))]) (rest := []) C (c_X6_read N.2.1 VX C.2.2.1.1 C.2.2.1.2.1 (N.2.2.2.2.2.2.2.2.2.2 (i + 1)) (N.2.2.2.2.2.2.2.2.2.2 (i + 2)) (N.2.2.2.2.2.2.2.2.2.2 (i + 3)) (N.2.2.2.2.2.2.2.2.2.2 (i + 4)) σX) e1 gL_law_X6_read rfl (by decide +kernel) ⟨by decide, by decide⟩ rfl rfl rfl rfl (Nat.le_of_ble_eq_true rfl) dL_law_1255 ?_
  refine lg_aload2 C dL_law_1258 ?_
  refine lg_arg C (k := 1) rfl (by omega) dL_law_1259 dL_law_1260 dL_law_1261 dL_law_1262 dL_law_1263 ?_
  refine lg_arg C (k := 2) rfl (by omega) dL_law_1264 dL_law_1265 dL_law_1266 dL_law_1267 dL_law_1268 ?_
  refine lg_arg C (k := 3) rfl (by omega) dL_law_1269 dL_law_1270 dL_law_1271 dL_law_1272 dL_law_1273 ?_
  refine lg_arg C (k := 4) rfl (by omega) dL_law_1274 dL_law_1275 dL_law_1276 dL_law_1277 dL_law_1278 ?_
  refine lg_callM (n := 4) (As := [.int (N.2.2.2.2.2.2.2.2.2.2 (i + 1)), .int (N.2.2.2.2.2.2.2.2.2.2 (i + 2)), .int (N.2.2.2.2.2.2.2.2.2.2 (i + 3)), .int (N.2.2.2.2.2.2.2.2.2.2 (i + 4))]) (rest := [.int r]) C (c_X7_read N.2.1 VM C.2.2.2.1.1 C.2.2.2.1.2.1 (N.2.2.2.2.2.2.2.2.2.2 (i + 1)) (N.2.2.2.2.2.2.2.2.2.2 (i + 2)) (N.2.2.2.2.2.2.2.2.2.2 (i + 3)) (N.2.2.2.2.2.2.2.2.2.2 (i + 4)) σM) e2 gL_law_X7_read rfl (by decide +kernel) ⟨by decide, by decide⟩ rfl rfl rfl rfl (Nat.le_of_ble_eq_true rfl) dL_law_1279 ?_
  exact lg_same C (tgt := 1323) dL_law_1282 (by decide) (kk τX τM hR2)
theorem lc_torn (C : z_LC N VX VM) (hi : i + 5 ≤ N.2.2.2.2.2.2.2.2.2.1) (hR : z_Rel σX σM) (kk : ∀ σX σM, z_Rel σX σM → z_LG N VX VM σX σM 1323 (l_lv N VX VM i) []) : z_LG N VX VM σX σM 1287 (l_lv N VX VM i) [] := by
  obtain ⟨r, τX, τM, e1, e2, hR2⟩ := sim_torn hR
  refine lg_aload1 C dL_law_1287 ?_
  refine lg_callX (n := 0) (As := []) (rest := []) C (c_X6_torn N.2.1 VX C.2.2.1.1 C.2.2.1.2.1 σX) e1 gL_law_X6_torn rfl (by decide +kernel) ⟨by decide, by decide⟩ rfl rfl rfl rfl (Nat.le_of_ble_eq_true rfl) dL_law_1288 ?_
  refine lg_aload2 C dL_law_1291 ?_
  refine lg_callM (n := 0) (As := []) (rest := [.int r]) C (c_X7_torn N.2.1 VM C.2.2.2.1.1 C.2.2.2.1.2.1 σM) e2 gL_law_X7_torn rfl (by decide +kernel) ⟨by decide, by decide⟩ rfl rfl rfl rfl (Nat.le_of_ble_eq_true rfl) dL_law_1292 ?_
  exact lg_same C (tgt := 1323) dL_law_1295 (by decide) (kk τX τM hR2)
theorem lc_count (C : z_LC N VX VM) (hi : i + 5 ≤ N.2.2.2.2.2.2.2.2.2.1) (hR : z_Rel σX σM) (kk : ∀ σX σM, z_Rel σX σM → z_LG N VX VM σX σM 1323 (l_lv N VX VM i) []) : z_LG N VX VM σX σM 1300 (l_lv N VX VM i) [] := by
  obtain ⟨r, τX, τM, e1, e2, hR2⟩ := sim_count hR (N.2.2.2.2.2.2.2.2.2.2 (i + 1))
  refine lg_aload1 C dL_law_1300 ?_
  refine lg_arg C (k := 1) rfl (by omega) dL_law_1301 dL_law_1302 dL_law_1303 dL_law_1304 dL_law_1305 ?_
  refine lg_callX (n := 1) (As := [.int (N.2.2.2.2.2.2.2.2.2.2 (i + 1))]) (rest := []) C (c_X6_count N.2.1 VX C.2.2.1.1 C.2.2.1.2.1 (N.2.2.2.2.2.2.2.2.2.2 (i + 1)) σX) e1 gL_law_X6_count rfl (by decide +kernel) ⟨by decide, by decide⟩ rfl rfl rfl rfl (Nat.le_of_ble_eq_true rfl) dL_law_1306 ?_
  refine lg_aload2 C dL_law_1309 ?_
  refine lg_arg C (k := 1) rfl (by omega) dL_law_1310 dL_law_1311 dL_law_1312 dL_law_1313 dL_law_1314 ?_
  refine lg_callM (n := 1) (As := [.int (N.2.2.2.2.2.2.2.2.2.2 (i + 1))]) (rest := [.int r]) C (c_X7_count N.2.1 VM C.2.2.2.1.1 C.2.2.2.1.2.1 (N.2.2.2.2.2.2.2.2.2.2 (i + 1)) σM) e2 gL_law_X7_count rfl (by decide +kernel) ⟨by decide, by decide⟩ rfl rfl rfl rfl (Nat.le_of_ble_eq_true rfl) dL_law_1315 ?_
  exact lg_same C (tgt := 1323) dL_law_1318 (by decide) (kk τX τM hR2)
theorem zl_63 (x : Int32) : ∃ j, j < 64 ∧ x &&& 63 = nI j := by
  refine ⟨x.toBitVec.toNat % 2 ^ 6, Nat.mod_lt _ (by decide), ?_⟩
  have e : x = nI x.toBitVec.toNat := by
    apply Int32.toBitVec_inj.mp
    show x.toBitVec = BitVec.ofNat 32 _
    rw [BitVec.ofNat_toNat, BitVec.setWidth_eq]
  have h := fa_mask x.toBitVec.toNat 6
  rw [← e] at h
  exact h

theorem l_loop (C : z_LC N VX VM) : ∀ (n i : Nat) (σX σM : z_St), i ≤ N.2.2.2.2.2.2.2.2.2.1 → N.2.2.2.2.2.2.2.2.2.1 < i + n → z_Rel σX σM → z_LG N VX VM σX σM 18 (l_lv N VX VM i) [] := by
  have hL := C.2.1
  intro n
  induction n with
  | zero => intro i σX σM h1 h2; exact absurd h2 (by omega)
  | succ n ih =>
    intro i σX σM h1 h2 hR
    refine lg_iload C dL_law_18 (lg_aload0 C dL_law_19 ?_)
    intro ls H locs hl hP hQ hS
    refine va_slen C.1.1 C.1.2.1 C.1.2.2.2.2.2.2.1 C.1.2.2.2.2.2.2.2.1 (Nat.not_le.mpr C.1.2.2.2.2.2.2.2.1) hS dL_law_20 ?_
    refine lv_iconst (v := 5) C.1.1 C.1.2.1 dL_law_21 (by decide) ?_
    refine lv_isub C.1.1 C.1.2.1 dL_law_22 ?_
    refine lv_icmp_gt (tgt := 1329) C.1.1 C.1.2.1 dL_law_23 (by decide) (fun _ => ?_) (fun hc => ?_)
    · refine lv_iconst (v := 1) C.1.1 C.1.2.1 dL_law_1329 (by decide) ?_
      refine va_forget (fun q hq => hS.2.2 q hq) ?_
      exact lw_ret C.1.1 C.1.2.1 C.1.2.2.1 C.1.2.2.2.2.2.2.2.2.1 dL_law_1330
    · have h5 : i + 5 ≤ N.2.2.2.2.2.2.2.2.2.1 := by
        rcases Nat.lt_or_ge N.2.2.2.2.2.2.2.2.2.1 (i + 5) with q | q
        · refine absurd ?_ hc
          rw [fa_lt]
          rw [show ((Int32.ofNat N.2.2.2.2.2.2.2.2.2.1 - 5 : Int32)).toInt = (N.2.2.2.2.2.2.2.2.2.1 : Int) - 5 from pk_sub_toInt (a := N.2.2.2.2.2.2.2.2.2.1) (b := 5) (by omega) (by omega), nI_toInt (by omega)]
          omega
        · exact q
      have nx : ∀ σX σM, z_Rel σX σM → z_LG N VX VM σX σM 1323 (l_lv N VX VM i) [] := fun τX τM hR2 ls H locs hl hP hQ hS => by
        refine lv_iinc (v := nI (i + 5)) (lv' := l_lv N VX VM (i + 5)) C.1.1 C.1.2.1 dL_law_1323 hl (k := 0) rfl (zn_add i 5) (by decide) rfl (fun ls hl => ?_)
        refine lv_goto (tgt := 18) C.1.1 C.1.2.1 dL_law_1326 (by decide) ?_
        exact ih (i + 5) τX τM h5 (by omega) hR2 ls H locs hl hP hQ hS
      obtain ⟨j, hj, ej⟩ := zl_63 (N.2.2.2.2.2.2.2.2.2.2 i)
      revert ls H locs
      show z_LG N VX VM σX σM 26 (l_lv N VX VM i) []
      refine lg_aload0 C dL_law_26 (lg_iload C dL_law_27 (lg_sld C (by omega) dL_law_28 ?_))
      intro ls H locs hl hP hQ hS
      refine lv_bipush (v := 63) C.1.1 C.1.2.1 dL_law_29 (by decide) ?_
      refine lv_iand C.1.1 C.1.2.1 dL_law_31 ?_
      rw [ej]
      by_cases h39 : j < 39
      · have hj39 : j = 0 ∨ j = 1 ∨ j = 2 ∨ j = 3 ∨ j = 4 ∨ j = 5 ∨ j = 6 ∨ j = 7 ∨ j = 8 ∨ j = 9 ∨ j = 10 ∨ j = 11 ∨ j = 12 ∨ j = 13 ∨ j = 14 ∨ j = 15 ∨ j = 16 ∨ j = 17 ∨ j = 18 ∨ j = 19 ∨ j = 20 ∨ j = 21 ∨ j = 22 ∨ j = 23 ∨ j = 24 ∨ j = 25 ∨ j = 26 ∨ j = 27 ∨ j = 28 ∨ j = 29 ∨ j = 30 ∨ j = 31 ∨ j = 32 ∨ j = 33 ∨ j = 34 ∨ j = 35 ∨ j = 36 ∨ j = 37 ∨ j = 38 := by omega
        rcases hj39 with rfl | rfl | rfl | rfl | rfl | rfl | rfl | rfl | rfl | rfl | rfl | rfl | rfl | rfl | rfl | rfl | rfl | rfl | rfl | rfl | rfl | rfl | rfl | rfl | rfl | rfl | rfl | rfl | rfl | rfl | rfl | rfl | rfl | rfl | rfl | rfl | rfl | rfl | rfl
        · exact lv_tableIn (tgt := 204) C.1.1 C.1.2.1 dL_law_32 (by decide) (by decide) rfl (by decide) (lc_feed C h5 hR nx ls H locs hl hP hQ hS)
        · exact lv_tableIn (tgt := 227) C.1.1 C.1.2.1 dL_law_32 (by decide) (by decide) rfl (by decide) (lc_end C h5 hR nx ls H locs hl hP hQ hS)
        · exact lv_tableIn (tgt := 250) C.1.1 C.1.2.1 dL_law_32 (by decide) (by decide) rfl (by decide) (lc_text C h5 hR nx ls H locs hl hP hQ hS)
        · exact lv_tableIn (tgt := 263) C.1.1 C.1.2.1 dL_law_32 (by decide) (by decide) rfl (by decide) (lc_fault C h5 hR nx ls H locs hl hP hQ hS)
        · exact lv_tableIn (tgt := 276) C.1.1 C.1.2.1 dL_law_32 (by decide) (by decide) rfl (by decide) (lc_rule C h5 hR nx ls H locs hl hP hQ hS)
        · exact lv_tableIn (tgt := 299) C.1.1 C.1.2.1 dL_law_32 (by decide) (by decide) rfl (by decide) (lc_one C h5 hR nx ls H locs hl hP hQ hS)
        · exact lv_tableIn (tgt := 332) C.1.1 C.1.2.1 dL_law_32 (by decide) (by decide) rfl (by decide) (lc_trip C h5 hR nx ls H locs hl hP hQ hS)
        · exact lv_tableIn (tgt := 365) C.1.1 C.1.2.1 dL_law_32 (by decide) (by decide) rfl (by decide) (lc_asked C h5 hR nx ls H locs hl hP hQ hS)
        · exact lv_tableIn (tgt := 398) C.1.1 C.1.2.1 dL_law_32 (by decide) (by decide) rfl (by decide) (lc_deposit C h5 hR nx ls H locs hl hP hQ hS)
        · exact lv_tableIn (tgt := 447) C.1.1 C.1.2.1 dL_law_32 (by decide) (by decide) rfl (by decide) (lc_give C h5 hR nx ls H locs hl hP hQ hS)
        · exact lv_tableIn (tgt := 490) C.1.1 C.1.2.1 dL_law_32 (by decide) (by decide) rfl (by decide) (lc_draw C h5 hR nx ls H locs hl hP hQ hS)
        · exact lv_tableIn (tgt := 523) C.1.1 C.1.2.1 dL_law_32 (by decide) (by decide) rfl (by decide) (lc_rumour C h5 hR nx ls H locs hl hP hQ hS)
        · exact lv_tableIn (tgt := 546) C.1.1 C.1.2.1 dL_law_32 (by decide) (by decide) rfl (by decide) (lc_law C h5 hR nx ls H locs hl hP hQ hS)
        · exact lv_tableIn (tgt := 579) C.1.1 C.1.2.1 dL_law_32 (by decide) (by decide) rfl (by decide) (lc_teach C h5 hR nx ls H locs hl hP hQ hS)
        · exact lv_tableIn (tgt := 612) C.1.1 C.1.2.1 dL_law_32 (by decide) (by decide) rfl (by decide) (lc_go C h5 hR nx ls H locs hl hP hQ hS)
        · exact lv_tableIn (tgt := 635) C.1.1 C.1.2.1 dL_law_32 (by decide) (by decide) rfl (by decide) (lc_ahead C h5 hR nx ls H locs hl hP hQ hS)
        · exact lv_tableIn (tgt := 678) C.1.1 C.1.2.1 dL_law_32 (by decide) (by decide) rfl (by decide) (lc_first C h5 hR nx ls H locs hl hP hQ hS)
        · exact lv_tableIn (tgt := 701) C.1.1 C.1.2.1 dL_law_32 (by decide) (by decide) rfl (by decide) (lc_modest C h5 hR nx ls H locs hl hP hQ hS)
        · exact lv_tableIn (tgt := 714) C.1.1 C.1.2.1 dL_law_32 (by decide) (by decide) rfl (by decide) (lc_plan C h5 hR nx ls H locs hl hP hQ hS)
        · exact lv_tableIn (tgt := 737) C.1.1 C.1.2.1 dL_law_32 (by decide) (by decide) rfl (by decide) (lc_best C h5 hR nx ls H locs hl hP hQ hS)
        · exact lv_tableIn (tgt := 760) C.1.1 C.1.2.1 dL_law_32 (by decide) (by decide) rfl (by decide) (lc_save C h5 hR nx ls H locs hl hP hQ hS)
        · exact lv_tableIn (tgt := 783) C.1.1 C.1.2.1 dL_law_32 (by decide) (by decide) rfl (by decide) (lc_run C h5 hR nx ls H locs hl hP hQ hS)
        · exact lv_tableIn (tgt := 806) C.1.1 C.1.2.1 dL_law_32 (by decide) (by decide) rfl (by decide) (lc_holds C h5 hR nx ls H locs hl hP hQ hS)
        · exact lv_tableIn (tgt := 819) C.1.1 C.1.2.1 dL_law_32 (by decide) (by decide) rfl (by decide) (lc_cover C h5 hR nx ls H locs hl hP hQ hS)
        · exact lv_tableIn (tgt := 842) C.1.1 C.1.2.1 dL_law_32 (by decide) (by decide) rfl (by decide) (lc_rate C h5 hR nx ls H locs hl hP hQ hS)
        · exact lv_tableIn (tgt := 865) C.1.1 C.1.2.1 dL_law_32 (by decide) (by decide) rfl (by decide) (lc_gift C h5 hR nx ls H locs hl hP hQ hS)
        · exact lv_tableIn (tgt := 898) C.1.1 C.1.2.1 dL_law_32 (by decide) (by decide) rfl (by decide) (lc_told C h5 hR nx ls H locs hl hP hQ hS)
        · exact lv_tableIn (tgt := 931) C.1.1 C.1.2.1 dL_law_32 (by decide) (by decide) rfl (by decide) (lc_whisper C h5 hR nx ls H locs hl hP hQ hS)
        · exact lv_tableIn (tgt := 954) C.1.1 C.1.2.1 dL_law_32 (by decide) (by decide) rfl (by decide) (lc_note C h5 hR nx ls H locs hl hP hQ hS)
        · exact lv_tableIn (tgt := 1013) C.1.1 C.1.2.1 dL_law_32 (by decide) (by decide) rfl (by decide) (lc_forget C h5 hR nx ls H locs hl hP hQ hS)
        · exact lv_tableIn (tgt := 1036) C.1.1 C.1.2.1 dL_law_32 (by decide) (by decide) rfl (by decide) (lc_fits C h5 hR nx ls H locs hl hP hQ hS)
        · exact lv_tableIn (tgt := 1059) C.1.1 C.1.2.1 dL_law_32 (by decide) (by decide) rfl (by decide) (lc_drift C h5 hR nx ls H locs hl hP hQ hS)
        · exact lv_tableIn (tgt := 1102) C.1.1 C.1.2.1 dL_law_32 (by decide) (by decide) rfl (by decide) (lc_keep C h5 hR nx ls H locs hl hP hQ hS)
        · exact lv_tableIn (tgt := 1125) C.1.1 C.1.2.1 dL_law_32 (by decide) (by decide) rfl (by decide) (lc_back C h5 hR nx ls H locs hl hP hQ hS)
        · exact lv_tableIn (tgt := 1148) C.1.1 C.1.2.1 dL_law_32 (by decide) (by decide) rfl (by decide) (lc_sheet C h5 hR nx ls H locs hl hP hQ hS)
        · exact lv_tableIn (tgt := 1191) C.1.1 C.1.2.1 dL_law_32 (by decide) (by decide) rfl (by decide) (lc_lay C h5 hR nx ls H locs hl hP hQ hS)
        · exact lv_tableIn (tgt := 1234) C.1.1 C.1.2.1 dL_law_32 (by decide) (by decide) rfl (by decide) (lc_read C h5 hR nx ls H locs hl hP hQ hS)
        · exact lv_tableIn (tgt := 1287) C.1.1 C.1.2.1 dL_law_32 (by decide) (by decide) rfl (by decide) (lc_torn C h5 hR nx ls H locs hl hP hQ hS)
        · exact lv_tableIn (tgt := 1300) C.1.1 C.1.2.1 dL_law_32 (by decide) (by decide) rfl (by decide) (lc_count C h5 hR nx ls H locs hl hP hQ hS)
      · exact lv_tableOut (tgt := 1323) C.1.1 C.1.2.1 dL_law_32 (Or.inr (by rw [nI_toInt (by omega)]; omega)) (by decide) (nx σX σM hR ls H locs hl hP hQ hS)
end LW
