section ZS
variable {M : z_M} {R : Room} {nL : Nat} {V : z_V} {Qr : Int32 × z_St → Array Value → State → Outcome → State → Prop} {σ : z_St} {pc : Nat} {lv : List (Nat × Value)} {st : List Value} {T T1 T2 : Option (Int32 × z_St)} {cc : ByteArray} {ret : Option FieldType} {Ts : List Cond} {own : String}
theorem z_fx (hs : z_isX V) (hX : z_Cx M V cc nL ret Ts own) : z_FX V M.2.2.2.1 := hs.2 _ hX.2.2.2.2.1
theorem z_if_eqF (hX : z_Cx M V cc nL ret Ts own) {x : Int32} {off : Int} {tgt : Nat} (hd : decode cc pc = .ok (.ifCond .eq off, 3)) (ht : (pc : Int) + off = (tgt : Int)) (h : ¬ x = 0) (kf : z_Go M R nL V Qr σ (pc + 3) lv st T) : z_Go M R nL V Qr σ pc lv (.int x :: st) T := fun r hr ls H locs hl hP hS => lv_if_eq hX.1.1 hX.1.2.1 hd ht (fun q => absurd q h) (fun _ => kf r hr ls H locs hl hP hS)
theorem z_if_neF (hX : z_Cx M V cc nL ret Ts own) {x : Int32} {off : Int} {tgt : Nat} (hd : decode cc pc = .ok (.ifCond .ne off, 3)) (ht : (pc : Int) + off = (tgt : Int)) (h : x = 0) (kf : z_Go M R nL V Qr σ (pc + 3) lv st T) : z_Go M R nL V Qr σ pc lv (.int x :: st) T := fun r hr ls H locs hl hP hS => lv_if_ne hX.1.1 hX.1.2.1 hd ht (fun q => absurd h q) (fun _ => kf r hr ls H locs hl hP hS)
theorem z_if_ltF (hX : z_Cx M V cc nL ret Ts own) {x : Int32} {off : Int} {tgt : Nat} (hd : decode cc pc = .ok (.ifCond .lt off, 3)) (ht : (pc : Int) + off = (tgt : Int)) (h : ¬ x < 0) (kf : z_Go M R nL V Qr σ (pc + 3) lv st T) : z_Go M R nL V Qr σ pc lv (.int x :: st) T := fun r hr ls H locs hl hP hS => lv_if_lt hX.1.1 hX.1.2.1 hd ht (fun q => absurd q h) (fun _ => kf r hr ls H locs hl hP hS)
theorem z_icmp_ltT (hX : z_Cx M V cc nL ret Ts own) {x y : Int32} {off : Int} {tgt : Nat} (hd : decode cc pc = .ok (.if_icmp .lt off, 3)) (ht : (pc : Int) + off = (tgt : Int)) (h : x < y) (kt : z_Go M R nL V Qr σ tgt lv st T) : z_Go M R nL V Qr σ pc lv (.int y :: .int x :: st) T := fun r hr ls H locs hl hP hS => lv_icmp_lt hX.1.1 hX.1.2.1 hd ht (fun _ => kt r hr ls H locs hl hP hS) (fun q => absurd h q)
theorem z_gdI {i : Int32} {n : Nat} (kk : vp_in i n → z_Go M R nL V Qr σ pc lv st T) : z_Go M R nL V Qr σ pc lv st (z_gd i n T) := fun r hr ls H locs hl hP hS => kk (z_gd_some hr).1 r (z_gd_some hr).2 ls H locs hl hP hS
theorem z_nret {ty : FieldType} (hX : z_Cx M V cc nL (some ty) Ts own) {v : Int32} (hd : decode cc pc = .ok (.ireturn, 1)) (hn : narrow ty (.int v) = .int v) : z_Go M R nL V (z_QI V) σ pc lv [.int v] (some (v, σ)) := fun r hr ls H locs hl hP hS => W.zret hX.1.1 hX.1.2.1 hX.2.1 hn (fun t ht hW => ⟨⟨v, σ, rfl, ⟨by rw [← Option.some.inj hr], by rw [← Option.some.inj hr]⟩, show va_P V.1 vwCl (z_W V σ) t.heap by rw [ht]; exact hP⟩, hS.F ht⟩) hS.2.2 hd hX.2.2.1
theorem z_ldcs (hs : z_isX V) (hX : z_Cx M V cc nL ret Ts RX3) (i : Nat) (hi : i < 8) {index : Nat} (he : (z_sidx.getD i (0, "")).1 = index) (hd : decode cc pc = .ok (.ldc index, 2)) (kk : z_Go M R nL V Qr σ (pc + 2) lv (.ref (z_ad V (1000 + i)) :: st) T) : z_Go M R nL V Qr σ pc lv st T := fun r hr ls H locs hl hP hS => va_ldcS hX.1.1 hX.1.2.1 hX.1.2.2.2.1 (he ▸ (z_fx hs hX).2.2.2.1 i hi) hd (kk r hr ls H locs hl hP hS)
theorem z_gets (hX : z_Cx M V cc nL ret Ts own) {C n d : String} {v : Value} {index : Nat} (hZ : va_Z C n d v (z_A V) M.2.2.2.1 M.2.2.2.1.heap) (hlink : Cond.fieldLink own index C n d ∈ Ts) (hd : decode cc pc = .ok (.getstatic index, 3)) (kk : z_Go M R nL V Qr σ (pc + 3) lv (v :: st) T) : z_Go M R nL V Qr σ pc lv st T := fun r hr ls H locs hl hP hS => va_gets hX.1.1 hX.1.2.1 hZ hS hX.1.2.2.2.1 (hX.1.2.2.2.2 _ hlink) (fun _ h => h) hd (kk r hr ls H locs hl hP hS)
theorem z_getsQ (hX : z_Cx M V cc nL ret Ts own) {C n d : String} {index : Nat} (hZ : va_Zq C n d (z_A V) M.2.2.2.1 M.2.2.2.1.heap) (hlink : Cond.fieldLink own index C n d ∈ Ts) (hd : decode cc pc = .ok (.getstatic index, 3)) (k0 : z_Go M R nL V Qr σ (pc + 3) lv (.null :: st) T) (k1 : ∀ t : Nat, z_Go M R nL V Qr σ (pc + 3) lv (.ref t :: st) T) : z_Go M R nL V Qr σ pc lv st T := by
  rcases hZ with h | ⟨t, h⟩
  · exact z_gets hX h hlink hd k0
  · exact z_gets hX h hlink hd (k1 t)
theorem z_getSC (hs : z_isX V) (hX : z_Cx M V cc nL ret Ts own) {i index : Nat} (hi : i < 8) (hlink : Cond.fieldLink own index "java/lang/String" "coder" "B" ∈ Ts) (hd : decode cc pc = .ok (.getfield index, 3)) (kk : z_Go M R nL V Qr σ (pc + 3) lv (.int 0 :: st) T) : z_Go M R nL V Qr σ pc lv (.ref (z_ad V (1000 + i)) :: st) T := fun r hr ls H locs hl hP hS => vk_getf hX.1.1 hX.1.2.1 ((z_fx hs hX).2.2.2.2.1.1 i hi).2.1 hS hX.1.2.2.2.1 (hX.1.2.2.2.2 _ hlink) (fun _ h => h) hd (kk r hr ls H locs hl hP hS)
theorem z_getSV (hs : z_isX V) (hX : z_Cx M V cc nL ret Ts own) {i index : Nat} (hi : i < 8) (hlink : Cond.fieldLink own index "java/lang/String" "value" "[B" ∈ Ts) (hd : decode cc pc = .ok (.getfield index, 3)) (kk : z_Go M R nL V Qr σ (pc + 3) lv (.ref (z_ad V (1010 + i)) :: st) T) : z_Go M R nL V Qr σ pc lv (.ref (z_ad V (1000 + i)) :: st) T := fun r hr ls H locs hl hP hS => vk_getf hX.1.1 hX.1.2.1 ((z_fx hs hX).2.2.2.2.1.1 i hi).2.2.1 hS hX.1.2.2.2.1 (hX.1.2.2.2.2 _ hlink) (fun _ h => h) hd (kk r hr ls H locs hl hP hS)
theorem z_lenS (hs : z_isX V) (hX : z_Cx M V cc nL ret Ts own) {i : Nat} (hi : i < 8) (hd : decode cc pc = .ok (.arraylength, 1)) (kk : z_Go M R nL V Qr σ (pc + 1) lv (.int (nI (z_slen.getD i 0)) :: st) T) : z_Go M R nL V Qr σ pc lv (.ref (z_ad V (1010 + i)) :: st) T := fun r hr ls H locs hl hP hS => va_tlen hX.1.1 hX.1.2.1 ((z_fx hs hX).2.2.2.2.1.1 i hi).2.2.2 hS rfl hd (kk r hr ls H locs hl hP hS)
theorem z_baldS (hs : z_isX V) (hX : z_Cx M V cc nL ret Ts own) {i : Nat} (hi : i < 8) {k : Int32} (hk : vp_in k (z_slen.getD i 0)) (hd : decode cc pc = .ok (.baload, 1)) (kk : z_Go M R nL V Qr σ (pc + 1) lv (.int ((z_sbyt.getD i []).getD k.toNatClampNeg 0) :: st) T) : z_Go M R nL V Qr σ pc lv (.int k :: .ref (z_ad V (1010 + i)) :: st) T := fun r hr ls H locs hl hP hS => va_tb hX.1.1 hX.1.2.1 ((z_fx hs hX).2.2.2.2.1.1 i hi).2.2.2 hS hk rfl hd (kk r hr ls H locs hl hP hS)
theorem z_gets_NUMBERS_OF (hs : z_isX V) (hX : z_Cx M V cc nL ret Ts own) {index : Nat} (hlink : Cond.fieldLink own index "BlushBank$Scribe" "NUMBERS_OF" "[I" ∈ Ts) (hd : decode cc pc = .ok (.getstatic index, 3)) (kk : z_Go M R nL V Qr σ (pc + 3) lv (.ref (z_ad V 1008) :: st) T) : z_Go M R nL V Qr σ pc lv st T := z_gets hX (z_fx hs hX).2.1.1 hlink hd kk
theorem z_gets_BOUNDS (hs : z_isX V) (hX : z_Cx M V cc nL ret Ts own) {index : Nat} (hlink : Cond.fieldLink own index "BlushBank$Scribe" "BOUNDS" "[I" ∈ Ts) (hd : decode cc pc = .ok (.getstatic index, 3)) (kk : z_Go M R nL V Qr σ (pc + 3) lv (.ref (z_ad V 1009) :: st) T) : z_Go M R nL V Qr σ pc lv st T := z_gets hX (z_fx hs hX).2.2.1.1 hlink hd kk
theorem z_sald_NUMBERS_OF (hs : z_isX V) (hX : z_Cx M V cc nL ret Ts own) {i : Int32} (hd : decode cc pc = .ok (.iaload, 1)) (kk : z_Go M R nL V Qr σ (pc + 1) lv (.int (z_k_NUMBERS_OF i) :: st) T) : z_Go M R nL V Qr σ pc lv (.int i :: .ref (z_ad V 1008) :: st) (z_gd i 8 T) := fun r hr ls H locs hl hP hS => va_ti hX.1.1 hX.1.2.1 (z_fx hs hX).2.1.2 hS (z_gd_some hr).1 rfl hd (kk r (z_gd_some hr).2 ls H locs hl hP hS)
theorem z_sald_BOUNDS (hs : z_isX V) (hX : z_Cx M V cc nL ret Ts own) {i : Int32} (hd : decode cc pc = .ok (.iaload, 1)) (kk : z_Go M R nL V Qr σ (pc + 1) lv (.int (z_k_BOUNDS i) :: st) T) : z_Go M R nL V Qr σ pc lv (.int i :: .ref (z_ad V 1009) :: st) (z_gd i 32 T) := fun r hr ls H locs hl hP hS => va_ti hX.1.1 hX.1.2.1 (z_fx hs hX).2.2.1.2 hS (z_gd_some hr).1 rfl hd (kk r (z_gd_some hr).2 ls H locs hl hP hS)
theorem z_callKI (hs : z_isX V) (hX : z_Cx M V cc nL ret Ts own) {i : Nat} (hi : i < 8) {y : MethodName} {bytes : ByteArray} {maxL index n : Nat} {rt : Option FieldType} {ws ws' : List Cond} {rm : Room} {As rest stk : List Value} {T1 : Option (Int32 × z_St)} {g : Int32 × z_St → Option (Int32 × z_St)} (hc : z_CtI M.2.1 V y ws rm (.ref (z_ad V (1000 + i)) :: As) σ T1) (hG : GoodIn Ts (wsV own index "java/lang/String" y ws)) (hw : ws = Cond.code y bytes maxL rt :: ws') (hd : y.cls = "java/lang/String" ∧ y.cls ≠ "java/lang/invoke/MethodHandle" ∧ y.cls ≠ "java/lang/invoke/VarHandle" ∧ (parseMethodDescriptor y.desc).map (fun d => d.parameters.length) = some n) (hR : rm.frames + 1 ≤ R.frames ∧ 8 + (maxL + 11) + rm.locals ≤ R.locals) (hrc : rm.cells = 0) (hrs : rm.slots = 0) (hn : As.length = n) (hstk : stk = As.reverse ++ .ref (z_ad V (1000 + i)) :: rest) (hrest : (rest.map fun v => v.category).sum ≤ 8) (hdg : decode cc pc = .ok (.invokevirtual index, 3)) (kk : ∀ r : Int32 × z_St, T1 = some r → z_Go M R nL V Qr r.2 (pc + 3) lv (.int r.1 :: rest) (g r)) : z_Go M R nL V Qr σ pc lv stk (T1.bind g) := fun r hr ls H locs hl hP hS => by
  obtain ⟨r1, hr1, hr2⟩ := z_bind_some hr
  have hcw := cwV (R := R) n hX.1.2.2.2.2 hG hw hrc hrs hd hR
  refine va_calli (va_runV (As := As) (rest := rest) hX.1 (hc r1 hr1) hcw ⟨z_blind hX.2.2.2.2.2 _ σ, vk_recv (z_fx hs hX).2.2.2.2.1 hi hS, z_pre hX hP hS _⟩ rfl hn hl.1 hstk (lv_room hrest) hdg ⟨Nat.zero_le _, Nat.zero_le _⟩) hS (fun q _ h => h) (fun q h => h) (fun v u t H1 locs1 ht hvm hw hB hz1 hk1 hS1 => by
    obtain ⟨rfl, rfl⟩ := hw
    rw [ht] at hB
    exact kk r1 hr1 r hr2 ls H1 locs1 hl hB hS1)
end ZS
abbrev rm_J3_checkIndex_8e157 : Room := { frames := 0, cells := 0, slots := 0, locals := 0 }
abbrev rm_J0_checkIndex_df160 : Room := { frames := 1, cells := 0, slots := 0, locals := 22 }
abbrev rm_J1_charAt_3b067 : Room := { frames := 2, cells := 0, slots := 0, locals := 43 }
abbrev rm_J0_coder_7d493 : Room := { frames := 0, cells := 0, slots := 0, locals := 0 }
abbrev rm_J0_isLatin1_aae02 : Room := { frames := 0, cells := 0, slots := 0, locals := 0 }
abbrev rm_J0_length_8abf5 : Room := { frames := 1, cells := 0, slots := 0, locals := 20 }
abbrev rm_J0_charAt_5068e : Room := { frames := 3, cells := 0, slots := 0, locals := 64 }
set_option maxHeartbeats 4000000 in
set_option maxRecDepth 100000 in
theorem c_J3_checkIndex0 (l : Launch) (V : z_V) (hV : z_ok V) (k n : Int32) (h0 : ¬ k < 0) (h1 : k < n) (σ : z_St) : z_CtI l V yJ3_checkIndex_8e157 wsJ3_checkIndex_8e157 rm_J3_checkIndex_8e157 [.int k, .int n, .null] σ (some (k, σ)) := by
  refine z_startI (lv := [(0, .int k), (1, .int n), (2, .null)]) hV (by decide) rfl (Nat.le_of_ble_eq_true rfl) rfl ?_
  intro M hM hX
  have hX : z_Cx M V cJ3_checkIndex_8e157 3 (some .int) wsJ3_checkIndex_8e157 RJ3 := hX
  refine z_iload_n hX dJ3_checkIndex_8e157_0 rfl 0 rfl ?_
  refine z_if_ltF (tgt := 9) hX dJ3_checkIndex_8e157_1 (by decide) h0 ?_
  refine z_iload_n hX dJ3_checkIndex_8e157_4 rfl 0 rfl ?_
  refine z_iload_n hX dJ3_checkIndex_8e157_5 rfl 1 rfl ?_
  refine z_icmp_ltT (tgt := 16) hX dJ3_checkIndex_8e157_6 (by decide) h1 ?_
  refine z_iload_n hX dJ3_checkIndex_8e157_16 rfl 0 rfl ?_
  exact z_iret hX dJ3_checkIndex_8e157_17
set_option maxHeartbeats 4000000 in
set_option maxRecDepth 100000 in
theorem c_J3_checkIndex1 (l : Launch) (V : z_V) (hV : z_ok V) (k n : Int32) (t : Nat) (h0 : ¬ k < 0) (h1 : k < n) (σ : z_St) : z_CtI l V yJ3_checkIndex_8e157 wsJ3_checkIndex_8e157 rm_J3_checkIndex_8e157 [.int k, .int n, .ref t] σ (some (k, σ)) := by
  refine z_startI (lv := [(0, .int k), (1, .int n), (2, .ref t)]) hV (by decide) rfl (Nat.le_of_ble_eq_true rfl) rfl ?_
  intro M hM hX
  have hX : z_Cx M V cJ3_checkIndex_8e157 3 (some .int) wsJ3_checkIndex_8e157 RJ3 := hX
  refine z_iload_n hX dJ3_checkIndex_8e157_0 rfl 0 rfl ?_
  refine z_if_ltF (tgt := 9) hX dJ3_checkIndex_8e157_1 (by decide) h0 ?_
  refine z_iload_n hX dJ3_checkIndex_8e157_4 rfl 0 rfl ?_
  refine z_iload_n hX dJ3_checkIndex_8e157_5 rfl 1 rfl ?_
  refine z_icmp_ltT (tgt := 16) hX dJ3_checkIndex_8e157_6 (by decide) h1 ?_
  refine z_iload_n hX dJ3_checkIndex_8e157_16 rfl 0 rfl ?_
  exact z_iret hX dJ3_checkIndex_8e157_17
theorem lk_J0_ci : Cond.fieldLink RJ0 1053 "jdk/internal/util/Preconditions" "SIOOBE_FORMATTER" "Ljava/util/function/BiFunction;" ∈ wsJ0_checkIndex_df160 := by decide +kernel
set_option maxHeartbeats 4000000 in
set_option maxRecDepth 100000 in
theorem c_J0_checkIndex (l : Launch) (V : z_V) (hV : z_ok V) (hs : z_isX V) (k n : Int32) (h0 : ¬ k < 0) (h1 : k < n) (σ : z_St) : z_CtV l V yJ0_checkIndex_df160 wsJ0_checkIndex_df160 rm_J0_checkIndex_df160 [.int k, .int n] σ (some (0, σ)) := by
  refine z_startV (lv := [(0, .int k), (1, .int n)]) hV (by decide) rfl (Nat.le_of_ble_eq_true rfl) rfl ?_
  intro M hM hX
  have hX : z_Cx M V cJ0_checkIndex_df160 2 none wsJ0_checkIndex_df160 RJ0 := hX
  refine z_iload_n hX dJ0_checkIndex_df160_0 rfl 0 rfl ?_
  refine z_iload_n hX dJ0_checkIndex_df160_1 rfl 1 rfl ?_
  refine z_getsQ hX (z_fx hs hX).2.2.2.2.2.2 lk_J0_ci dJ0_checkIndex_df160_2 ?_ (fun t => ?_)
  · refine z_callSI (n := 3) (g := fun r => some (0, r.2)) hX (c_J3_checkIndex0 M.2.1 V hX.2.2.2.2.2 k n h0 h1 σ) gJ0_checkIndex_df160_J3_checkIndex_8e157 rfl (by decide +kernel) ⟨by decide, by decide⟩ rfl rfl rfl rfl (Nat.le_of_ble_eq_true rfl) dJ0_checkIndex_df160_5 (fun r _ => ?_)
    refine z_pop hX dJ0_checkIndex_df160_8 rfl ?_
    exact z_vret hX dJ0_checkIndex_df160_9
  · refine z_callSI (n := 3) (g := fun r => some (0, r.2)) hX (c_J3_checkIndex1 M.2.1 V hX.2.2.2.2.2 k n t h0 h1 σ) gJ0_checkIndex_df160_J3_checkIndex_8e157 rfl (by decide +kernel) ⟨by decide, by decide⟩ rfl rfl rfl rfl (Nat.le_of_ble_eq_true rfl) dJ0_checkIndex_df160_5 (fun r _ => ?_)
    refine z_pop hX dJ0_checkIndex_df160_8 rfl ?_
    exact z_vret hX dJ0_checkIndex_df160_9
set_option maxHeartbeats 4000000 in
set_option maxRecDepth 100000 in
theorem c_J1_charAt (l : Launch) (V : z_V) (hV : z_ok V) (hs : z_isX V) (i : Nat) (hi : i < 8) (k : Int32) (hk : vp_in k (z_slen.getD i 0)) (σ : z_St) : z_CtI l V yJ1_charAt_3b067 wsJ1_charAt_3b067 rm_J1_charAt_3b067 [.ref (z_ad V (1010 + i)), .int k] σ (some (z_ch i k, σ)) := by
  refine z_startI (lv := [(0, .ref (z_ad V (1010 + i))), (1, .int k)]) hV (by decide) rfl (Nat.le_of_ble_eq_true rfl) rfl ?_
  intro M hM hX
  have hX : z_Cx M V cJ1_charAt_3b067 2 (some .char) wsJ1_charAt_3b067 RJ1 := hX
  have hlen : z_slen.getD i 0 < 2 ^ 31 := by
    rcases (show i = 0 ∨ i = 1 ∨ i = 2 ∨ i = 3 ∨ i = 4 ∨ i = 5 ∨ i = 6 ∨ i = 7 by omega) with rfl | rfl | rfl | rfl | rfl | rfl | rfl | rfl <;> decide
  have h0 : ¬ k < 0 := fun h => hk (Or.inl h)
  have h1 : k < nI (z_slen.getD i 0) := by
    obtain ⟨j, hj, e⟩ := vp_in_of hk hlen
    rw [e]; exact nI_lt hj hlen
  refine z_iload_n hX dJ1_charAt_3b067_0 rfl 1 rfl ?_
  refine z_aload_n hX dJ1_charAt_3b067_1 rfl 0 rfl ?_
  refine z_lenS hs hX hi dJ1_charAt_3b067_2 ?_
  refine z_callSV (n := 2) (g := fun r => some (z_ch i k, r.2)) hX (c_J0_checkIndex M.2.1 V hX.2.2.2.2.2 hs k (nI (z_slen.getD i 0)) h0 h1 σ) gJ1_charAt_3b067_J0_checkIndex_df160 rfl (by decide +kernel) ⟨by decide, by decide⟩ rfl rfl rfl rfl (Nat.le_of_ble_eq_true rfl) dJ1_charAt_3b067_3 (fun r _ => ?_)
  refine z_aload_n hX dJ1_charAt_3b067_6 rfl 0 rfl ?_
  refine z_iload_n hX dJ1_charAt_3b067_7 rfl 1 rfl ?_
  refine z_baldS hs hX hi hk dJ1_charAt_3b067_8 ?_
  refine z_sipush (v := 255) hX dJ1_charAt_3b067_9 (by decide) ?_
  refine z_iand hX dJ1_charAt_3b067_12 ?_
  refine z_i2c hX dJ1_charAt_3b067_13 ?_
  exact z_nret hX dJ1_charAt_3b067_14 (pk_nc _)
theorem lk_J0_cs : Cond.fieldLink RJ0 38 "java/lang/String" "COMPACT_STRINGS" "Z" ∈ wsJ0_coder_7d493 := by decide +kernel
theorem lk_J0_cc : Cond.fieldLink RJ0 15 "java/lang/String" "coder" "B" ∈ wsJ0_coder_7d493 := by decide +kernel
theorem lk_J0_ls : Cond.fieldLink RJ0 38 "java/lang/String" "COMPACT_STRINGS" "Z" ∈ wsJ0_isLatin1_aae02 := by decide +kernel
theorem lk_J0_lc : Cond.fieldLink RJ0 15 "java/lang/String" "coder" "B" ∈ wsJ0_isLatin1_aae02 := by decide +kernel
theorem lk_J0_le : Cond.fieldLink RJ0 9 "java/lang/String" "value" "[B" ∈ wsJ0_length_8abf5 := by decide +kernel
theorem lk_J0_ca : Cond.fieldLink RJ0 9 "java/lang/String" "value" "[B" ∈ wsJ0_charAt_5068e := by decide +kernel
set_option maxHeartbeats 4000000 in
set_option maxRecDepth 100000 in
theorem c_J0_coder (l : Launch) (V : z_V) (hV : z_ok V) (hs : z_isX V) (i : Nat) (hi : i < 8) (σ : z_St) : z_CtI l V yJ0_coder_7d493 wsJ0_coder_7d493 rm_J0_coder_7d493 [.ref (z_ad V (1000 + i))] σ (some (0, σ)) := by
  refine z_startI (lv := [(0, .ref (z_ad V (1000 + i)))]) hV (by decide) rfl (Nat.le_of_ble_eq_true rfl) rfl ?_
  intro M hM hX
  have hX : z_Cx M V cJ0_coder_7d493 1 (some .byte) wsJ0_coder_7d493 RJ0 := hX
  refine z_gets hX (z_fx hs hX).2.2.2.2.2.1 lk_J0_cs dJ0_coder_7d493_0 ?_
  refine z_if_eqF (tgt := 13) hX dJ0_coder_7d493_3 (by decide) (by decide) ?_
  refine z_aload_n hX dJ0_coder_7d493_6 rfl 0 rfl ?_
  refine z_getSC hs hX hi lk_J0_cc dJ0_coder_7d493_7 ?_
  refine z_goto (tgt := 14) hX dJ0_coder_7d493_10 (by decide) ?_
  exact z_nret hX dJ0_coder_7d493_14 (by decide)
set_option maxHeartbeats 4000000 in
set_option maxRecDepth 100000 in
theorem c_J0_isLatin1 (l : Launch) (V : z_V) (hV : z_ok V) (hs : z_isX V) (i : Nat) (hi : i < 8) (σ : z_St) : z_CtI l V yJ0_isLatin1_aae02 wsJ0_isLatin1_aae02 rm_J0_isLatin1_aae02 [.ref (z_ad V (1000 + i))] σ (some (1, σ)) := by
  refine z_startI (lv := [(0, .ref (z_ad V (1000 + i)))]) hV (by decide) rfl (Nat.le_of_ble_eq_true rfl) rfl ?_
  intro M hM hX
  have hX : z_Cx M V cJ0_isLatin1_aae02 1 (some .boolean) wsJ0_isLatin1_aae02 RJ0 := hX
  refine z_gets hX (z_fx hs hX).2.2.2.2.2.1 lk_J0_ls dJ0_isLatin1_aae02_0 ?_
  refine z_if_eqF (tgt := 17) hX dJ0_isLatin1_aae02_3 (by decide) (by decide) ?_
  refine z_aload_n hX dJ0_isLatin1_aae02_6 rfl 0 rfl ?_
  refine z_getSC hs hX hi lk_J0_lc dJ0_isLatin1_aae02_7 ?_
  refine z_if_neF (tgt := 17) hX dJ0_isLatin1_aae02_10 (by decide) rfl ?_
  refine z_iconst (v := 1) hX dJ0_isLatin1_aae02_13 (by decide) ?_
  refine z_goto (tgt := 18) hX dJ0_isLatin1_aae02_14 (by decide) ?_
  exact z_zret hX dJ0_isLatin1_aae02_18 rfl
set_option maxHeartbeats 4000000 in
set_option maxRecDepth 100000 in
theorem c_J0_length_8abf5 (l : Launch) (V : z_V) (hV : z_ok V) (hs : z_isX V) (i : Nat) (hi : i < 8) (σ : z_St) : z_CtI l V yJ0_length_8abf5 wsJ0_length_8abf5 rm_J0_length_8abf5 [.ref (z_ad V (1000 + i))] σ (f_J0_length_8abf5 i σ) := by
  refine z_startI (lv := [(0, .ref (z_ad V (1000 + i)))]) hV (by decide) rfl (Nat.le_of_ble_eq_true rfl) rfl ?_
  intro M hM hX
  have hX : z_Cx M V cJ0_length_8abf5 1 (some .int) wsJ0_length_8abf5 RJ0 := hX
  refine z_aload_n hX dJ0_length_8abf5_0 rfl 0 rfl ?_
  refine z_getSV hs hX hi lk_J0_le dJ0_length_8abf5_1 ?_
  refine z_lenS hs hX hi dJ0_length_8abf5_4 ?_
  refine z_aload_n hX dJ0_length_8abf5_5 rfl 0 rfl ?_
  have e : f_J0_length_8abf5 i σ = (some ((0 : Int32), σ)).bind fun r => some (nI (z_slen.getD i 0) >>> (r.1 &&& 31), r.2) := by
    show _ = some (nI (z_slen.getD i 0) >>> ((0 : Int32) &&& 31), σ)
    rw [sb_shr0]; rfl
  rw [e]
  refine z_callKI hs hX hi (c_J0_coder M.2.1 V hX.2.2.2.2.2 hs i hi σ) gJ0_length_8abf5_J0_coder_7d493 rfl (by decide +kernel) ⟨by decide, by decide⟩ rfl rfl rfl rfl (Nat.le_of_ble_eq_true rfl) dJ0_length_8abf5_6 (fun r _ => ?_)
  refine z_ishr hX dJ0_length_8abf5_9 ?_
  exact z_iret hX dJ0_length_8abf5_10
set_option maxHeartbeats 4000000 in
set_option maxRecDepth 100000 in
theorem c_J0_charAt_5068e (l : Launch) (V : z_V) (hV : z_ok V) (hs : z_isX V) (i : Nat) (hi : i < 8) (k : Int32) (σ : z_St) : z_CtI l V yJ0_charAt_5068e wsJ0_charAt_5068e rm_J0_charAt_5068e [.ref (z_ad V (1000 + i)), .int k] σ (f_J0_charAt_5068e i k σ) := by
  refine z_startI (lv := [(0, .ref (z_ad V (1000 + i))), (1, .int k)]) hV (by decide) rfl (Nat.le_of_ble_eq_true rfl) rfl ?_
  intro M hM hX
  have hX : z_Cx M V cJ0_charAt_5068e 2 (some .char) wsJ0_charAt_5068e RJ0 := hX
  unfold f_J0_charAt_5068e
  refine z_gdI (fun hk => ?_)
  refine z_aload_n hX dJ0_charAt_5068e_0 rfl 0 rfl ?_
  have e : some (z_ch i k, σ) = (some ((1 : Int32), σ)).bind fun r => (if r.1 = (0 : Int32) then none else (some (z_ch i k, r.2)).bind fun q => some (z_ch i k, q.2)) := rfl
  rw [e]
  refine z_callKI hs hX hi (c_J0_isLatin1 M.2.1 V hX.2.2.2.2.2 hs i hi σ) gJ0_charAt_5068e_J0_isLatin1_aae02 rfl (by decide +kernel) ⟨by decide, by decide⟩ rfl rfl rfl rfl (Nat.le_of_ble_eq_true rfl) dJ0_charAt_5068e_1 (fun r _ => ?_)
  refine z_if_eq (tgt := 16) hX dJ0_charAt_5068e_4 (by decide) z_none ?_
  refine z_aload_n hX dJ0_charAt_5068e_7 rfl 0 rfl ?_
  refine z_getSV hs hX hi lk_J0_ca dJ0_charAt_5068e_8 ?_
  refine z_iload_n hX dJ0_charAt_5068e_11 rfl 1 rfl ?_
  have e2 : (some (z_ch i k, r.2)).bind (fun q => some (z_ch i k, q.2)) = (some (z_ch i k, r.2)).bind fun q => some (q.1, q.2) := rfl
  rw [e2]
  refine z_callSI (n := 2) hX (c_J1_charAt M.2.1 V hX.2.2.2.2.2 hs i hi k hk r.2) gJ0_charAt_5068e_J1_charAt_3b067 rfl (by decide +kernel) ⟨by decide, by decide⟩ rfl rfl rfl rfl (Nat.le_of_ble_eq_true rfl) dJ0_charAt_5068e_12 (fun q hq => ?_)
  obtain rfl := Option.some.inj hq
  exact z_nret hX dJ0_charAt_5068e_15 (pk_nc _)
