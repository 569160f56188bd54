def z_shX : List z_Sh := [.inl (6, [some 27, some 4, some 11, some 23, some 17, some 1, some 2, some 3, none]), .inr (.inl (0, 4)), .inr (.inr (3, [43, 54])), .inr (.inr (4, [65, 67, 69, 71])), .inl (5, [none, some (4 + 1), some (4 + 2), some (4 + 3), none, some (4 + 4), some (4 + 5), some (4 + 6)]), .inr (.inl (0, 6)), .inr (.inl (0, 6)), .inr (.inl (0, 6)), .inr (.inl (0, 6)), .inr (.inl (0, 6)), .inr (.inl (0, 6)), .inl (1, [none, some (11 + 1), some (11 + 2), some (11 + 3), some (11 + 4), some (11 + 5), none, none, none, none, none]), .inr (.inl (0, 4)), .inr (.inl (0, 4)), .inr (.inl (0, 4)), .inr (.inl (0, 4)), .inr (.inl (0, 6)), .inl (1, [none, some (17 + 1), some (17 + 2), some (17 + 3), some (17 + 4), some (17 + 5), none, none, none, none, none]), .inr (.inl (0, 4)), .inr (.inl (0, 4)), .inr (.inl (0, 4)), .inr (.inl (0, 4)), .inr (.inl (0, 6)), .inl (2, [none, some (23 + 1), some (23 + 2), some (23 + 3)]), .inr (.inl (0, 6)), .inr (.inl (0, 6)), .inr (.inl (0, 6)), .inl (3, [some 30, some 37, none, none, some 28, some 29, none, none, none, none, none, none]), .inr (.inl (1, 160)), .inr (.inl (0, 4)), .inl (5, [none, some (30 + 1), some (30 + 2), some (30 + 3), none, some (30 + 4), some (30 + 5), some (30 + 6)]), .inr (.inl (0, 6)), .inr (.inl (0, 6)), .inr (.inl (0, 6)), .inr (.inl (0, 6)), .inr (.inl (0, 6)), .inr (.inl (0, 6)), .inl (1, [none, some (37 + 1), some (37 + 2), some (37 + 3), some (37 + 4), some (37 + 5), none, none, none, none, none]), .inr (.inl (0, 4)), .inr (.inl (0, 4)), .inr (.inl (0, 4)), .inr (.inl (0, 4)), .inr (.inl (0, 6)), .inl (0, [none, some (43 + 1), some (43 + 7)]), .inl (1, [none, some ((43 + 1) + 1), some ((43 + 1) + 2), some ((43 + 1) + 3), some ((43 + 1) + 4), some ((43 + 1) + 5), none, none, none, none, none]), .inr (.inl (0, 4)), .inr (.inl (0, 4)), .inr (.inl (0, 4)), .inr (.inl (0, 4)), .inr (.inl (0, 6)), .inl (2, [none, some ((43 + 7) + 1), some ((43 + 7) + 2), some ((43 + 7) + 3)]), .inr (.inl (0, 6)), .inr (.inl (0, 6)), .inr (.inl (0, 6)), .inl (0, [none, some (54 + 1), some (54 + 7)]), .inl (1, [none, some ((54 + 1) + 1), some ((54 + 1) + 2), some ((54 + 1) + 3), some ((54 + 1) + 4), some ((54 + 1) + 5), none, none, none, none, none]), .inr (.inl (0, 4)), .inr (.inl (0, 4)), .inr (.inl (0, 4)), .inr (.inl (0, 4)), .inr (.inl (0, 6)), .inl (2, [none, some ((54 + 7) + 1), some ((54 + 7) + 2), some ((54 + 7) + 3)]), .inr (.inl (0, 6)), .inr (.inl (0, 6)), .inr (.inl (0, 6)), .inl (4, [none, none, some (65 + 1)]), .inr (.inl (0, 40)), .inl (4, [none, none, some (67 + 1)]), .inr (.inl (0, 40)), .inl (4, [none, none, some (69 + 1)]), .inr (.inl (0, 40)), .inl (4, [none, none, some (71 + 1)]), .inr (.inl (0, 40))]
def z_shM : List z_Sh := [.inl (7, [some 1, some 2, some 3, none, none, none, some 4, some 5, some 6, some 7, some 8, some 9, some 10, none, none, none, some 11, some 12, some 13, some 14, some 15, some 16, none, none, some 17, none, none, none, none, none, none, none, none, some 18, some 19, some 20, some 21, none, some 22]), .inr (.inl (0, 135)), .inr (.inl (0, 45)), .inr (.inl (2, 2)), .inr (.inl (0, 6)), .inr (.inl (0, 6)), .inr (.inl (0, 6)), .inr (.inl (0, 6)), .inr (.inl (0, 6)), .inr (.inl (0, 6)), .inr (.inl (0, 45)), .inr (.inl (0, 6)), .inr (.inl (0, 6)), .inr (.inl (0, 6)), .inr (.inl (0, 6)), .inr (.inl (0, 6)), .inr (.inl (0, 6)), .inr (.inl (0, 160)), .inr (.inl (0, 4)), .inr (.inl (0, 4)), .inr (.inl (0, 4)), .inr (.inl (0, 160)), .inr (.inl (0, 45))]
abbrev z_Led (b : Nat) : Prop := b = 11 ∨ b = 17 ∨ b = 37 ∨ b = 44 ∨ b = 55
theorem z_isled11 : z_Led 11 := by decide
theorem z_isled17 : z_Led 17 := by decide
theorem z_isled37 : z_Led 37 := by decide
theorem z_isled44 : z_Led 44 := by decide
theorem z_isled55 : z_Led 55 := by decide
abbrev z_Sto (b : Nat) : Prop := b = 4 ∨ b = 30
theorem z_issto4 : z_Sto 4 := by decide
theorem z_issto30 : z_Sto 30 := by decide
abbrev z_Nts (b : Nat) : Prop := b = 23 ∨ b = 50 ∨ b = 61
theorem z_isnts23 : z_Nts 23 := by decide
theorem z_isnts50 : z_Nts 50 := by decide
theorem z_isnts61 : z_Nts 61 := by decide
abbrev z_She (b : Nat) : Prop := b = 65 ∨ b = 67 ∨ b = 69 ∨ b = 71
theorem z_isshe65 : z_She 65 := by decide
theorem z_isshe67 : z_She 67 := by decide
theorem z_isshe69 : z_She 69 := by decide
theorem z_isshe71 : z_She 71 := by decide
abbrev z_Img (b : Nat) : Prop := b = 43 ∨ b = 54
theorem z_isimg43 : z_Img 43 := by decide
theorem z_isimg54 : z_Img 54 := by decide
def z_slen : List Nat := [5, 6, 5, 5, 4, 5, 8, 5]
def z_sbyt : List (List Int32) := [[112, 108, 97, 105, 110], [98, 105, 115, 104, 111, 112], [98, 114, 105, 100, 101], [119, 105, 100, 111, 119], [116, 114, 105, 112], [97, 115, 107, 101, 100], [105, 110, 116, 101, 114, 101, 115, 116], [99, 111, 118, 101, 114]]
def z_sidx : List (Nat × String) := [(120, "plain"), (126, "bishop"), (128, "bride"), (130, "widow"), (132, "trip"), (134, "asked"), (136, "interest"), (137, "cover")]
def z_l_NUMBERS_OF : List Int32 := [1, 1, 1, 1, 4, 3, 1, 1]
def z_l_BOUNDS : List Int32 := [99, 0, 0, 0, 99, 0, 0, 0, 99, 0, 0, 0, 99, 0, 0, 0, 3, 9, 9, 9, 3, 9, 30, 0, 9, 0, 0, 0, 99, 0, 0, 0]
def z_k_NUMBERS_OF (i : Int32) : Int32 := z_l_NUMBERS_OF.getD i.toNatClampNeg 0
def z_k_BOUNDS (i : Int32) : Int32 := z_l_BOUNDS.getD i.toNatClampNeg 0
/-- what is fixed for the class: a link between nest mates, two static rows, the eight words, two statics of the JDK -/
def z_FX (V : z_V) (U : State) : Prop := va_Nw (.methodLinkNest "BlushBank$Ledger" 66 ⟨"BlushBank", "isWithin", "(II)Z"⟩ "BlushBank") U
  ∧ (va_Z "BlushBank$Scribe" "NUMBERS_OF" "[I" (.ref (z_ad V 1008)) (z_A V) U U.heap ∧ va_T .int (z_ad V 1008) 8 (fun k => .int (z_l_NUMBERS_OF.getD k 0)) (z_A V) U U.heap)
  ∧ (va_Z "BlushBank$Scribe" "BOUNDS" "[I" (.ref (z_ad V 1009)) (z_A V) U U.heap ∧ va_T .int (z_ad V 1009) 32 (fun k => .int (z_l_BOUNDS.getD k 0)) (z_A V) U U.heap)
  ∧ (∀ i, i < 8 → vk_R "BlushBank$Scribe" (z_sidx.getD i (0, "")).1 (z_sidx.getD i (0, "")).2 (z_ad V (1000 + i)) U)
  ∧ vk_S 8 z_slen z_sbyt (fun i => z_ad V (1000 + i)) (fun i => z_ad V (1010 + i)) (z_A V) U U.heap
  ∧ va_Z "java/lang/String" "COMPACT_STRINGS" "Z" (.int 1) (z_A V) U U.heap
  ∧ va_Zq "jdk/internal/util/Preconditions" "SIOOBE_FORMATTER" "Ljava/util/function/BiFunction;" (z_A V) U U.heap
def z_isX (V : z_V) : Prop := z_sh V = z_shX ∧ ∀ U, V.2.2.2.2 U → z_FX V U
def z_isM (V : z_V) : Prop := z_sh V = z_shM
theorem z_led0 {V : z_V} (hs : z_isX V) {b : Nat} (hb : z_Led b) : (z_sh V)[b]? = some (.inl (1, [none, some (b + 1), some (b + 2), some (b + 3), some (b + 4), some (b + 5), none, none, none, none, none])) := by
  rw [hs.1]
  rcases hb with rfl | rfl | rfl | rfl | rfl <;> rfl
theorem z_led1 {V : z_V} (hs : z_isX V) {b : Nat} (hb : z_Led b) : (z_sh V)[b + 1]? = some (.inr (.inl (0, 4))) := by
  rw [hs.1]
  rcases hb with rfl | rfl | rfl | rfl | rfl <;> rfl
theorem z_led2 {V : z_V} (hs : z_isX V) {b : Nat} (hb : z_Led b) : (z_sh V)[b + 2]? = some (.inr (.inl (0, 4))) := by
  rw [hs.1]
  rcases hb with rfl | rfl | rfl | rfl | rfl <;> rfl
theorem z_led3 {V : z_V} (hs : z_isX V) {b : Nat} (hb : z_Led b) : (z_sh V)[b + 3]? = some (.inr (.inl (0, 4))) := by
  rw [hs.1]
  rcases hb with rfl | rfl | rfl | rfl | rfl <;> rfl
theorem z_led4 {V : z_V} (hs : z_isX V) {b : Nat} (hb : z_Led b) : (z_sh V)[b + 4]? = some (.inr (.inl (0, 4))) := by
  rw [hs.1]
  rcases hb with rfl | rfl | rfl | rfl | rfl <;> rfl
theorem z_led5 {V : z_V} (hs : z_isX V) {b : Nat} (hb : z_Led b) : (z_sh V)[b + 5]? = some (.inr (.inl (0, 6))) := by
  rw [hs.1]
  rcases hb with rfl | rfl | rfl | rfl | rfl <;> rfl
theorem z_sto0 {V : z_V} (hs : z_isX V) {b : Nat} (hb : z_Sto b) : (z_sh V)[b]? = some (.inl (5, [none, some (b + 1), some (b + 2), some (b + 3), none, some (b + 4), some (b + 5), some (b + 6)])) := by
  rw [hs.1]
  rcases hb with rfl | rfl <;> rfl
theorem z_sto1 {V : z_V} (hs : z_isX V) {b : Nat} (hb : z_Sto b) : (z_sh V)[b + 1]? = some (.inr (.inl (0, 6))) := by
  rw [hs.1]
  rcases hb with rfl | rfl <;> rfl
theorem z_sto2 {V : z_V} (hs : z_isX V) {b : Nat} (hb : z_Sto b) : (z_sh V)[b + 2]? = some (.inr (.inl (0, 6))) := by
  rw [hs.1]
  rcases hb with rfl | rfl <;> rfl
theorem z_sto3 {V : z_V} (hs : z_isX V) {b : Nat} (hb : z_Sto b) : (z_sh V)[b + 3]? = some (.inr (.inl (0, 6))) := by
  rw [hs.1]
  rcases hb with rfl | rfl <;> rfl
theorem z_sto4 {V : z_V} (hs : z_isX V) {b : Nat} (hb : z_Sto b) : (z_sh V)[b + 4]? = some (.inr (.inl (0, 6))) := by
  rw [hs.1]
  rcases hb with rfl | rfl <;> rfl
theorem z_sto5 {V : z_V} (hs : z_isX V) {b : Nat} (hb : z_Sto b) : (z_sh V)[b + 5]? = some (.inr (.inl (0, 6))) := by
  rw [hs.1]
  rcases hb with rfl | rfl <;> rfl
theorem z_sto6 {V : z_V} (hs : z_isX V) {b : Nat} (hb : z_Sto b) : (z_sh V)[b + 6]? = some (.inr (.inl (0, 6))) := by
  rw [hs.1]
  rcases hb with rfl | rfl <;> rfl
theorem z_nts0 {V : z_V} (hs : z_isX V) {b : Nat} (hb : z_Nts b) : (z_sh V)[b]? = some (.inl (2, [none, some (b + 1), some (b + 2), some (b + 3)])) := by
  rw [hs.1]
  rcases hb with rfl | rfl | rfl <;> rfl
theorem z_nts1 {V : z_V} (hs : z_isX V) {b : Nat} (hb : z_Nts b) : (z_sh V)[b + 1]? = some (.inr (.inl (0, 6))) := by
  rw [hs.1]
  rcases hb with rfl | rfl | rfl <;> rfl
theorem z_nts2 {V : z_V} (hs : z_isX V) {b : Nat} (hb : z_Nts b) : (z_sh V)[b + 2]? = some (.inr (.inl (0, 6))) := by
  rw [hs.1]
  rcases hb with rfl | rfl | rfl <;> rfl
theorem z_nts3 {V : z_V} (hs : z_isX V) {b : Nat} (hb : z_Nts b) : (z_sh V)[b + 3]? = some (.inr (.inl (0, 6))) := by
  rw [hs.1]
  rcases hb with rfl | rfl | rfl <;> rfl
theorem z_she0 {V : z_V} (hs : z_isX V) {b : Nat} (hb : z_She b) : (z_sh V)[b]? = some (.inl (4, [none, none, some (b + 1)])) := by
  rw [hs.1]
  rcases hb with rfl | rfl | rfl | rfl <;> rfl
theorem z_she1 {V : z_V} (hs : z_isX V) {b : Nat} (hb : z_She b) : (z_sh V)[b + 1]? = some (.inr (.inl (0, 40))) := by
  rw [hs.1]
  rcases hb with rfl | rfl | rfl | rfl <;> rfl
theorem z_img0 {V : z_V} (hs : z_isX V) {b : Nat} (hb : z_Img b) : (z_sh V)[b]? = some (.inl (0, [none, some (b + 1), some (b + 7)])) := by
  rw [hs.1]
  rcases hb with rfl | rfl <;> rfl
theorem z_imgled {b : Nat} (hb : z_Img b) : z_Led (b + 1) := by rcases hb with rfl | rfl <;> decide
theorem z_imgnts {b : Nat} (hb : z_Img b) : z_Nts (b + 7) := by rcases hb with rfl | rfl <;> decide
theorem z_imgin {i : Int32} (h : vp_in i 2) : z_Img (43 + 11 * i.toNatClampNeg) := by
  obtain ⟨j, hj, hij⟩ := vp_in_of h (by decide)
  rw [hij, nI_clamp (by omega)]
  rcases (show j = 0 ∨ j = 1 by omega) with rfl | rfl <;> decide
theorem z_shein {i : Int32} (h : vp_in i 4) : z_She (65 + 2 * i.toNatClampNeg) := by
  obtain ⟨j, hj, hij⟩ := vp_in_of h (by decide)
  rw [hij, nI_clamp (by omega)]
  rcases (show j = 0 ∨ j = 1 ∨ j = 2 ∨ j = 3 by omega) with rfl | rfl | rfl | rfl <;> decide
theorem z_bnk0 {V : z_V} (hs : z_isX V) : (z_sh V)[0]? = some (.inl (6, [some 27, some 4, some 11, some 23, some 17, some 1, some 2, some 3, none])) := by rw [hs.1]; rfl
theorem z_bnk1 {V : z_V} (hs : z_isX V) : (z_sh V)[1]? = some (.inr (.inl (0, 4))) := by rw [hs.1]; rfl
theorem z_bnk2 {V : z_V} (hs : z_isX V) : (z_sh V)[2]? = some (.inr (.inr (3, [43, 54]))) := by rw [hs.1]; rfl
theorem z_bnk3 {V : z_V} (hs : z_isX V) : (z_sh V)[3]? = some (.inr (.inr (4, [65, 67, 69, 71]))) := by rw [hs.1]; rfl
theorem z_scr0 {V : z_V} (hs : z_isX V) : (z_sh V)[27]? = some (.inl (3, [some 30, some 37, none, none, some 28, some 29, none, none, none, none, none, none])) := by rw [hs.1]; rfl
theorem z_scr1 {V : z_V} (hs : z_isX V) : (z_sh V)[28]? = some (.inr (.inl (1, 160))) := by rw [hs.1]; rfl
theorem z_scr2 {V : z_V} (hs : z_isX V) : (z_sh V)[29]? = some (.inr (.inl (0, 4))) := by rw [hs.1]; rfl
theorem z_mod0 {V : z_V} (hs : z_isM V) : (z_sh V)[0]? = some (.inl (7, [some 1, some 2, some 3, none, none, none, some 4, some 5, some 6, some 7, some 8, some 9, some 10, none, none, none, some 11, some 12, some 13, some 14, some 15, some 16, none, none, some 17, none, none, none, none, none, none, none, none, some 18, some 19, some 20, some 21, none, some 22])) := by rw [hs]; rfl
theorem z_mod1 {V : z_V} (hs : z_isM V) : (z_sh V)[1]? = some (.inr (.inl (0, 135))) := by rw [hs]; rfl
theorem z_mod2 {V : z_V} (hs : z_isM V) : (z_sh V)[2]? = some (.inr (.inl (0, 45))) := by rw [hs]; rfl
theorem z_mod3 {V : z_V} (hs : z_isM V) : (z_sh V)[3]? = some (.inr (.inl (2, 2))) := by rw [hs]; rfl
theorem z_mod4 {V : z_V} (hs : z_isM V) : (z_sh V)[4]? = some (.inr (.inl (0, 6))) := by rw [hs]; rfl
theorem z_mod5 {V : z_V} (hs : z_isM V) : (z_sh V)[5]? = some (.inr (.inl (0, 6))) := by rw [hs]; rfl
theorem z_mod6 {V : z_V} (hs : z_isM V) : (z_sh V)[6]? = some (.inr (.inl (0, 6))) := by rw [hs]; rfl
theorem z_mod7 {V : z_V} (hs : z_isM V) : (z_sh V)[7]? = some (.inr (.inl (0, 6))) := by rw [hs]; rfl
theorem z_mod8 {V : z_V} (hs : z_isM V) : (z_sh V)[8]? = some (.inr (.inl (0, 6))) := by rw [hs]; rfl
theorem z_mod9 {V : z_V} (hs : z_isM V) : (z_sh V)[9]? = some (.inr (.inl (0, 6))) := by rw [hs]; rfl
theorem z_mod10 {V : z_V} (hs : z_isM V) : (z_sh V)[10]? = some (.inr (.inl (0, 45))) := by rw [hs]; rfl
theorem z_mod11 {V : z_V} (hs : z_isM V) : (z_sh V)[11]? = some (.inr (.inl (0, 6))) := by rw [hs]; rfl
theorem z_mod12 {V : z_V} (hs : z_isM V) : (z_sh V)[12]? = some (.inr (.inl (0, 6))) := by rw [hs]; rfl
theorem z_mod13 {V : z_V} (hs : z_isM V) : (z_sh V)[13]? = some (.inr (.inl (0, 6))) := by rw [hs]; rfl
theorem z_mod14 {V : z_V} (hs : z_isM V) : (z_sh V)[14]? = some (.inr (.inl (0, 6))) := by rw [hs]; rfl
theorem z_mod15 {V : z_V} (hs : z_isM V) : (z_sh V)[15]? = some (.inr (.inl (0, 6))) := by rw [hs]; rfl
theorem z_mod16 {V : z_V} (hs : z_isM V) : (z_sh V)[16]? = some (.inr (.inl (0, 6))) := by rw [hs]; rfl
theorem z_mod17 {V : z_V} (hs : z_isM V) : (z_sh V)[17]? = some (.inr (.inl (0, 160))) := by rw [hs]; rfl
theorem z_mod18 {V : z_V} (hs : z_isM V) : (z_sh V)[18]? = some (.inr (.inl (0, 4))) := by rw [hs]; rfl
theorem z_mod19 {V : z_V} (hs : z_isM V) : (z_sh V)[19]? = some (.inr (.inl (0, 4))) := by rw [hs]; rfl
theorem z_mod20 {V : z_V} (hs : z_isM V) : (z_sh V)[20]? = some (.inr (.inl (0, 4))) := by rw [hs]; rfl
theorem z_mod21 {V : z_V} (hs : z_isM V) : (z_sh V)[21]? = some (.inr (.inl (0, 160))) := by rw [hs]; rfl
theorem z_mod22 {V : z_V} (hs : z_isM V) : (z_sh V)[22]? = some (.inr (.inl (0, 45))) := by rw [hs]; rfl
section ZQ
variable {M : z_M} {R : Room} {nL : Nat} {V : z_V} {Qr : Int32 × z_St → Array Value → State → Outcome → State → Prop} {σ : z_St} {pc : Nat} {lv : List (Nat × Value)} {st : List Value} {T T1 T2 : Option (Int32 × z_St)} {cc : ByteArray} {ret : Option FieldType} {Ts : List Cond} {own : String}
theorem z_nest_X1_takeOut_66 (hs : z_isX V) (hX : z_Cx M V cc nL ret Ts own) : va_Nw (.methodLinkNest RX1 66 yX6_isWithin "BlushBank") M.2.2.2.1 := (hs.2 _ hX.2.2.2.2.1).1
end ZQ
