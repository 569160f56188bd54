section
-- ===== PART A: goes FIRST, ahead of the names: the tables' words, and 'selects' of the private methods out of them =====
/-- a private method of a class that the tables say can be made, by its rows of tables_1 -/
def lw_okq (q : MethodName × Nat) : Prop := (q.1.cls ≠ "java/lang/invoke/MethodHandle" ∧ q.1.cls ≠ "java/lang/invoke/VarHandle") ∧ Cond.instantiable q.1.cls q.2 ∈ tables_1 ∧ Cond.privateMethod q.1 ∈ tables_1 ∧ Cond.instanceMethod q.1 ∈ tables_1
theorem lw_p0 : lw_okq (⟨"BlushBank$Scribe", "begin", "()V"⟩, 12) := ⟨⟨by decide +kernel, by decide +kernel⟩, List.mem_of_getElem? (i := 26) (by decide +kernel), List.mem_of_getElem? (i := 305) (by decide +kernel), List.mem_of_getElem? (i := 306) (by decide +kernel)⟩
theorem lw_p1 : lw_okq (⟨"BlushBank$Scribe", "nextToken", "()V"⟩, 12) := ⟨⟨by decide +kernel, by decide +kernel⟩, List.mem_of_getElem? (i := 26) (by decide +kernel), List.mem_of_getElem? (i := 309) (by decide +kernel), List.mem_of_getElem? (i := 310) (by decide +kernel)⟩
theorem lw_p2 : lw_okq (⟨"BlushBank$Scribe", "isLetter", "(I)Z"⟩, 12) := ⟨⟨by decide +kernel, by decide +kernel⟩, List.mem_of_getElem? (i := 26) (by decide +kernel), List.mem_of_getElem? (i := 313) (by decide +kernel), List.mem_of_getElem? (i := 314) (by decide +kernel)⟩
theorem lw_p3 : lw_okq (⟨"BlushBank$Scribe", "isFigure", "(I)Z"⟩, 12) := ⟨⟨by decide +kernel, by decide +kernel⟩, List.mem_of_getElem? (i := 26) (by decide +kernel), List.mem_of_getElem? (i := 317) (by decide +kernel), List.mem_of_getElem? (i := 318) (by decide +kernel)⟩
theorem lw_p4 : lw_okq (⟨"BlushBank$Scribe", "refuse", "(I)V"⟩, 12) := ⟨⟨by decide +kernel, by decide +kernel⟩, List.mem_of_getElem? (i := 26) (by decide +kernel), List.mem_of_getElem? (i := 321) (by decide +kernel), List.mem_of_getElem? (i := 322) (by decide +kernel)⟩
theorem lw_p5 : lw_okq (⟨"BlushBank$Scribe", "readLine", "()V"⟩, 12) := ⟨⟨by decide +kernel, by decide +kernel⟩, List.mem_of_getElem? (i := 26) (by decide +kernel), List.mem_of_getElem? (i := 325) (by decide +kernel), List.mem_of_getElem? (i := 326) (by decide +kernel)⟩
theorem lw_p6 : lw_okq (⟨"BlushBank$Scribe", "wordRead", "()I"⟩, 12) := ⟨⟨by decide +kernel, by decide +kernel⟩, List.mem_of_getElem? (i := 26) (by decide +kernel), List.mem_of_getElem? (i := 329) (by decide +kernel), List.mem_of_getElem? (i := 330) (by decide +kernel)⟩
theorem lw_p7 : lw_okq (⟨"BlushBank$Scribe", "isWord", "(Ljava/lang/String;)Z"⟩, 12) := ⟨⟨by decide +kernel, by decide +kernel⟩, List.mem_of_getElem? (i := 26) (by decide +kernel), List.mem_of_getElem? (i := 334) (by decide +kernel), List.mem_of_getElem? (i := 335) (by decide +kernel)⟩
theorem lw_p8 : lw_okq (⟨"BlushBank$Scribe", "faultOfWord", "(I)I"⟩, 12) := ⟨⟨by decide +kernel, by decide +kernel⟩, List.mem_of_getElem? (i := 26) (by decide +kernel), List.mem_of_getElem? (i := 393) (by decide +kernel), List.mem_of_getElem? (i := 394) (by decide +kernel)⟩
theorem lw_p9 : lw_okq (⟨"BlushBank$Scribe", "readNumber", "(I)I"⟩, 12) := ⟨⟨by decide +kernel, by decide +kernel⟩, List.mem_of_getElem? (i := 26) (by decide +kernel), List.mem_of_getElem? (i := 401) (by decide +kernel), List.mem_of_getElem? (i := 402) (by decide +kernel)⟩
theorem lw_p10 : lw_okq (⟨"BlushBank$Scribe", "expect", "(I)V"⟩, 12) := ⟨⟨by decide +kernel, by decide +kernel⟩, List.mem_of_getElem? (i := 26) (by decide +kernel), List.mem_of_getElem? (i := 405) (by decide +kernel), List.mem_of_getElem? (i := 406) (by decide +kernel)⟩
theorem lw_p11 : lw_okq (⟨"BlushBank$Scribe", "tell", "(I)V"⟩, 12) := ⟨⟨by decide +kernel, by decide +kernel⟩, List.mem_of_getElem? (i := 26) (by decide +kernel), List.mem_of_getElem? (i := 409) (by decide +kernel), List.mem_of_getElem? (i := 410) (by decide +kernel)⟩
theorem lw_p12 : lw_okq (⟨"BlushBank$Scribe", "tellTrip", "()V"⟩, 12) := ⟨⟨by decide +kernel, by decide +kernel⟩, List.mem_of_getElem? (i := 26) (by decide +kernel), List.mem_of_getElem? (i := 413) (by decide +kernel), List.mem_of_getElem? (i := 414) (by decide +kernel)⟩
theorem lw_p13 : lw_okq (⟨"BlushBank$Scribe", "tellAsked", "()V"⟩, 12) := ⟨⟨by decide +kernel, by decide +kernel⟩, List.mem_of_getElem? (i := 26) (by decide +kernel), List.mem_of_getElem? (i := 417) (by decide +kernel), List.mem_of_getElem? (i := 418) (by decide +kernel)⟩
theorem lw_p14 : lw_okq (⟨"BlushBank", "isOne", "(I)Z"⟩, 9) := ⟨⟨by decide +kernel, by decide +kernel⟩, List.mem_of_getElem? (i := 18) (by decide +kernel), List.mem_of_getElem? (i := 449) (by decide +kernel), List.mem_of_getElem? (i := 450) (by decide +kernel)⟩
theorem lw_p15 : lw_okq (⟨"BlushBank", "isIncident", "(I)Z"⟩, 9) := ⟨⟨by decide +kernel, by decide +kernel⟩, List.mem_of_getElem? (i := 18) (by decide +kernel), List.mem_of_getElem? (i := 457) (by decide +kernel), List.mem_of_getElem? (i := 458) (by decide +kernel)⟩
def lw_privs_1 : List (MethodName × Nat) := [(⟨"BlushBank$Scribe", "begin", "()V"⟩, 12), (⟨"BlushBank$Scribe", "nextToken", "()V"⟩, 12), (⟨"BlushBank$Scribe", "isLetter", "(I)Z"⟩, 12), (⟨"BlushBank$Scribe", "isFigure", "(I)Z"⟩, 12), (⟨"BlushBank$Scribe", "refuse", "(I)V"⟩, 12), (⟨"BlushBank$Scribe", "readLine", "()V"⟩, 12), (⟨"BlushBank$Scribe", "wordRead", "()I"⟩, 12), (⟨"BlushBank$Scribe", "isWord", "(Ljava/lang/String;)Z"⟩, 12), (⟨"BlushBank$Scribe", "faultOfWord", "(I)I"⟩, 12), (⟨"BlushBank$Scribe", "readNumber", "(I)I"⟩, 12), (⟨"BlushBank$Scribe", "expect", "(I)V"⟩, 12), (⟨"BlushBank$Scribe", "tell", "(I)V"⟩, 12), (⟨"BlushBank$Scribe", "tellTrip", "()V"⟩, 12), (⟨"BlushBank$Scribe", "tellAsked", "()V"⟩, 12), (⟨"BlushBank", "isOne", "(I)Z"⟩, 9), (⟨"BlushBank", "isIncident", "(I)Z"⟩, 9)]
theorem lw_r1 : ∀ q ∈ lw_privs_1, lw_okq q := List.forall_mem_cons.mpr ⟨lw_p0, List.forall_mem_cons.mpr ⟨lw_p1, List.forall_mem_cons.mpr ⟨lw_p2, List.forall_mem_cons.mpr ⟨lw_p3, List.forall_mem_cons.mpr ⟨lw_p4, List.forall_mem_cons.mpr ⟨lw_p5, List.forall_mem_cons.mpr ⟨lw_p6, List.forall_mem_cons.mpr ⟨lw_p7, List.forall_mem_cons.mpr ⟨lw_p8, List.forall_mem_cons.mpr ⟨lw_p9, List.forall_mem_cons.mpr ⟨lw_p10, List.forall_mem_cons.mpr ⟨lw_p11, List.forall_mem_cons.mpr ⟨lw_p12, List.forall_mem_cons.mpr ⟨lw_p13, List.forall_mem_cons.mpr ⟨lw_p14, List.forall_mem_cons.mpr ⟨lw_p15, fun _ h => absurd h List.not_mem_nil⟩⟩⟩⟩⟩⟩⟩⟩⟩⟩⟩⟩⟩⟩⟩⟩
theorem lw_p16 : lw_okq (⟨"BlushBank$Ledger", "befall", "(LBlushBank$Story;I)V"⟩, 11) := ⟨⟨by decide +kernel, by decide +kernel⟩, List.mem_of_getElem? (i := 88) (by decide +kernel), List.mem_of_getElem? (i := 518) (by decide +kernel), List.mem_of_getElem? (i := 519) (by decide +kernel)⟩
theorem lw_p17 : lw_okq (⟨"BlushBank$Ledger", "meets", "(II)Z"⟩, 11) := ⟨⟨by decide +kernel, by decide +kernel⟩, List.mem_of_getElem? (i := 88) (by decide +kernel), List.mem_of_getElem? (i := 535) (by decide +kernel), List.mem_of_getElem? (i := 536) (by decide +kernel)⟩
theorem lw_p18 : lw_okq (⟨"BlushBank$Ledger", "closeWeek", "()V"⟩, 11) := ⟨⟨by decide +kernel, by decide +kernel⟩, List.mem_of_getElem? (i := 88) (by decide +kernel), List.mem_of_getElem? (i := 539) (by decide +kernel), List.mem_of_getElem? (i := 540) (by decide +kernel)⟩
theorem lw_p19 : lw_okq (⟨"BlushBank", "allIncidents", "()I"⟩, 9) := ⟨⟨by decide +kernel, by decide +kernel⟩, List.mem_of_getElem? (i := 18) (by decide +kernel), List.mem_of_getElem? (i := 560) (by decide +kernel), List.mem_of_getElem? (i := 561) (by decide +kernel)⟩
theorem lw_p20 : lw_okq (⟨"BlushBank", "keepsThePast", "(I)Z"⟩, 9) := ⟨⟨by decide +kernel, by decide +kernel⟩, List.mem_of_getElem? (i := 18) (by decide +kernel), List.mem_of_getElem? (i := 564) (by decide +kernel), List.mem_of_getElem? (i := 565) (by decide +kernel)⟩
theorem lw_p21 : lw_okq (⟨"BlushBank", "timesByPlan", "(I)I"⟩, 9) := ⟨⟨by decide +kernel, by decide +kernel⟩, List.mem_of_getElem? (i := 18) (by decide +kernel), List.mem_of_getElem? (i := 568) (by decide +kernel), List.mem_of_getElem? (i := 569) (by decide +kernel)⟩
theorem lw_p22 : lw_okq (⟨"BlushBank", "staysModest", "(I)Z"⟩, 9) := ⟨⟨by decide +kernel, by decide +kernel⟩, List.mem_of_getElem? (i := 18) (by decide +kernel), List.mem_of_getElem? (i := 617) (by decide +kernel), List.mem_of_getElem? (i := 618) (by decide +kernel)⟩
theorem lw_p23 : lw_okq (⟨"BlushBank", "timesByRumour", "(I)I"⟩, 9) := ⟨⟨by decide +kernel, by decide +kernel⟩, List.mem_of_getElem? (i := 18) (by decide +kernel), List.mem_of_getElem? (i := 636) (by decide +kernel), List.mem_of_getElem? (i := 637) (by decide +kernel)⟩
theorem lw_p24 : lw_okq (⟨"BlushBank", "isAsNoted", "(I)Z"⟩, 9) := ⟨⟨by decide +kernel, by decide +kernel⟩, List.mem_of_getElem? (i := 18) (by decide +kernel), List.mem_of_getElem? (i := 660) (by decide +kernel), List.mem_of_getElem? (i := 661) (by decide +kernel)⟩
theorem lw_p25 : lw_okq (⟨"BlushBankModel", "firstDraft", "()V"⟩, 39) := ⟨⟨by decide +kernel, by decide +kernel⟩, List.mem_of_getElem? (i := 730) (by decide +kernel), List.mem_of_getElem? (i := 736) (by decide +kernel), List.mem_of_getElem? (i := 737) (by decide +kernel)⟩
theorem lw_p26 : lw_okq (⟨"BlushBankModel", "keepDraft", "()V"⟩, 39) := ⟨⟨by decide +kernel, by decide +kernel⟩, List.mem_of_getElem? (i := 730) (by decide +kernel), List.mem_of_getElem? (i := 740) (by decide +kernel), List.mem_of_getElem? (i := 741) (by decide +kernel)⟩
theorem lw_p27 : lw_okq (⟨"BlushBankModel", "next", "()V"⟩, 39) := ⟨⟨by decide +kernel, by decide +kernel⟩, List.mem_of_getElem? (i := 730) (by decide +kernel), List.mem_of_getElem? (i := 879) (by decide +kernel), List.mem_of_getElem? (i := 880) (by decide +kernel)⟩
theorem lw_p28 : lw_okq (⟨"BlushBankModel", "byteAt", "(I)I"⟩, 39) := ⟨⟨by decide +kernel, by decide +kernel⟩, List.mem_of_getElem? (i := 730) (by decide +kernel), List.mem_of_getElem? (i := 883) (by decide +kernel), List.mem_of_getElem? (i := 884) (by decide +kernel)⟩
theorem lw_p29 : lw_okq (⟨"BlushBankModel", "needs", "(ZI)V"⟩, 39) := ⟨⟨by decide +kernel, by decide +kernel⟩, List.mem_of_getElem? (i := 730) (by decide +kernel), List.mem_of_getElem? (i := 891) (by decide +kernel), List.mem_of_getElem? (i := 892) (by decide +kernel)⟩
theorem lw_p30 : lw_okq (⟨"BlushBankModel", "readLine", "()V"⟩, 39) := ⟨⟨by decide +kernel, by decide +kernel⟩, List.mem_of_getElem? (i := 730) (by decide +kernel), List.mem_of_getElem? (i := 895) (by decide +kernel), List.mem_of_getElem? (i := 896) (by decide +kernel)⟩
theorem lw_p31 : lw_okq (⟨"BlushBankModel", "lineNow", "()I"⟩, 39) := ⟨⟨by decide +kernel, by decide +kernel⟩, List.mem_of_getElem? (i := 730) (by decide +kernel), List.mem_of_getElem? (i := 899) (by decide +kernel), List.mem_of_getElem? (i := 900) (by decide +kernel)⟩
def lw_privs_2 : List (MethodName × Nat) := [(⟨"BlushBank$Ledger", "befall", "(LBlushBank$Story;I)V"⟩, 11), (⟨"BlushBank$Ledger", "meets", "(II)Z"⟩, 11), (⟨"BlushBank$Ledger", "closeWeek", "()V"⟩, 11), (⟨"BlushBank", "allIncidents", "()I"⟩, 9), (⟨"BlushBank", "keepsThePast", "(I)Z"⟩, 9), (⟨"BlushBank", "timesByPlan", "(I)I"⟩, 9), (⟨"BlushBank", "staysModest", "(I)Z"⟩, 9), (⟨"BlushBank", "timesByRumour", "(I)I"⟩, 9), (⟨"BlushBank", "isAsNoted", "(I)Z"⟩, 9), (⟨"BlushBankModel", "firstDraft", "()V"⟩, 39), (⟨"BlushBankModel", "keepDraft", "()V"⟩, 39), (⟨"BlushBankModel", "next", "()V"⟩, 39), (⟨"BlushBankModel", "byteAt", "(I)I"⟩, 39), (⟨"BlushBankModel", "needs", "(ZI)V"⟩, 39), (⟨"BlushBankModel", "readLine", "()V"⟩, 39), (⟨"BlushBankModel", "lineNow", "()I"⟩, 39)]
theorem lw_r2 : ∀ q ∈ lw_privs_2, lw_okq q := List.forall_mem_cons.mpr ⟨lw_p16, List.forall_mem_cons.mpr ⟨lw_p17, List.forall_mem_cons.mpr ⟨lw_p18, List.forall_mem_cons.mpr ⟨lw_p19, List.forall_mem_cons.mpr ⟨lw_p20, List.forall_mem_cons.mpr ⟨lw_p21, List.forall_mem_cons.mpr ⟨lw_p22, List.forall_mem_cons.mpr ⟨lw_p23, List.forall_mem_cons.mpr ⟨lw_p24, List.forall_mem_cons.mpr ⟨lw_p25, List.forall_mem_cons.mpr ⟨lw_p26, List.forall_mem_cons.mpr ⟨lw_p27, List.forall_mem_cons.mpr ⟨lw_p28, List.forall_mem_cons.mpr ⟨lw_p29, List.forall_mem_cons.mpr ⟨lw_p30, List.forall_mem_cons.mpr ⟨lw_p31, fun _ h => absurd h List.not_mem_nil⟩⟩⟩⟩⟩⟩⟩⟩⟩⟩⟩⟩⟩⟩⟩⟩
theorem lw_p32 : lw_okq (⟨"BlushBankModel", "is", "(IIIII)Z"⟩, 39) := ⟨⟨by decide +kernel, by decide +kernel⟩, List.mem_of_getElem? (i := 730) (by decide +kernel), List.mem_of_getElem? (i := 903) (by decide +kernel), List.mem_of_getElem? (i := 904) (by decide +kernel)⟩
theorem lw_p33 : lw_okq (⟨"BlushBankModel", "ends", "(IIII)Z"⟩, 39) := ⟨⟨by decide +kernel, by decide +kernel⟩, List.mem_of_getElem? (i := 730) (by decide +kernel), List.mem_of_getElem? (i := 907) (by decide +kernel), List.mem_of_getElem? (i := 908) (by decide +kernel)⟩
theorem lw_p34 : lw_okq (⟨"BlushBankModel", "readLineOf", "(I)V"⟩, 39) := ⟨⟨by decide +kernel, by decide +kernel⟩, List.mem_of_getElem? (i := 730) (by decide +kernel), List.mem_of_getElem? (i := 912) (by decide +kernel), List.mem_of_getElem? (i := 913) (by decide +kernel)⟩
theorem lw_p35 : lw_okq (⟨"BlushBankModel", "readPerson", "()I"⟩, 39) := ⟨⟨by decide +kernel, by decide +kernel⟩, List.mem_of_getElem? (i := 730) (by decide +kernel), List.mem_of_getElem? (i := 916) (by decide +kernel), List.mem_of_getElem? (i := 917) (by decide +kernel)⟩
theorem lw_p36 : lw_okq (⟨"BlushBankModel", "readNumber", "(II)I"⟩, 39) := ⟨⟨by decide +kernel, by decide +kernel⟩, List.mem_of_getElem? (i := 730) (by decide +kernel), List.mem_of_getElem? (i := 920) (by decide +kernel), List.mem_of_getElem? (i := 921) (by decide +kernel)⟩
theorem lw_p37 : lw_okq (⟨"BlushBankModel", "isOne", "(I)Z"⟩, 39) := ⟨⟨by decide +kernel, by decide +kernel⟩, List.mem_of_getElem? (i := 730) (by decide +kernel), List.mem_of_getElem? (i := 936) (by decide +kernel), List.mem_of_getElem? (i := 937) (by decide +kernel)⟩
theorem lw_p38 : lw_okq (⟨"BlushBankModel", "isTrip", "(I)Z"⟩, 39) := ⟨⟨by decide +kernel, by decide +kernel⟩, List.mem_of_getElem? (i := 730) (by decide +kernel), List.mem_of_getElem? (i := 944) (by decide +kernel), List.mem_of_getElem? (i := 945) (by decide +kernel)⟩
theorem lw_p39 : lw_okq (⟨"BlushBankModel", "starts", "()V"⟩, 39) := ⟨⟨by decide +kernel, by decide +kernel⟩, List.mem_of_getElem? (i := 730) (by decide +kernel), List.mem_of_getElem? (i := 948) (by decide +kernel), List.mem_of_getElem? (i := 949) (by decide +kernel)⟩
theorem lw_p40 : lw_okq (⟨"BlushBankModel", "blushOf", "(I)I"⟩, 39) := ⟨⟨by decide +kernel, by decide +kernel⟩, List.mem_of_getElem? (i := 730) (by decide +kernel), List.mem_of_getElem? (i := 952) (by decide +kernel), List.mem_of_getElem? (i := 953) (by decide +kernel)⟩
theorem lw_p41 : lw_okq (⟨"BlushBankModel", "of", "(II)I"⟩, 39) := ⟨⟨by decide +kernel, by decide +kernel⟩, List.mem_of_getElem? (i := 730) (by decide +kernel), List.mem_of_getElem? (i := 956) (by decide +kernel), List.mem_of_getElem? (i := 957) (by decide +kernel)⟩
theorem lw_p42 : lw_okq (⟨"BlushBankModel", "rumoured", "(I)I"⟩, 39) := ⟨⟨by decide +kernel, by decide +kernel⟩, List.mem_of_getElem? (i := 730) (by decide +kernel), List.mem_of_getElem? (i := 982) (by decide +kernel), List.mem_of_getElem? (i := 983) (by decide +kernel)⟩
theorem lw_p43 : lw_okq (⟨"BlushBankModel", "settles", "()V"⟩, 39) := ⟨⟨by decide +kernel, by decide +kernel⟩, List.mem_of_getElem? (i := 730) (by decide +kernel), List.mem_of_getElem? (i := 989) (by decide +kernel), List.mem_of_getElem? (i := 990) (by decide +kernel)⟩
theorem lw_p44 : lw_okq (⟨"BlushBankModel", "becomes", "(II)I"⟩, 39) := ⟨⟨by decide +kernel, by decide +kernel⟩, List.mem_of_getElem? (i := 730) (by decide +kernel), List.mem_of_getElem? (i := 1001) (by decide +kernel), List.mem_of_getElem? (i := 1002) (by decide +kernel)⟩
theorem lw_p45 : lw_okq (⟨"BlushBankModel", "brazenIn", "(I)I"⟩, 39) := ⟨⟨by decide +kernel, by decide +kernel⟩, List.mem_of_getElem? (i := 730) (by decide +kernel), List.mem_of_getElem? (i := 1014) (by decide +kernel), List.mem_of_getElem? (i := 1015) (by decide +kernel)⟩
theorem lw_p46 : lw_okq (⟨"BlushBankModel", "weeksGo", "(I)V"⟩, 39) := ⟨⟨by decide +kernel, by decide +kernel⟩, List.mem_of_getElem? (i := 730) (by decide +kernel), List.mem_of_getElem? (i := 1018) (by decide +kernel), List.mem_of_getElem? (i := 1019) (by decide +kernel)⟩
theorem lw_p47 : lw_okq (⟨"BlushBankModel", "weekGoes", "()V"⟩, 39) := ⟨⟨by decide +kernel, by decide +kernel⟩, List.mem_of_getElem? (i := 730) (by decide +kernel), List.mem_of_getElem? (i := 1022) (by decide +kernel), List.mem_of_getElem? (i := 1023) (by decide +kernel)⟩
def lw_privs_3 : List (MethodName × Nat) := [(⟨"BlushBankModel", "is", "(IIIII)Z"⟩, 39), (⟨"BlushBankModel", "ends", "(IIII)Z"⟩, 39), (⟨"BlushBankModel", "readLineOf", "(I)V"⟩, 39), (⟨"BlushBankModel", "readPerson", "()I"⟩, 39), (⟨"BlushBankModel", "readNumber", "(II)I"⟩, 39), (⟨"BlushBankModel", "isOne", "(I)Z"⟩, 39), (⟨"BlushBankModel", "isTrip", "(I)Z"⟩, 39), (⟨"BlushBankModel", "starts", "()V"⟩, 39), (⟨"BlushBankModel", "blushOf", "(I)I"⟩, 39), (⟨"BlushBankModel", "of", "(II)I"⟩, 39), (⟨"BlushBankModel", "rumoured", "(I)I"⟩, 39), (⟨"BlushBankModel", "settles", "()V"⟩, 39), (⟨"BlushBankModel", "becomes", "(II)I"⟩, 39), (⟨"BlushBankModel", "brazenIn", "(I)I"⟩, 39), (⟨"BlushBankModel", "weeksGo", "(I)V"⟩, 39), (⟨"BlushBankModel", "weekGoes", "()V"⟩, 39)]
theorem lw_r3 : ∀ q ∈ lw_privs_3, lw_okq q := List.forall_mem_cons.mpr ⟨lw_p32, List.forall_mem_cons.mpr ⟨lw_p33, List.forall_mem_cons.mpr ⟨lw_p34, List.forall_mem_cons.mpr ⟨lw_p35, List.forall_mem_cons.mpr ⟨lw_p36, List.forall_mem_cons.mpr ⟨lw_p37, List.forall_mem_cons.mpr ⟨lw_p38, List.forall_mem_cons.mpr ⟨lw_p39, List.forall_mem_cons.mpr ⟨lw_p40, List.forall_mem_cons.mpr ⟨lw_p41, List.forall_mem_cons.mpr ⟨lw_p42, List.forall_mem_cons.mpr ⟨lw_p43, List.forall_mem_cons.mpr ⟨lw_p44, List.forall_mem_cons.mpr ⟨lw_p45, List.forall_mem_cons.mpr ⟨lw_p46, List.forall_mem_cons.mpr ⟨lw_p47, fun _ h => absurd h List.not_mem_nil⟩⟩⟩⟩⟩⟩⟩⟩⟩⟩⟩⟩⟩⟩⟩⟩
theorem lw_p48 : lw_okq (⟨"BlushBankModel", "more", "(III)V"⟩, 39) := ⟨⟨by decide +kernel, by decide +kernel⟩, List.mem_of_getElem? (i := 730) (by decide +kernel), List.mem_of_getElem? (i := 1026) (by decide +kernel), List.mem_of_getElem? (i := 1027) (by decide +kernel)⟩
theorem lw_p49 : lw_okq (⟨"BlushBankModel", "isAskedOf", "(I)V"⟩, 39) := ⟨⟨by decide +kernel, by decide +kernel⟩, List.mem_of_getElem? (i := 730) (by decide +kernel), List.mem_of_getElem? (i := 1030) (by decide +kernel), List.mem_of_getElem? (i := 1031) (by decide +kernel)⟩
theorem lw_p50 : lw_okq (⟨"BlushBankModel", "brazenMore", "()I"⟩, 39) := ⟨⟨by decide +kernel, by decide +kernel⟩, List.mem_of_getElem? (i := 730) (by decide +kernel), List.mem_of_getElem? (i := 1037) (by decide +kernel), List.mem_of_getElem? (i := 1038) (by decide +kernel)⟩
theorem lw_p51 : lw_okq (⟨"BlushBankModel", "isPlan", "(I)Z"⟩, 39) := ⟨⟨by decide +kernel, by decide +kernel⟩, List.mem_of_getElem? (i := 730) (by decide +kernel), List.mem_of_getElem? (i := 1057) (by decide +kernel), List.mem_of_getElem? (i := 1058) (by decide +kernel)⟩
theorem lw_p52 : lw_okq (⟨"BlushBankModel", "startsBy", "(I)V"⟩, 39) := ⟨⟨by decide +kernel, by decide +kernel⟩, List.mem_of_getElem? (i := 730) (by decide +kernel), List.mem_of_getElem? (i := 1061) (by decide +kernel), List.mem_of_getElem? (i := 1062) (by decide +kernel)⟩
theorem lw_p53 : lw_okq (⟨"BlushBankModel", "weeksLeft", "()I"⟩, 39) := ⟨⟨by decide +kernel, by decide +kernel⟩, List.mem_of_getElem? (i := 730) (by decide +kernel), List.mem_of_getElem? (i := 1065) (by decide +kernel), List.mem_of_getElem? (i := 1066) (by decide +kernel)⟩
theorem lw_p54 : lw_okq (⟨"BlushBankModel", "runs", "()V"⟩, 39) := ⟨⟨by decide +kernel, by decide +kernel⟩, List.mem_of_getElem? (i := 730) (by decide +kernel), List.mem_of_getElem? (i := 1085) (by decide +kernel), List.mem_of_getElem? (i := 1086) (by decide +kernel)⟩
theorem lw_p55 : lw_okq (⟨"BlushBankModel", "allOf", "(I)I"⟩, 39) := ⟨⟨by decide +kernel, by decide +kernel⟩, List.mem_of_getElem? (i := 730) (by decide +kernel), List.mem_of_getElem? (i := 1089) (by decide +kernel), List.mem_of_getElem? (i := 1090) (by decide +kernel)⟩
theorem lw_p56 : lw_okq (⟨"BlushBankModel", "leastOf", "(III)I"⟩, 39) := ⟨⟨by decide +kernel, by decide +kernel⟩, List.mem_of_getElem? (i := 730) (by decide +kernel), List.mem_of_getElem? (i := 1101) (by decide +kernel), List.mem_of_getElem? (i := 1102) (by decide +kernel)⟩
theorem lw_p57 : lw_okq (⟨"BlushBankModel", "brazenAsNow", "()I"⟩, 39) := ⟨⟨by decide +kernel, by decide +kernel⟩, List.mem_of_getElem? (i := 730) (by decide +kernel), List.mem_of_getElem? (i := 1113) (by decide +kernel), List.mem_of_getElem? (i := 1114) (by decide +kernel)⟩
theorem lw_p58 : lw_okq (⟨"BlushBankModel", "fitsTo", "(I)Z"⟩, 39) := ⟨⟨by decide +kernel, by decide +kernel⟩, List.mem_of_getElem? (i := 730) (by decide +kernel), List.mem_of_getElem? (i := 1137) (by decide +kernel), List.mem_of_getElem? (i := 1138) (by decide +kernel)⟩
theorem lw_p59 : lw_okq (⟨"BlushBankModel", "copies", "(II)V"⟩, 39) := ⟨⟨by decide +kernel, by decide +kernel⟩, List.mem_of_getElem? (i := 730) (by decide +kernel), List.mem_of_getElem? (i := 1150) (by decide +kernel), List.mem_of_getElem? (i := 1151) (by decide +kernel)⟩
def lw_privs_4 : List (MethodName × Nat) := [(⟨"BlushBankModel", "more", "(III)V"⟩, 39), (⟨"BlushBankModel", "isAskedOf", "(I)V"⟩, 39), (⟨"BlushBankModel", "brazenMore", "()I"⟩, 39), (⟨"BlushBankModel", "isPlan", "(I)Z"⟩, 39), (⟨"BlushBankModel", "startsBy", "(I)V"⟩, 39), (⟨"BlushBankModel", "weeksLeft", "()I"⟩, 39), (⟨"BlushBankModel", "runs", "()V"⟩, 39), (⟨"BlushBankModel", "allOf", "(I)I"⟩, 39), (⟨"BlushBankModel", "leastOf", "(III)I"⟩, 39), (⟨"BlushBankModel", "brazenAsNow", "()I"⟩, 39), (⟨"BlushBankModel", "fitsTo", "(I)Z"⟩, 39), (⟨"BlushBankModel", "copies", "(II)V"⟩, 39)]
theorem lw_r4 : ∀ q ∈ lw_privs_4, lw_okq q := List.forall_mem_cons.mpr ⟨lw_p48, List.forall_mem_cons.mpr ⟨lw_p49, List.forall_mem_cons.mpr ⟨lw_p50, List.forall_mem_cons.mpr ⟨lw_p51, List.forall_mem_cons.mpr ⟨lw_p52, List.forall_mem_cons.mpr ⟨lw_p53, List.forall_mem_cons.mpr ⟨lw_p54, List.forall_mem_cons.mpr ⟨lw_p55, List.forall_mem_cons.mpr ⟨lw_p56, List.forall_mem_cons.mpr ⟨lw_p57, List.forall_mem_cons.mpr ⟨lw_p58, List.forall_mem_cons.mpr ⟨lw_p59, fun _ h => absurd h List.not_mem_nil⟩⟩⟩⟩⟩⟩⟩⟩⟩⟩⟩⟩
def lw_privs : List (MethodName × Nat) := lw_privs_1 ++ (lw_privs_2 ++ (lw_privs_3 ++ (lw_privs_4)))
def lw_tbl : List Cond := k2_sels lw_privs ++ tables_1
theorem lw_privs_ok : ∀ q ∈ lw_privs, lw_okq q := by
  show ∀ q ∈ lw_privs_1 ++ (lw_privs_2 ++ (lw_privs_3 ++ (lw_privs_4))), lw_okq q
  exact List.forall_mem_append.mpr ⟨lw_r1, List.forall_mem_append.mpr ⟨lw_r2, List.forall_mem_append.mpr ⟨lw_r3, lw_r4⟩⟩⟩
-- ===== end of PART A; then your names; then what follows =====
end
section
/-! ===== BEGIN words of one list among another's, by their places ===== -/
theorem goodIn_r {big : List Cond} (ws : List Cond) (ps : List Nat) (hp : ws = ps.filterMap (fun i => big[i]?)) (h : ws.all goodWord = true) : GoodIn big ws := by
  intro w hw
  have h1 := List.all_eq_true.mp h w hw
  rw [hp] at hw
  obtain ⟨i, -, hi⟩ := List.mem_filterMap.mp hw
  have hm : w ∈ big := by first | exact List.mem_of_getElem? hi | exact List.getElem?_mem hi
  exact ⟨hm, good_of_word h1⟩
theorem goodIn_app {big a b : List Cond} (ha : GoodIn big a) (hb : GoodIn big b) : GoodIn big (a ++ b) := fun w h => (List.mem_append.mp h).elim (ha w) (hb w)
theorem goodIn_ca {big a b : List Cond} {c : Cond} (ha : GoodIn big (c :: a)) (hb : GoodIn big b) : GoodIn big (c :: (a ++ b)) := fun w h => (List.mem_cons.mp h).elim (fun e => ha w (List.mem_cons.mpr (Or.inl e))) (fun h => (List.mem_append.mp h).elim (fun h => ha w (List.mem_cons.mpr (Or.inr h))) (hb w))
theorem goodIn_sub {big ws : List Cond} (hm : ∀ w ∈ ws, w ∈ big) (h : ws.all goodWord = true) : GoodIn big ws := fun w hw => ⟨hm w hw, good_of_word (List.all_eq_true.mp h w hw)⟩
/-! ===== END ===== -/

/-! ===== BEGIN printed: names, fields, word lists, decode rows ===== -/
def RX0 : String := "BlushBank$Image"
def TX0 : u_T := fun k => match k with
  | 0 => ("BlushBank$Image", "there", "Z", false)
  | 1 => ("BlushBank$Image", "ledger", "LBlushBank$Ledger;", true)
  | _ => ("BlushBank$Image", "notes", "LBlushBank$Notes;", true)
def tyX0 : Nat → FieldType := fun k => match k with
  | 0 => .boolean
  | 1 => .object "BlushBank$Ledger"
  | _ => .object "BlushBank$Notes"
abbrev wsX00 : List Cond := u_ws RX0 TX0 3
theorem nmX0 : ∀ a, a < 3 → ∀ b, b < 3 → a ≠ b → (TX0 a).2.1 ≠ (TX0 b).2.1 := by decide +kernel
theorem tyX0_ok : ∀ k, k < 3 → parseFieldDescriptor (TX0 k).2.2.1 = some (tyX0 k) := by decide +kernel
abbrev cX0_init : ByteArray := prog_2_method_1_code
def yX0_init : MethodName := ⟨RX0, "<init>", "()V"⟩
def RX1 : String := "BlushBank$Ledger"
def TX1 : u_T := fun k => match k with
  | 0 => ("BlushBank$Ledger", "people", "I", false)
  | 1 => ("BlushBank$Ledger", "kind", "[I", true)
  | 2 => ("BlushBank$Ledger", "hand", "[I", true)
  | 3 => ("BlushBank$Ledger", "bank", "[I", true)
  | 4 => ("BlushBank$Ledger", "brazen", "[I", true)
  | 5 => ("BlushBank$Ledger", "seen", "[I", true)
  | 6 => ("BlushBank$Ledger", "deposited", "I", false)
  | 7 => ("BlushBank$Ledger", "interest", "I", false)
  | 8 => ("BlushBank$Ledger", "cover", "I", false)
  | 9 => ("BlushBank$Ledger", "week", "I", false)
  | _ => ("BlushBank$Ledger", "faces", "I", false)
def tyX1 : Nat → FieldType := fun k => match k with
  | 0 => .int
  | 1 => .array .int
  | 2 => .array .int
  | 3 => .array .int
  | 4 => .array .int
  | 5 => .array .int
  | 6 => .int
  | 7 => .int
  | 8 => .int
  | 9 => .int
  | _ => .int
abbrev wsX10 : List Cond := u_ws RX1 TX1 11
theorem nmX1 : ∀ a, a < 11 → ∀ b, b < 11 → a ≠ b → (TX1 a).2.1 ≠ (TX1 b).2.1 := by decide +kernel
theorem tyX1_ok : ∀ k, k < 11 → parseFieldDescriptor (TX1 k).2.2.1 = some (tyX1 k) := by decide +kernel
abbrev cX1_init : ByteArray := prog_3_method_1_code
def yX1_init : MethodName := ⟨RX1, "<init>", "()V"⟩
abbrev cX1_copyFrom : ByteArray := prog_3_method_2_code
def yX1_copyFrom : MethodName := ⟨RX1, "copyFrom", "(LBlushBank$Ledger;)V"⟩
abbrev cX1_isDeposited : ByteArray := prog_3_method_3_code
def yX1_isDeposited : MethodName := ⟨RX1, "isDeposited", "(I)Z"⟩
abbrev cX1_blushOf : ByteArray := prog_3_method_4_code
def yX1_blushOf : MethodName := ⟨RX1, "blushOf", "(LBlushBank$Story;I)I"⟩
abbrev cX1_putInHand : ByteArray := prog_3_method_5_code
def yX1_putInHand : MethodName := ⟨RX1, "putInHand", "(II)V"⟩
abbrev cX1_putAtBank : ByteArray := prog_3_method_6_code
def yX1_putAtBank : MethodName := ⟨RX1, "putAtBank", "(II)V"⟩
abbrev cX1_takeOut : ByteArray := prog_3_method_7_code
def yX1_takeOut : MethodName := ⟨RX1, "takeOut", "(II)I"⟩
abbrev cX1_spreadRumour : ByteArray := prog_3_method_8_code
def yX1_spreadRumour : MethodName := ⟨RX1, "spreadRumour", "(LBlushBank$Story;I)I"⟩
abbrev cX1_passWeeks : ByteArray := prog_3_method_9_code
def yX1_passWeeks : MethodName := ⟨RX1, "passWeeks", "(LBlushBank$Story;I)I"⟩
abbrev cX1_passToLastWeek : ByteArray := prog_3_method_10_code
def yX1_passToLastWeek : MethodName := ⟨RX1, "passToLastWeek", "(LBlushBank$Story;)I"⟩
abbrev cX1_passWeek : ByteArray := prog_3_method_11_code
def yX1_passWeek : MethodName := ⟨RX1, "passWeek", "(LBlushBank$Story;)I"⟩
abbrev cX1_befall : ByteArray := prog_3_method_12_code
def yX1_befall : MethodName := ⟨RX1, "befall", "(LBlushBank$Story;I)V"⟩
abbrev cX1_meets : ByteArray := prog_3_method_13_code
def yX1_meets : MethodName := ⟨RX1, "meets", "(II)Z"⟩
abbrev cX1_closeWeek : ByteArray := prog_3_method_14_code
def yX1_closeWeek : MethodName := ⟨RX1, "closeWeek", "()V"⟩
abbrev cX1_runToCounter : ByteArray := prog_3_method_15_code
def yX1_runToCounter : MethodName := ⟨RX1, "runToCounter", "()V"⟩
abbrev cX1_whoHasNothingThere : ByteArray := prog_3_method_16_code
def yX1_whoHasNothingThere : MethodName := ⟨RX1, "whoHasNothingThere", "()I"⟩
abbrev cX1_sumInHand : ByteArray := prog_3_method_17_code
def yX1_sumInHand : MethodName := ⟨RX1, "sumInHand", "()I"⟩
abbrev cX1_sumAtBank : ByteArray := prog_3_method_18_code
def yX1_sumAtBank : MethodName := ⟨RX1, "sumAtBank", "()I"⟩
def RX2 : String := "BlushBank$Notes"
def TX2 : u_T := fun k => match k with
  | 0 => ("BlushBank$Notes", "many", "I", false)
  | 1 => ("BlushBank$Notes", "who", "[I", true)
  | 2 => ("BlushBank$Notes", "when", "[I", true)
  | _ => ("BlushBank$Notes", "was", "[I", true)
def tyX2 : Nat → FieldType := fun k => match k with
  | 0 => .int
  | 1 => .array .int
  | 2 => .array .int
  | _ => .array .int
abbrev wsX20 : List Cond := u_ws RX2 TX2 4
theorem nmX2 : ∀ a, a < 4 → ∀ b, b < 4 → a ≠ b → (TX2 a).2.1 ≠ (TX2 b).2.1 := by decide +kernel
theorem tyX2_ok : ∀ k, k < 4 → parseFieldDescriptor (TX2 k).2.2.1 = some (tyX2 k) := by decide +kernel
abbrev cX2_init : ByteArray := prog_4_method_1_code
def yX2_init : MethodName := ⟨RX2, "<init>", "()V"⟩
abbrev cX2_append : ByteArray := prog_4_method_2_code
def yX2_append : MethodName := ⟨RX2, "append", "(IIZ)I"⟩
abbrev cX2_agree : ByteArray := prog_4_method_3_code
def yX2_agree : MethodName := ⟨RX2, "agree", "(II)Z"⟩
abbrev cX2_copyFrom : ByteArray := prog_4_method_4_code
def yX2_copyFrom : MethodName := ⟨RX2, "copyFrom", "(LBlushBank$Notes;)V"⟩
def RX3 : String := "BlushBank$Scribe"
def TX3 : u_T := fun k => match k with
  | 0 => ("BlushBank$Scribe", "story", "LBlushBank$Story;", true)
  | 1 => ("BlushBank$Scribe", "ledger", "LBlushBank$Ledger;", true)
  | 2 => ("BlushBank$Scribe", "length", "I", false)
  | 3 => ("BlushBank$Scribe", "fault", "I", false)
  | 4 => ("BlushBank$Scribe", "tape", "[B", true)
  | 5 => ("BlushBank$Scribe", "numbers", "[I", true)
  | 6 => ("BlushBank$Scribe", "faultPlace", "I", false)
  | 7 => ("BlushBank$Scribe", "next", "I", false)
  | 8 => ("BlushBank$Scribe", "token", "I", false)
  | 9 => ("BlushBank$Scribe", "start", "I", false)
  | 10 => ("BlushBank$Scribe", "hasInterest", "Z", false)
  | _ => ("BlushBank$Scribe", "hasCover", "Z", false)
def tyX3 : Nat → FieldType := fun k => match k with
  | 0 => .object "BlushBank$Story"
  | 1 => .object "BlushBank$Ledger"
  | 2 => .int
  | 3 => .int
  | 4 => .array .byte
  | 5 => .array .int
  | 6 => .int
  | 7 => .int
  | 8 => .int
  | 9 => .int
  | 10 => .boolean
  | _ => .boolean
abbrev wsX30 : List Cond := u_ws RX3 TX3 12
theorem nmX3 : ∀ a, a < 12 → ∀ b, b < 12 → a ≠ b → (TX3 a).2.1 ≠ (TX3 b).2.1 := by decide +kernel
theorem tyX3_ok : ∀ k, k < 12 → parseFieldDescriptor (TX3 k).2.2.1 = some (tyX3 k) := by decide +kernel
abbrev cX3_init : ByteArray := prog_5_method_1_code
def yX3_init : MethodName := ⟨RX3, "<init>", "()V"⟩
abbrev cX3_append : ByteArray := prog_5_method_2_code
def yX3_append : MethodName := ⟨RX3, "append", "(I)I"⟩
abbrev cX3_readTape : ByteArray := prog_5_method_3_code
def yX3_readTape : MethodName := ⟨RX3, "readTape", "()I"⟩
abbrev cX3_begin : ByteArray := prog_5_method_4_code
def yX3_begin : MethodName := ⟨RX3, "begin", "()V"⟩
abbrev cX3_refuse : ByteArray := prog_5_method_5_code
def yX3_refuse : MethodName := ⟨RX3, "refuse", "(I)V"⟩
abbrev cX3_nextToken : ByteArray := prog_5_method_6_code
def yX3_nextToken : MethodName := ⟨RX3, "nextToken", "()V"⟩
abbrev cX3_isLetter : ByteArray := prog_5_method_7_code
def yX3_isLetter : MethodName := ⟨RX3, "isLetter", "(I)Z"⟩
abbrev cX3_isFigure : ByteArray := prog_5_method_8_code
def yX3_isFigure : MethodName := ⟨RX3, "isFigure", "(I)Z"⟩
abbrev cX3_readLine : ByteArray := prog_5_method_9_code
def yX3_readLine : MethodName := ⟨RX3, "readLine", "()V"⟩
abbrev cX3_expect : ByteArray := prog_5_method_10_code
def yX3_expect : MethodName := ⟨RX3, "expect", "(I)V"⟩
abbrev cX3_readNumber : ByteArray := prog_5_method_11_code
def yX3_readNumber : MethodName := ⟨RX3, "readNumber", "(I)I"⟩
abbrev cX3_wordRead : ByteArray := prog_5_method_12_code
def yX3_wordRead : MethodName := ⟨RX3, "wordRead", "()I"⟩
abbrev cX3_isWord : ByteArray := prog_5_method_13_code
def yX3_isWord : MethodName := ⟨RX3, "isWord", "(Ljava/lang/String;)Z"⟩
abbrev cX3_faultOfWord : ByteArray := prog_5_method_14_code
def yX3_faultOfWord : MethodName := ⟨RX3, "faultOfWord", "(I)I"⟩
abbrev cX3_tell : ByteArray := prog_5_method_15_code
def yX3_tell : MethodName := ⟨RX3, "tell", "(I)V"⟩
abbrev cX3_tellTrip : ByteArray := prog_5_method_16_code
def yX3_tellTrip : MethodName := ⟨RX3, "tellTrip", "()V"⟩
abbrev cX3_tellAsked : ByteArray := prog_5_method_17_code
def yX3_tellAsked : MethodName := ⟨RX3, "tellAsked", "()V"⟩
def RX4 : String := "BlushBank$Sheet"
def TX4 : u_T := fun k => match k with
  | 0 => ("BlushBank$Sheet", "lane", "I", false)
  | 1 => ("BlushBank$Sheet", "size", "I", false)
  | _ => ("BlushBank$Sheet", "cells", "[I", true)
def tyX4 : Nat → FieldType := fun k => match k with
  | 0 => .int
  | 1 => .int
  | _ => .array .int
abbrev wsX40 : List Cond := u_ws RX4 TX4 3
theorem nmX4 : ∀ a, a < 3 → ∀ b, b < 3 → a ≠ b → (TX4 a).2.1 ≠ (TX4 b).2.1 := by decide +kernel
theorem tyX4_ok : ∀ k, k < 3 → parseFieldDescriptor (TX4 k).2.2.1 = some (tyX4 k) := by decide +kernel
abbrev cX4_init : ByteArray := prog_6_method_1_code
def yX4_init : MethodName := ⟨RX4, "<init>", "()V"⟩
abbrev cX4_renew : ByteArray := prog_6_method_2_code
def yX4_renew : MethodName := ⟨RX4, "renew", "(II)V"⟩
abbrev cX4_put : ByteArray := prog_6_method_3_code
def yX4_put : MethodName := ⟨RX4, "put", "(II)V"⟩
abbrev cX4_faultAt : ByteArray := prog_6_method_4_code
def yX4_faultAt : MethodName := ⟨RX4, "faultAt", "(II)I"⟩
abbrev cX4_faultOfPair : ByteArray := prog_6_method_5_code
def yX4_faultOfPair : MethodName := ⟨RX4, "faultOfPair", "(II)I"⟩
def RX5 : String := "BlushBank$Story"
def TX5 : u_T := fun k => match k with
  | 0 => ("BlushBank$Story", "incidents", "I", false)
  | 1 => ("BlushBank$Story", "tripOne", "[I", true)
  | 2 => ("BlushBank$Story", "tripWeek", "[I", true)
  | 3 => ("BlushBank$Story", "tripSize", "[I", true)
  | 4 => ("BlushBank$Story", "occasions", "I", false)
  | 5 => ("BlushBank$Story", "askedOne", "[I", true)
  | 6 => ("BlushBank$Story", "askedWeek", "[I", true)
  | _ => ("BlushBank$Story", "askedFor", "[I", true)
def tyX5 : Nat → FieldType := fun k => match k with
  | 0 => .int
  | 1 => .array .int
  | 2 => .array .int
  | 3 => .array .int
  | 4 => .int
  | 5 => .array .int
  | 6 => .array .int
  | _ => .array .int
abbrev wsX50 : List Cond := u_ws RX5 TX5 8
theorem nmX5 : ∀ a, a < 8 → ∀ b, b < 8 → a ≠ b → (TX5 a).2.1 ≠ (TX5 b).2.1 := by decide +kernel
theorem tyX5_ok : ∀ k, k < 8 → parseFieldDescriptor (TX5 k).2.2.1 = some (tyX5 k) := by decide +kernel
abbrev cX5_init : ByteArray := prog_7_method_1_code
def yX5_init : MethodName := ⟨RX5, "<init>", "()V"⟩
abbrev cX5_copyFrom : ByteArray := prog_7_method_2_code
def yX5_copyFrom : MethodName := ⟨RX5, "copyFrom", "(LBlushBank$Story;)V"⟩
abbrev cX5_knowsAllOf : ByteArray := prog_7_method_3_code
def yX5_knowsAllOf : MethodName := ⟨RX5, "knowsAllOf", "(I)Z"⟩
def RX6 : String := "BlushBank"
def TX6 : u_T := fun k => match k with
  | 0 => ("BlushBank", "scribe", "LBlushBank$Scribe;", true)
  | 1 => ("BlushBank", "story", "LBlushBank$Story;", true)
  | 2 => ("BlushBank", "ledger", "LBlushBank$Ledger;", true)
  | 3 => ("BlushBank", "notes", "LBlushBank$Notes;", true)
  | 4 => ("BlushBank", "trial", "LBlushBank$Ledger;", true)
  | 5 => ("BlushBank", "untold", "[I", true)
  | 6 => ("BlushBank", "images", "[LBlushBank$Image;", true)
  | 7 => ("BlushBank", "sheets", "[LBlushBank$Sheet;", true)
  | _ => ("BlushBank", "tornFault", "I", false)
def tyX6 : Nat → FieldType := fun k => match k with
  | 0 => .object "BlushBank$Scribe"
  | 1 => .object "BlushBank$Story"
  | 2 => .object "BlushBank$Ledger"
  | 3 => .object "BlushBank$Notes"
  | 4 => .object "BlushBank$Ledger"
  | 5 => .array .int
  | 6 => .array (.object "BlushBank$Image")
  | 7 => .array (.object "BlushBank$Sheet")
  | _ => .int
abbrev wsX60 : List Cond := u_ws RX6 TX6 9
theorem nmX6 : ∀ a, a < 9 → ∀ b, b < 9 → a ≠ b → (TX6 a).2.1 ≠ (TX6 b).2.1 := by decide +kernel
theorem tyX6_ok : ∀ k, k < 9 → parseFieldDescriptor (TX6 k).2.2.1 = some (tyX6 k) := by decide +kernel
abbrev cX6_init : ByteArray := prog_1_method_1_code
def yX6_init : MethodName := ⟨RX6, "<init>", "()V"⟩
abbrev cX6_feed : ByteArray := prog_1_method_2_code
def yX6_feed : MethodName := ⟨RX6, "feed", "(I)I"⟩
abbrev cX6_end : ByteArray := prog_1_method_3_code
def yX6_end : MethodName := ⟨RX6, "end", "(I)I"⟩
abbrev cX6_text : ByteArray := prog_1_method_4_code
def yX6_text : MethodName := ⟨RX6, "text", "()I"⟩
abbrev cX6_fault : ByteArray := prog_1_method_5_code
def yX6_fault : MethodName := ⟨RX6, "fault", "()I"⟩
abbrev cX6_rule : ByteArray := prog_1_method_6_code
def yX6_rule : MethodName := ⟨RX6, "rule", "(I)I"⟩
abbrev cX6_one : ByteArray := prog_1_method_7_code
def yX6_one : MethodName := ⟨RX6, "one", "(II)I"⟩
abbrev cX6_trip : ByteArray := prog_1_method_8_code
def yX6_trip : MethodName := ⟨RX6, "trip", "(II)I"⟩
abbrev cX6_asked : ByteArray := prog_1_method_9_code
def yX6_asked : MethodName := ⟨RX6, "asked", "(II)I"⟩
abbrev cX6_deposit : ByteArray := prog_1_method_10_code
def yX6_deposit : MethodName := ⟨RX6, "deposit", "(IZ)I"⟩
abbrev cX6_give : ByteArray := prog_1_method_11_code
def yX6_give : MethodName := ⟨RX6, "give", "(III)I"⟩
abbrev cX6_draw : ByteArray := prog_1_method_12_code
def yX6_draw : MethodName := ⟨RX6, "draw", "(II)I"⟩
abbrev cX6_rumour : ByteArray := prog_1_method_13_code
def yX6_rumour : MethodName := ⟨RX6, "rumour", "(I)I"⟩
abbrev cX6_law : ByteArray := prog_1_method_14_code
def yX6_law : MethodName := ⟨RX6, "law", "(II)I"⟩
abbrev cX6_teach : ByteArray := prog_1_method_15_code
def yX6_teach : MethodName := ⟨RX6, "teach", "(II)I"⟩
abbrev cX6_go : ByteArray := prog_1_method_16_code
def yX6_go : MethodName := ⟨RX6, "go", "(I)I"⟩
abbrev cX6_ahead : ByteArray := prog_1_method_17_code
def yX6_ahead : MethodName := ⟨RX6, "ahead", "(III)I"⟩
abbrev cX6_first : ByteArray := prog_1_method_18_code
def yX6_first : MethodName := ⟨RX6, "first", "(I)I"⟩
abbrev cX6_modest : ByteArray := prog_1_method_19_code
def yX6_modest : MethodName := ⟨RX6, "modest", "()I"⟩
abbrev cX6_plan : ByteArray := prog_1_method_20_code
def yX6_plan : MethodName := ⟨RX6, "plan", "(I)I"⟩
abbrev cX6_best : ByteArray := prog_1_method_21_code
def yX6_best : MethodName := ⟨RX6, "best", "(I)I"⟩
abbrev cX6_save : ByteArray := prog_1_method_22_code
def yX6_save : MethodName := ⟨RX6, "save", "(I)I"⟩
abbrev cX6_run : ByteArray := prog_1_method_23_code
def yX6_run : MethodName := ⟨RX6, "run", "(I)I"⟩
abbrev cX6_holds : ByteArray := prog_1_method_24_code
def yX6_holds : MethodName := ⟨RX6, "holds", "()I"⟩
abbrev cX6_cover : ByteArray := prog_1_method_25_code
def yX6_cover : MethodName := ⟨RX6, "cover", "(I)I"⟩
abbrev cX6_rate : ByteArray := prog_1_method_26_code
def yX6_rate : MethodName := ⟨RX6, "rate", "(I)I"⟩
abbrev cX6_gift : ByteArray := prog_1_method_27_code
def yX6_gift : MethodName := ⟨RX6, "gift", "(II)I"⟩
abbrev cX6_told : ByteArray := prog_1_method_28_code
def yX6_told : MethodName := ⟨RX6, "told", "(II)I"⟩
abbrev cX6_whisper : ByteArray := prog_1_method_29_code
def yX6_whisper : MethodName := ⟨RX6, "whisper", "(I)I"⟩
abbrev cX6_note : ByteArray := prog_1_method_30_code
def yX6_note : MethodName := ⟨RX6, "note", "(IIZ)I"⟩
abbrev cX6_forget : ByteArray := prog_1_method_31_code
def yX6_forget : MethodName := ⟨RX6, "forget", "(I)I"⟩
abbrev cX6_fits : ByteArray := prog_1_method_32_code
def yX6_fits : MethodName := ⟨RX6, "fits", "(I)I"⟩
abbrev cX6_drift : ByteArray := prog_1_method_33_code
def yX6_drift : MethodName := ⟨RX6, "drift", "(III)I"⟩
abbrev cX6_keep : ByteArray := prog_1_method_34_code
def yX6_keep : MethodName := ⟨RX6, "keep", "(I)I"⟩
abbrev cX6_back : ByteArray := prog_1_method_35_code
def yX6_back : MethodName := ⟨RX6, "back", "(I)I"⟩
abbrev cX6_sheet : ByteArray := prog_1_method_36_code
def yX6_sheet : MethodName := ⟨RX6, "sheet", "(III)I"⟩
abbrev cX6_lay : ByteArray := prog_1_method_37_code
def yX6_lay : MethodName := ⟨RX6, "lay", "(III)I"⟩
abbrev cX6_read : ByteArray := prog_1_method_38_code
def yX6_read : MethodName := ⟨RX6, "read", "(IIII)I"⟩
abbrev cX6_torn : ByteArray := prog_1_method_39_code
def yX6_torn : MethodName := ⟨RX6, "torn", "()I"⟩
abbrev cX6_count : ByteArray := prog_1_method_40_code
def yX6_count : MethodName := ⟨RX6, "count", "(I)I"⟩
abbrev cX6_isWithin : ByteArray := prog_1_method_41_code
def yX6_isWithin : MethodName := ⟨RX6, "isWithin", "(II)Z"⟩
abbrev cX6_isOne : ByteArray := prog_1_method_42_code
def yX6_isOne : MethodName := ⟨RX6, "isOne", "(I)Z"⟩
abbrev cX6_isIncident : ByteArray := prog_1_method_43_code
def yX6_isIncident : MethodName := ⟨RX6, "isIncident", "(I)Z"⟩
abbrev cX6_allIncidents : ByteArray := prog_1_method_44_code
def yX6_allIncidents : MethodName := ⟨RX6, "allIncidents", "()I"⟩
abbrev cX6_keepsThePast : ByteArray := prog_1_method_45_code
def yX6_keepsThePast : MethodName := ⟨RX6, "keepsThePast", "(I)Z"⟩
abbrev cX6_isSmaller : ByteArray := prog_1_method_46_code
def yX6_isSmaller : MethodName := ⟨RX6, "isSmaller", "(II)Z"⟩
abbrev cX6_timesByPlan : ByteArray := prog_1_method_47_code
def yX6_timesByPlan : MethodName := ⟨RX6, "timesByPlan", "(I)I"⟩
abbrev cX6_timesByRumour : ByteArray := prog_1_method_48_code
def yX6_timesByRumour : MethodName := ⟨RX6, "timesByRumour", "(I)I"⟩
abbrev cX6_staysModest : ByteArray := prog_1_method_49_code
def yX6_staysModest : MethodName := ⟨RX6, "staysModest", "(I)Z"⟩
abbrev cX6_isAsNoted : ByteArray := prog_1_method_50_code
def yX6_isAsNoted : MethodName := ⟨RX6, "isAsNoted", "(I)Z"⟩
def RX7 : String := "BlushBankModel"
def TX7 : u_T := fun k => match k with
  | 0 => ("BlushBankModel", "st", "[I", true)
  | 1 => ("BlushBankModel", "at", "[I", true)
  | 2 => ("BlushBankModel", "isKept", "[Z", true)
  | 3 => ("BlushBankModel", "people", "I", false)
  | 4 => ("BlushBankModel", "incidents", "I", false)
  | 5 => ("BlushBankModel", "occasions", "I", false)
  | 6 => ("BlushBankModel", "tripOnes", "[I", true)
  | 7 => ("BlushBankModel", "tripWeeks", "[I", true)
  | 8 => ("BlushBankModel", "tripSizes", "[I", true)
  | 9 => ("BlushBankModel", "askOnes", "[I", true)
  | 10 => ("BlushBankModel", "askWeeks", "[I", true)
  | 11 => ("BlushBankModel", "askMany", "[I", true)
  | 12 => ("BlushBankModel", "draft", "[I", true)
  | 13 => ("BlushBankModel", "dPeople", "I", false)
  | 14 => ("BlushBankModel", "dIncidents", "I", false)
  | 15 => ("BlushBankModel", "dOccasions", "I", false)
  | 16 => ("BlushBankModel", "dTripOnes", "[I", true)
  | 17 => ("BlushBankModel", "dTripWeeks", "[I", true)
  | 18 => ("BlushBankModel", "dTripSizes", "[I", true)
  | 19 => ("BlushBankModel", "dAskOnes", "[I", true)
  | 20 => ("BlushBankModel", "dAskWeeks", "[I", true)
  | 21 => ("BlushBankModel", "dAskMany", "[I", true)
  | 22 => ("BlushBankModel", "toldLines", "I", false)
  | 23 => ("BlushBankModel", "highest", "I", false)
  | 24 => ("BlushBankModel", "tape", "[I", true)
  | 25 => ("BlushBankModel", "taped", "I", false)
  | 26 => ("BlushBankModel", "pos", "I", false)
  | 27 => ("BlushBankModel", "from", "I", false)
  | 28 => ("BlushBankModel", "sort", "I", false)
  | 29 => ("BlushBankModel", "value", "I", false)
  | 30 => ("BlushBankModel", "fault", "I", false)
  | 31 => ("BlushBankModel", "wrongAt", "I", false)
  | 32 => ("BlushBankModel", "brazenNow", "I", false)
  | 33 => ("BlushBankModel", "often", "[I", true)
  | 34 => ("BlushBankModel", "lanes", "[I", true)
  | 35 => ("BlushBankModel", "sizes", "[I", true)
  | 36 => ("BlushBankModel", "cells", "[I", true)
  | 37 => ("BlushBankModel", "torn", "I", false)
  | _ => ("BlushBankModel", "had", "[I", true)
def tyX7 : Nat → FieldType := fun k => match k with
  | 0 => .array .int
  | 1 => .array .int
  | 2 => .array .boolean
  | 3 => .int
  | 4 => .int
  | 5 => .int
  | 6 => .array .int
  | 7 => .array .int
  | 8 => .array .int
  | 9 => .array .int
  | 10 => .array .int
  | 11 => .array .int
  | 12 => .array .int
  | 13 => .int
  | 14 => .int
  | 15 => .int
  | 16 => .array .int
  | 17 => .array .int
  | 18 => .array .int
  | 19 => .array .int
  | 20 => .array .int
  | 21 => .array .int
  | 22 => .int
  | 23 => .int
  | 24 => .array .int
  | 25 => .int
  | 26 => .int
  | 27 => .int
  | 28 => .int
  | 29 => .int
  | 30 => .int
  | 31 => .int
  | 32 => .int
  | 33 => .array .int
  | 34 => .array .int
  | 35 => .array .int
  | 36 => .array .int
  | 37 => .int
  | _ => .array .int
abbrev wsX70 : List Cond := u_ws RX7 TX7 39
theorem nmX7 : ∀ a, a < 39 → ∀ b, b < 39 → a ≠ b → (TX7 a).2.1 ≠ (TX7 b).2.1 := by decide +kernel
theorem tyX7_ok : ∀ k, k < 39 → parseFieldDescriptor (TX7 k).2.2.1 = some (tyX7 k) := by decide +kernel
abbrev cX7_init : ByteArray := prog_9_method_1_code
def yX7_init : MethodName := ⟨RX7, "<init>", "()V"⟩
abbrev cX7_in : ByteArray := prog_9_method_3_code
def yX7_in : MethodName := ⟨RX7, "in", "(JJJ)Z"⟩
abbrev cX7_flag : ByteArray := prog_9_method_4_code
def yX7_flag : MethodName := ⟨RX7, "flag", "(Z)I"⟩
abbrev cX7_firstDraft : ByteArray := prog_9_method_5_code
def yX7_firstDraft : MethodName := ⟨RX7, "firstDraft", "()V"⟩
abbrev cX7_keepDraft : ByteArray := prog_9_method_6_code
def yX7_keepDraft : MethodName := ⟨RX7, "keepDraft", "()V"⟩
abbrev cX7_feed : ByteArray := prog_9_method_7_code
def yX7_feed : MethodName := ⟨RX7, "feed", "(I)I"⟩
abbrev cX7_end : ByteArray := prog_9_method_8_code
def yX7_end : MethodName := ⟨RX7, "end", "(I)I"⟩
abbrev cX7_needs : ByteArray := prog_9_method_9_code
def yX7_needs : MethodName := ⟨RX7, "needs", "(ZI)V"⟩
abbrev cX7_byteAt : ByteArray := prog_9_method_10_code
def yX7_byteAt : MethodName := ⟨RX7, "byteAt", "(I)I"⟩
abbrev cX7_is : ByteArray := prog_9_method_11_code
def yX7_is : MethodName := ⟨RX7, "is", "(IIIII)Z"⟩
abbrev cX7_ends : ByteArray := prog_9_method_12_code
def yX7_ends : MethodName := ⟨RX7, "ends", "(IIII)Z"⟩
abbrev cX7_lineNow : ByteArray := prog_9_method_13_code
def yX7_lineNow : MethodName := ⟨RX7, "lineNow", "()I"⟩
abbrev cX7_next : ByteArray := prog_9_method_14_code
def yX7_next : MethodName := ⟨RX7, "next", "()V"⟩
abbrev cX7_readNumber : ByteArray := prog_9_method_15_code
def yX7_readNumber : MethodName := ⟨RX7, "readNumber", "(II)I"⟩
abbrev cX7_readPerson : ByteArray := prog_9_method_16_code
def yX7_readPerson : MethodName := ⟨RX7, "readPerson", "()I"⟩
abbrev cX7_readLineOf : ByteArray := prog_9_method_17_code
def yX7_readLineOf : MethodName := ⟨RX7, "readLineOf", "(I)V"⟩
abbrev cX7_readLine : ByteArray := prog_9_method_18_code
def yX7_readLine : MethodName := ⟨RX7, "readLine", "()V"⟩
abbrev cX7_text : ByteArray := prog_9_method_19_code
def yX7_text : MethodName := ⟨RX7, "text", "()I"⟩
abbrev cX7_fault : ByteArray := prog_9_method_20_code
def yX7_fault : MethodName := ⟨RX7, "fault", "()I"⟩
abbrev cX7_isOne : ByteArray := prog_9_method_21_code
def yX7_isOne : MethodName := ⟨RX7, "isOne", "(I)Z"⟩
abbrev cX7_isTrip : ByteArray := prog_9_method_22_code
def yX7_isTrip : MethodName := ⟨RX7, "isTrip", "(I)Z"⟩
abbrev cX7_isPart : ByteArray := prog_9_method_23_code
def yX7_isPart : MethodName := ⟨RX7, "isPart", "(I)Z"⟩
abbrev cX7_starts : ByteArray := prog_9_method_24_code
def yX7_starts : MethodName := ⟨RX7, "starts", "()V"⟩
abbrev cX7_of : ByteArray := prog_9_method_25_code
def yX7_of : MethodName := ⟨RX7, "of", "(II)I"⟩
abbrev cX7_more : ByteArray := prog_9_method_26_code
def yX7_more : MethodName := ⟨RX7, "more", "(III)V"⟩
abbrev cX7_blushOf : ByteArray := prog_9_method_27_code
def yX7_blushOf : MethodName := ⟨RX7, "blushOf", "(I)I"⟩
abbrev cX7_least : ByteArray := prog_9_method_28_code
def yX7_least : MethodName := ⟨RX7, "least", "(II)I"⟩
abbrev cX7_isAskedOf : ByteArray := prog_9_method_29_code
def yX7_isAskedOf : MethodName := ⟨RX7, "isAskedOf", "(I)V"⟩
abbrev cX7_weekGoes : ByteArray := prog_9_method_30_code
def yX7_weekGoes : MethodName := ⟨RX7, "weekGoes", "()V"⟩
abbrev cX7_weeksGo : ByteArray := prog_9_method_31_code
def yX7_weeksGo : MethodName := ⟨RX7, "weeksGo", "(I)V"⟩
abbrev cX7_weeksLeft : ByteArray := prog_9_method_32_code
def yX7_weeksLeft : MethodName := ⟨RX7, "weeksLeft", "()I"⟩
abbrev cX7_brazenMore : ByteArray := prog_9_method_33_code
def yX7_brazenMore : MethodName := ⟨RX7, "brazenMore", "()I"⟩
abbrev cX7_brazenIn : ByteArray := prog_9_method_34_code
def yX7_brazenIn : MethodName := ⟨RX7, "brazenIn", "(I)I"⟩
abbrev cX7_rule : ByteArray := prog_9_method_35_code
def yX7_rule : MethodName := ⟨RX7, "rule", "(I)I"⟩
abbrev cX7_one : ByteArray := prog_9_method_36_code
def yX7_one : MethodName := ⟨RX7, "one", "(II)I"⟩
abbrev cX7_trip : ByteArray := prog_9_method_37_code
def yX7_trip : MethodName := ⟨RX7, "trip", "(II)I"⟩
abbrev cX7_asked : ByteArray := prog_9_method_38_code
def yX7_asked : MethodName := ⟨RX7, "asked", "(II)I"⟩
abbrev cX7_becomes : ByteArray := prog_9_method_39_code
def yX7_becomes : MethodName := ⟨RX7, "becomes", "(II)I"⟩
abbrev cX7_deposit : ByteArray := prog_9_method_40_code
def yX7_deposit : MethodName := ⟨RX7, "deposit", "(IZ)I"⟩
abbrev cX7_give : ByteArray := prog_9_method_41_code
def yX7_give : MethodName := ⟨RX7, "give", "(III)I"⟩
abbrev cX7_draw : ByteArray := prog_9_method_42_code
def yX7_draw : MethodName := ⟨RX7, "draw", "(II)I"⟩
abbrev cX7_rumoured : ByteArray := prog_9_method_43_code
def yX7_rumoured : MethodName := ⟨RX7, "rumoured", "(I)I"⟩
abbrev cX7_settles : ByteArray := prog_9_method_44_code
def yX7_settles : MethodName := ⟨RX7, "settles", "()V"⟩
abbrev cX7_rumour : ByteArray := prog_9_method_45_code
def yX7_rumour : MethodName := ⟨RX7, "rumour", "(I)I"⟩
abbrev cX7_law : ByteArray := prog_9_method_46_code
def yX7_law : MethodName := ⟨RX7, "law", "(II)I"⟩
abbrev cX7_teach : ByteArray := prog_9_method_47_code
def yX7_teach : MethodName := ⟨RX7, "teach", "(II)I"⟩
abbrev cX7_go : ByteArray := prog_9_method_48_code
def yX7_go : MethodName := ⟨RX7, "go", "(I)I"⟩
abbrev cX7_ahead : ByteArray := prog_9_method_49_code
def yX7_ahead : MethodName := ⟨RX7, "ahead", "(III)I"⟩
abbrev cX7_first : ByteArray := prog_9_method_50_code
def yX7_first : MethodName := ⟨RX7, "first", "(I)I"⟩
abbrev cX7_modest : ByteArray := prog_9_method_51_code
def yX7_modest : MethodName := ⟨RX7, "modest", "()I"⟩
abbrev cX7_isPlan : ByteArray := prog_9_method_52_code
def yX7_isPlan : MethodName := ⟨RX7, "isPlan", "(I)Z"⟩
abbrev cX7_startsBy : ByteArray := prog_9_method_53_code
def yX7_startsBy : MethodName := ⟨RX7, "startsBy", "(I)V"⟩
abbrev cX7_plan : ByteArray := prog_9_method_54_code
def yX7_plan : MethodName := ⟨RX7, "plan", "(I)I"⟩
abbrev cX7_bitsOf : ByteArray := prog_9_method_55_code
def yX7_bitsOf : MethodName := ⟨RX7, "bitsOf", "(I)I"⟩
abbrev cX7_best : ByteArray := prog_9_method_56_code
def yX7_best : MethodName := ⟨RX7, "best", "(I)I"⟩
abbrev cX7_save : ByteArray := prog_9_method_57_code
def yX7_save : MethodName := ⟨RX7, "save", "(I)I"⟩
abbrev cX7_runs : ByteArray := prog_9_method_58_code
def yX7_runs : MethodName := ⟨RX7, "runs", "()V"⟩
abbrev cX7_allOf : ByteArray := prog_9_method_59_code
def yX7_allOf : MethodName := ⟨RX7, "allOf", "(I)I"⟩
abbrev cX7_run : ByteArray := prog_9_method_60_code
def yX7_run : MethodName := ⟨RX7, "run", "(I)I"⟩
abbrev cX7_holds : ByteArray := prog_9_method_61_code
def yX7_holds : MethodName := ⟨RX7, "holds", "()I"⟩
abbrev cX7_leastOf : ByteArray := prog_9_method_62_code
def yX7_leastOf : MethodName := ⟨RX7, "leastOf", "(III)I"⟩
abbrev cX7_cover : ByteArray := prog_9_method_63_code
def yX7_cover : MethodName := ⟨RX7, "cover", "(I)I"⟩
abbrev cX7_rate : ByteArray := prog_9_method_64_code
def yX7_rate : MethodName := ⟨RX7, "rate", "(I)I"⟩
abbrev cX7_brazenAsNow : ByteArray := prog_9_method_65_code
def yX7_brazenAsNow : MethodName := ⟨RX7, "brazenAsNow", "()I"⟩
abbrev cX7_gift : ByteArray := prog_9_method_66_code
def yX7_gift : MethodName := ⟨RX7, "gift", "(II)I"⟩
abbrev cX7_told : ByteArray := prog_9_method_67_code
def yX7_told : MethodName := ⟨RX7, "told", "(II)I"⟩
abbrev cX7_whisper : ByteArray := prog_9_method_68_code
def yX7_whisper : MethodName := ⟨RX7, "whisper", "(I)I"⟩
abbrev cX7_note : ByteArray := prog_9_method_69_code
def yX7_note : MethodName := ⟨RX7, "note", "(IIZ)I"⟩
abbrev cX7_forget : ByteArray := prog_9_method_70_code
def yX7_forget : MethodName := ⟨RX7, "forget", "(I)I"⟩
abbrev cX7_fitsTo : ByteArray := prog_9_method_71_code
def yX7_fitsTo : MethodName := ⟨RX7, "fitsTo", "(I)Z"⟩
abbrev cX7_fits : ByteArray := prog_9_method_72_code
def yX7_fits : MethodName := ⟨RX7, "fits", "(I)I"⟩
abbrev cX7_drift : ByteArray := prog_9_method_73_code
def yX7_drift : MethodName := ⟨RX7, "drift", "(III)I"⟩
abbrev cX7_copies : ByteArray := prog_9_method_74_code
def yX7_copies : MethodName := ⟨RX7, "copies", "(II)V"⟩
abbrev cX7_keep : ByteArray := prog_9_method_75_code
def yX7_keep : MethodName := ⟨RX7, "keep", "(I)I"⟩
abbrev cX7_back : ByteArray := prog_9_method_76_code
def yX7_back : MethodName := ⟨RX7, "back", "(I)I"⟩
abbrev cX7_isSheet : ByteArray := prog_9_method_77_code
def yX7_isSheet : MethodName := ⟨RX7, "isSheet", "(II)Z"⟩
abbrev cX7_sheet : ByteArray := prog_9_method_78_code
def yX7_sheet : MethodName := ⟨RX7, "sheet", "(III)I"⟩
abbrev cX7_lay : ByteArray := prog_9_method_79_code
def yX7_lay : MethodName := ⟨RX7, "lay", "(III)I"⟩
abbrev cX7_read : ByteArray := prog_9_method_80_code
def yX7_read : MethodName := ⟨RX7, "read", "(IIII)I"⟩
abbrev cX7_torn : ByteArray := prog_9_method_81_code
def yX7_torn : MethodName := ⟨RX7, "torn", "()I"⟩
abbrev cX7_count : ByteArray := prog_9_method_82_code
def yX7_count : MethodName := ⟨RX7, "count", "(I)I"⟩
def RJx145de : String := "java/io/Serializable"
def TJx145de : u_T := fun k => match k with
  | _ => ("", "", "", false)
def tyJx145de : Nat → FieldType := fun k => match k with
  | _ => .int
abbrev wsJx145de0 : List Cond := u_ws RJx145de TJx145de 0
theorem nmJx145de : ∀ a, a < 0 → ∀ b, b < 0 → a ≠ b → (TJx145de a).2.1 ≠ (TJx145de b).2.1 := by decide +kernel
theorem tyJx145de_ok : ∀ k, k < 0 → parseFieldDescriptor (TJx145de k).2.2.1 = some (tyJx145de k) := by decide +kernel
def RJx9f9b0 : String := "java/lang/CharSequence"
def TJx9f9b0 : u_T := fun k => match k with
  | _ => ("", "", "", false)
def tyJx9f9b0 : Nat → FieldType := fun k => match k with
  | _ => .int
abbrev wsJx9f9b00 : List Cond := u_ws RJx9f9b0 TJx9f9b0 0
theorem nmJx9f9b0 : ∀ a, a < 0 → ∀ b, b < 0 → a ≠ b → (TJx9f9b0 a).2.1 ≠ (TJx9f9b0 b).2.1 := by decide +kernel
theorem tyJx9f9b0_ok : ∀ k, k < 0 → parseFieldDescriptor (TJx9f9b0 k).2.2.1 = some (tyJx9f9b0 k) := by decide +kernel
def RJxb160c : String := "java/lang/Comparable"
def TJxb160c : u_T := fun k => match k with
  | _ => ("", "", "", false)
def tyJxb160c : Nat → FieldType := fun k => match k with
  | _ => .int
abbrev wsJxb160c0 : List Cond := u_ws RJxb160c TJxb160c 0
theorem nmJxb160c : ∀ a, a < 0 → ∀ b, b < 0 → a ≠ b → (TJxb160c a).2.1 ≠ (TJxb160c b).2.1 := by decide +kernel
theorem tyJxb160c_ok : ∀ k, k < 0 → parseFieldDescriptor (TJxb160c k).2.2.1 = some (tyJxb160c k) := by decide +kernel
def RJ6 : String := "java/lang/Integer"
def TJ6 : u_T := fun k => match k with
  | _ => ("", "", "", false)
def tyJ6 : Nat → FieldType := fun k => match k with
  | _ => .int
abbrev wsJ60 : List Cond := u_ws RJ6 TJ6 0
theorem nmJ6 : ∀ a, a < 0 → ∀ b, b < 0 → a ≠ b → (TJ6 a).2.1 ≠ (TJ6 b).2.1 := by decide +kernel
theorem tyJ6_ok : ∀ k, k < 0 → parseFieldDescriptor (TJ6 k).2.2.1 = some (tyJ6 k) := by decide +kernel
abbrev cJ6_bitCount_0f7a4 : ByteArray := prog_10_method_49_code
def yJ6_bitCount_0f7a4 : MethodName := ⟨RJ6, "bitCount", "(I)I"⟩
def RJ9 : String := "java/lang/Math"
def TJ9 : u_T := fun k => match k with
  | _ => ("", "", "", false)
def tyJ9 : Nat → FieldType := fun k => match k with
  | _ => .int
abbrev wsJ90 : List Cond := u_ws RJ9 TJ9 0
theorem nmJ9 : ∀ a, a < 0 → ∀ b, b < 0 → a ≠ b → (TJ9 a).2.1 ≠ (TJ9 b).2.1 := by decide +kernel
theorem tyJ9_ok : ∀ k, k < 0 → parseFieldDescriptor (TJ9 k).2.2.1 = some (tyJ9 k) := by decide +kernel
abbrev cJ9_min_7cf53 : ByteArray := prog_11_method_69_code
def yJ9_min_7cf53 : MethodName := ⟨RJ9, "min", "(II)I"⟩
def RJ0 : String := "java/lang/String"
def TJ0 : u_T := fun k => match k with
  | _ => ("", "", "", false)
def tyJ0 : Nat → FieldType := fun k => match k with
  | _ => .int
abbrev wsJ00 : List Cond := u_ws RJ0 TJ0 0
theorem nmJ0 : ∀ a, a < 0 → ∀ b, b < 0 → a ≠ b → (TJ0 a).2.1 ≠ (TJ0 b).2.1 := by decide +kernel
theorem tyJ0_ok : ∀ k, k < 0 → parseFieldDescriptor (TJ0 k).2.2.1 = some (tyJ0 k) := by decide +kernel
abbrev cJ0_length_8abf5 : ByteArray := prog_12_method_54_code
def yJ0_length_8abf5 : MethodName := ⟨RJ0, "length", "()I"⟩
abbrev cJ0_charAt_5068e : ByteArray := prog_12_method_56_code
def yJ0_charAt_5068e : MethodName := ⟨RJ0, "charAt", "(I)C"⟩
abbrev cJ0_coder_7d493 : ByteArray := prog_12_method_152_code
def yJ0_coder_7d493 : MethodName := ⟨RJ0, "coder", "()B"⟩
abbrev cJ0_isLatin1_aae02 : ByteArray := prog_12_method_154_code
def yJ0_isLatin1_aae02 : MethodName := ⟨RJ0, "isLatin1", "()Z"⟩
abbrev cJ0_checkIndex_df160 : ByteArray := prog_12_method_155_code
def yJ0_checkIndex_df160 : MethodName := ⟨RJ0, "checkIndex", "(II)V"⟩
def RJ1 : String := "java/lang/StringLatin1"
def TJ1 : u_T := fun k => match k with
  | _ => ("", "", "", false)
def tyJ1 : Nat → FieldType := fun k => match k with
  | _ => .int
abbrev wsJ10 : List Cond := u_ws RJ1 TJ1 0
theorem nmJ1 : ∀ a, a < 0 → ∀ b, b < 0 → a ≠ b → (TJ1 a).2.1 ≠ (TJ1 b).2.1 := by decide +kernel
theorem tyJ1_ok : ∀ k, k < 0 → parseFieldDescriptor (TJ1 k).2.2.1 = some (tyJ1 k) := by decide +kernel
abbrev cJ1_charAt_3b067 : ByteArray := prog_13_method_2_code
def yJ1_charAt_3b067 : MethodName := ⟨RJ1, "charAt", "([BI)C"⟩
def RJ2 : String := "java/lang/StringUTF16"
def TJ2 : u_T := fun k => match k with
  | _ => ("", "", "", false)
def tyJ2 : Nat → FieldType := fun k => match k with
  | _ => .int
abbrev wsJ20 : List Cond := u_ws RJ2 TJ2 0
theorem nmJ2 : ∀ a, a < 0 → ∀ b, b < 0 → a ≠ b → (TJ2 a).2.1 ≠ (TJ2 b).2.1 := by decide +kernel
theorem tyJ2_ok : ∀ k, k < 0 → parseFieldDescriptor (TJ2 k).2.2.1 = some (tyJ2 k) := by decide +kernel
abbrev cJ2_getChar_3b067 : ByteArray := prog_14_method_5_code
def yJ2_getChar_3b067 : MethodName := ⟨RJ2, "getChar", "([BI)C"⟩
abbrev cJ2_length_9d52b : ByteArray := prog_14_method_6_code
def yJ2_length_9d52b : MethodName := ⟨RJ2, "length", "([B)I"⟩
abbrev cJ2_charAt_3b067 : ByteArray := prog_14_method_83_code
def yJ2_charAt_3b067 : MethodName := ⟨RJ2, "charAt", "([BI)C"⟩
abbrev cJ2_checkIndex_2214a : ByteArray := prog_14_method_91_code
def yJ2_checkIndex_2214a : MethodName := ⟨RJ2, "checkIndex", "(I[B)V"⟩
def RJ10 : String := "java/lang/System"
def TJ10 : u_T := fun k => match k with
  | _ => ("", "", "", false)
def tyJ10 : Nat → FieldType := fun k => match k with
  | _ => .int
abbrev wsJ100 : List Cond := u_ws RJ10 TJ10 0
theorem nmJ10 : ∀ a, a < 0 → ∀ b, b < 0 → a ≠ b → (TJ10 a).2.1 ≠ (TJ10 b).2.1 := by decide +kernel
theorem tyJ10_ok : ∀ k, k < 0 → parseFieldDescriptor (TJ10 k).2.2.1 = some (tyJ10 k) := by decide +kernel
def RJxfd54e : String := "java/lang/constant/Constable"
def TJxfd54e : u_T := fun k => match k with
  | _ => ("", "", "", false)
def tyJxfd54e : Nat → FieldType := fun k => match k with
  | _ => .int
abbrev wsJxfd54e0 : List Cond := u_ws RJxfd54e TJxfd54e 0
theorem nmJxfd54e : ∀ a, a < 0 → ∀ b, b < 0 → a ≠ b → (TJxfd54e a).2.1 ≠ (TJxfd54e b).2.1 := by decide +kernel
theorem tyJxfd54e_ok : ∀ k, k < 0 → parseFieldDescriptor (TJxfd54e k).2.2.1 = some (tyJxfd54e k) := by decide +kernel
def RJx3cf43 : String := "java/lang/constant/ConstantDesc"
def TJx3cf43 : u_T := fun k => match k with
  | _ => ("", "", "", false)
def tyJx3cf43 : Nat → FieldType := fun k => match k with
  | _ => .int
abbrev wsJx3cf430 : List Cond := u_ws RJx3cf43 TJx3cf43 0
theorem nmJx3cf43 : ∀ a, a < 0 → ∀ b, b < 0 → a ≠ b → (TJx3cf43 a).2.1 ≠ (TJx3cf43 b).2.1 := by decide +kernel
theorem tyJx3cf43_ok : ∀ k, k < 0 → parseFieldDescriptor (TJx3cf43 k).2.2.1 = some (tyJx3cf43 k) := by decide +kernel
def RJ7 : String := "java/util/Arrays"
def TJ7 : u_T := fun k => match k with
  | _ => ("", "", "", false)
def tyJ7 : Nat → FieldType := fun k => match k with
  | _ => .int
abbrev wsJ70 : List Cond := u_ws RJ7 TJ7 0
theorem nmJ7 : ∀ a, a < 0 → ∀ b, b < 0 → a ≠ b → (TJ7 a).2.1 ≠ (TJ7 b).2.1 := by decide +kernel
theorem tyJ7_ok : ∀ k, k < 0 → parseFieldDescriptor (TJ7 k).2.2.1 = some (tyJ7 k) := by decide +kernel
abbrev cJ7_fill_53178 : ByteArray := prog_16_method_103_code
def yJ7_fill_53178 : MethodName := ⟨RJ7, "fill", "([II)V"⟩
def RJ3 : String := "jdk/internal/util/Preconditions"
def TJ3 : u_T := fun k => match k with
  | _ => ("", "", "", false)
def tyJ3 : Nat → FieldType := fun k => match k with
  | _ => .int
abbrev wsJ30 : List Cond := u_ws RJ3 TJ3 0
theorem nmJ3 : ∀ a, a < 0 → ∀ b, b < 0 → a ≠ b → (TJ3 a).2.1 ≠ (TJ3 b).2.1 := by decide +kernel
theorem tyJ3_ok : ∀ k, k < 0 → parseFieldDescriptor (TJ3 k).2.2.1 = some (tyJ3 k) := by decide +kernel
abbrev cJ3_checkIndex_8e157 : ByteArray := prog_17_method_11_code
def yJ3_checkIndex_8e157 : MethodName := ⟨RJ3, "checkIndex", "(IILjava/util/function/BiFunction;)I"⟩
def RL : String := "BlushBankLaw"
abbrev cL_law : ByteArray := code
def yL_law : MethodName := ⟨RL, "law", "([I)Z"⟩
def wsX1_init : List Cond := .code yX1_init cX1_init 1 none :: ([.methodLink RX1 3 objectInit, .instanceMethod objectInit, .code objectInit ⟨#[0xb1]⟩ 1 none, .arrayClass .int, .fieldLink RX1 9 "BlushBank$Ledger" "kind" "[I", .fieldLink RX1 15 "BlushBank$Ledger" "hand" "[I", .fieldLink RX1 18 "BlushBank$Ledger" "bank" "[I", .fieldLink RX1 21 "BlushBank$Ledger" "brazen" "[I", .fieldLink RX1 24 "BlushBank$Ledger" "seen" "[I", .fieldLink RX1 27 "BlushBank$Ledger" "interest" "I", .fieldLink RX1 31 "BlushBank$Ledger" "cover" "I"] ++ wsX10)
def wsX2_init : List Cond := .code yX2_init cX2_init 1 none :: ([.methodLink RX2 3 objectInit, .instanceMethod objectInit, .code objectInit ⟨#[0xb1]⟩ 1 none, .arrayClass .int, .fieldLink RX2 9 "BlushBank$Notes" "who" "[I", .fieldLink RX2 15 "BlushBank$Notes" "when" "[I", .fieldLink RX2 18 "BlushBank$Notes" "was" "[I"] ++ wsX20)
def wsX0_init_r1 : List Cond := [Cond.methodLink RX0 1 objectInit, Cond.instanceMethod objectInit, Cond.code objectInit ⟨#[0xb1]⟩ 1 none, Cond.classLink RX0 7 RX1, Cond.instantiable RX1 11, Cond.initialized RX1, Cond.fieldLink RX0 10 "BlushBank$Image" "ledger" "LBlushBank$Ledger;", Cond.classLink RX0 16 RX2, Cond.instantiable RX2 4, Cond.initialized RX2, Cond.fieldLink RX0 19 "BlushBank$Image" "notes" "LBlushBank$Notes;", Cond.instanceMethod yX1_init, Cond.code yX1_init cX1_init 1 none, Cond.methodLink RX1 3 objectInit, Cond.arrayClass .int, Cond.fieldLink RX1 9 "BlushBank$Ledger" "kind" "[I", Cond.fieldLink RX1 15 "BlushBank$Ledger" "hand" "[I", Cond.fieldLink RX1 18 "BlushBank$Ledger" "bank" "[I", Cond.fieldLink RX1 21 "BlushBank$Ledger" "brazen" "[I", Cond.fieldLink RX1 24 "BlushBank$Ledger" "seen" "[I", Cond.fieldLink RX1 27 "BlushBank$Ledger" "interest" "I", Cond.fieldLink RX1 31 "BlushBank$Ledger" "cover" "I", Cond.instanceMethod yX2_init, Cond.code yX2_init cX2_init 1 none]
def wsX0_init_r2 : List Cond := [Cond.methodLink RX2 3 objectInit, Cond.fieldLink RX2 9 "BlushBank$Notes" "who" "[I", Cond.fieldLink RX2 15 "BlushBank$Notes" "when" "[I", Cond.fieldLink RX2 18 "BlushBank$Notes" "was" "[I"]
def wsX0_init : List Cond := .code yX0_init cX0_init 1 none :: ((wsX0_init_r1 ++ wsX0_init_r2) ++ wsX10 ++ wsX00 ++ wsX20)
def wsX1_copyFrom : List Cond := .code yX1_copyFrom cX1_copyFrom 2 none :: ([.fieldLink RX1 34 "BlushBank$Ledger" "people" "I", .fieldLink RX1 9 "BlushBank$Ledger" "kind" "[I", .methodLink RX1 37 arraycopyName, .native arraycopyName, .static arraycopyName, .initialized "java/lang/System", .fieldLink RX1 15 "BlushBank$Ledger" "hand" "[I", .fieldLink RX1 18 "BlushBank$Ledger" "bank" "[I", .fieldLink RX1 21 "BlushBank$Ledger" "brazen" "[I", .fieldLink RX1 24 "BlushBank$Ledger" "seen" "[I", .fieldLink RX1 43 "BlushBank$Ledger" "deposited" "I", .fieldLink RX1 27 "BlushBank$Ledger" "interest" "I", .fieldLink RX1 31 "BlushBank$Ledger" "cover" "I", .fieldLink RX1 46 "BlushBank$Ledger" "week" "I", .fieldLink RX1 49 "BlushBank$Ledger" "faces" "I"] ++ wsX10)
def wsX1_isDeposited : List Cond := .code yX1_isDeposited cX1_isDeposited 2 (some .boolean) :: ([.fieldLink RX1 43 "BlushBank$Ledger" "deposited" "I"] ++ wsX10)
def wsX1_blushOf : List Cond := .code yX1_blushOf cX1_blushOf 4 (some .int) :: ([.fieldLink RX1 52 "BlushBank$Story" "tripSize" "[I", .fieldLink RX1 24 "BlushBank$Ledger" "seen" "[I", .fieldLink RX1 9 "BlushBank$Ledger" "kind" "[I", .fieldLink RX1 57 "BlushBank$Story" "tripOne" "[I"] ++ wsX50 ++ wsX10)
def wsX1_putInHand : List Cond := .code yX1_putInHand cX1_putInHand 3 none :: ([.fieldLink RX1 15 "BlushBank$Ledger" "hand" "[I", .methodLink RX1 60 Lib.Math.min.name, .static Lib.Math.min.name, .initialized "java/lang/Math", .code Lib.Math.min.name Lib.Math.min.code 2 (some .int)] ++ wsX10)
def wsX1_putAtBank : List Cond := .code yX1_putAtBank cX1_putAtBank 3 none :: ([.fieldLink RX1 18 "BlushBank$Ledger" "bank" "[I", .methodLink RX1 60 Lib.Math.min.name, .static Lib.Math.min.name, .initialized "java/lang/Math", .code Lib.Math.min.name Lib.Math.min.code 2 (some .int)] ++ wsX10)
def wsX6_isWithin : List Cond := .code yX6_isWithin cX6_isWithin 2 (some .boolean) :: ([])
def wsX1_takeOut : List Cond := .code yX1_takeOut cX1_takeOut 3 (some .int) :: ([.fieldLink RX1 34 "BlushBank$Ledger" "people" "I", .fieldLink RX1 18 "BlushBank$Ledger" "bank" "[I", .fieldLink RX1 31 "BlushBank$Ledger" "cover" "I", .fieldLink RX1 15 "BlushBank$Ledger" "hand" "[I", .static yX6_isWithin, .initialized RX6, .code yX6_isWithin cX6_isWithin 2 (some .boolean)] ++ wsX10)
def wsX1_spreadRumour : List Cond := .code yX1_spreadRumour cX1_spreadRumour 5 (some .int) :: ([.fieldLink RX1 70 "BlushBank$Story" "incidents" "I", .fieldLink RX1 57 "BlushBank$Story" "tripOne" "[I", .fieldLink RX1 73 "BlushBank$Story" "tripWeek" "[I", .fieldLink RX1 46 "BlushBank$Ledger" "week" "I", .fieldLink RX1 24 "BlushBank$Ledger" "seen" "[I"] ++ wsX50 ++ wsX10)
def wsX1_befall_r1 : List Cond := [Cond.fieldLink RX1 57 "BlushBank$Story" "tripOne" "[I", Cond.methodLink RX1 102 yX1_blushOf, Cond.instanceMethod yX1_blushOf, Cond.selects RX1 yX1_blushOf yX1_blushOf, Cond.initialized RX1, Cond.code yX1_blushOf cX1_blushOf 4 (some .int), Cond.fieldLink RX1 52 "BlushBank$Story" "tripSize" "[I", Cond.fieldLink RX1 24 "BlushBank$Ledger" "seen" "[I", Cond.fieldLink RX1 9 "BlushBank$Ledger" "kind" "[I", Cond.methodLink RX1 106 yX1_isDeposited, Cond.instanceMethod yX1_isDeposited, Cond.selects RX1 yX1_isDeposited yX1_isDeposited, Cond.code yX1_isDeposited cX1_isDeposited 2 (some .boolean), Cond.fieldLink RX1 43 "BlushBank$Ledger" "deposited" "I", Cond.methodLink RX1 110 yX1_putAtBank, Cond.instanceMethod yX1_putAtBank, Cond.selects RX1 yX1_putAtBank yX1_putAtBank, Cond.code yX1_putAtBank cX1_putAtBank 3 none, Cond.fieldLink RX1 18 "BlushBank$Ledger" "bank" "[I", Cond.methodLink RX1 60 Lib.Math.min.name, Cond.static Lib.Math.min.name, Cond.initialized "java/lang/Math", Cond.code Lib.Math.min.name Lib.Math.min.code 2 (some .int), Cond.methodLink RX1 114 yX1_putInHand]
def wsX1_befall_r2 : List Cond := [Cond.instanceMethod yX1_putInHand, Cond.selects RX1 yX1_putInHand yX1_putInHand, Cond.code yX1_putInHand cX1_putInHand 3 none, Cond.fieldLink RX1 15 "BlushBank$Ledger" "hand" "[I"]
def wsX1_befall : List Cond := .code yX1_befall cX1_befall 4 none :: ((wsX1_befall_r1 ++ wsX1_befall_r2) ++ wsX50 ++ wsX10)
def wsX1_meets : List Cond := .code yX1_meets cX1_meets 7 (some .boolean) :: ([.fieldLink RX1 15 "BlushBank$Ledger" "hand" "[I", .methodLink RX1 60 Lib.Math.min.name, .static Lib.Math.min.name, .initialized "java/lang/Math", .code Lib.Math.min.name Lib.Math.min.code 2 (some .int), .fieldLink RX1 18 "BlushBank$Ledger" "bank" "[I", .fieldLink RX1 31 "BlushBank$Ledger" "cover" "I", .fieldLink RX1 9 "BlushBank$Ledger" "kind" "[I", .fieldLink RX1 21 "BlushBank$Ledger" "brazen" "[I", .fieldLink RX1 49 "BlushBank$Ledger" "faces" "I"] ++ wsX10)
def wsX1_closeWeek : List Cond := .code yX1_closeWeek cX1_closeWeek 2 none :: ([.fieldLink RX1 34 "BlushBank$Ledger" "people" "I", .fieldLink RX1 15 "BlushBank$Ledger" "hand" "[I", .fieldLink RX1 18 "BlushBank$Ledger" "bank" "[I", .fieldLink RX1 27 "BlushBank$Ledger" "interest" "I", .fieldLink RX1 31 "BlushBank$Ledger" "cover" "I", .methodLink RX1 60 Lib.Math.min.name, .static Lib.Math.min.name, .initialized "java/lang/Math", .code Lib.Math.min.name Lib.Math.min.code 2 (some .int), .fieldLink RX1 46 "BlushBank$Ledger" "week" "I", .methodLink RX1 110 yX1_putAtBank, .instanceMethod yX1_putAtBank, .selects RX1 yX1_putAtBank yX1_putAtBank, .initialized RX1, .code yX1_putAtBank cX1_putAtBank 3 none] ++ wsX10)
def wsX1_passWeek_r1 : List Cond := [Cond.fieldLink RX1 49 "BlushBank$Ledger" "faces" "I", Cond.fieldLink RX1 70 "BlushBank$Story" "incidents" "I", Cond.fieldLink RX1 73 "BlushBank$Story" "tripWeek" "[I", Cond.fieldLink RX1 46 "BlushBank$Ledger" "week" "I", Cond.fieldLink RX1 84 "BlushBank$Story" "occasions" "I", Cond.fieldLink RX1 87 "BlushBank$Story" "askedWeek" "[I", Cond.fieldLink RX1 90 "BlushBank$Story" "askedOne" "[I", Cond.fieldLink RX1 93 "BlushBank$Story" "askedFor" "[I", Cond.methodLink RX1 80 yX1_befall, Cond.instanceMethod yX1_befall, Cond.selects RX1 yX1_befall yX1_befall, Cond.initialized RX1, Cond.code yX1_befall cX1_befall 4 none, Cond.fieldLink RX1 57 "BlushBank$Story" "tripOne" "[I", Cond.methodLink RX1 102 yX1_blushOf, Cond.instanceMethod yX1_blushOf, Cond.selects RX1 yX1_blushOf yX1_blushOf, Cond.code yX1_blushOf cX1_blushOf 4 (some .int), Cond.fieldLink RX1 52 "BlushBank$Story" "tripSize" "[I", Cond.fieldLink RX1 24 "BlushBank$Ledger" "seen" "[I", Cond.fieldLink RX1 9 "BlushBank$Ledger" "kind" "[I", Cond.methodLink RX1 106 yX1_isDeposited, Cond.instanceMethod yX1_isDeposited, Cond.selects RX1 yX1_isDeposited yX1_isDeposited]
def wsX1_passWeek_r2 : List Cond := [Cond.code yX1_isDeposited cX1_isDeposited 2 (some .boolean), Cond.fieldLink RX1 43 "BlushBank$Ledger" "deposited" "I", Cond.methodLink RX1 110 yX1_putAtBank, Cond.instanceMethod yX1_putAtBank, Cond.selects RX1 yX1_putAtBank yX1_putAtBank, Cond.code yX1_putAtBank cX1_putAtBank 3 none, Cond.fieldLink RX1 18 "BlushBank$Ledger" "bank" "[I", Cond.methodLink RX1 60 Lib.Math.min.name, Cond.static Lib.Math.min.name, Cond.initialized "java/lang/Math", Cond.code Lib.Math.min.name Lib.Math.min.code 2 (some .int), Cond.methodLink RX1 114 yX1_putInHand, Cond.instanceMethod yX1_putInHand, Cond.selects RX1 yX1_putInHand yX1_putInHand, Cond.code yX1_putInHand cX1_putInHand 3 none, Cond.fieldLink RX1 15 "BlushBank$Ledger" "hand" "[I", Cond.methodLink RX1 96 yX1_meets, Cond.instanceMethod yX1_meets, Cond.selects RX1 yX1_meets yX1_meets, Cond.code yX1_meets cX1_meets 7 (some .boolean), Cond.fieldLink RX1 31 "BlushBank$Ledger" "cover" "I", Cond.fieldLink RX1 21 "BlushBank$Ledger" "brazen" "[I", Cond.methodLink RX1 99 yX1_closeWeek, Cond.instanceMethod yX1_closeWeek]
def wsX1_passWeek_r3 : List Cond := [Cond.selects RX1 yX1_closeWeek yX1_closeWeek, Cond.code yX1_closeWeek cX1_closeWeek 2 none, Cond.fieldLink RX1 34 "BlushBank$Ledger" "people" "I", Cond.fieldLink RX1 27 "BlushBank$Ledger" "interest" "I"]
def wsX1_passWeek : List Cond := .code yX1_passWeek cX1_passWeek 4 (some .int) :: ((wsX1_passWeek_r1 ++ (wsX1_passWeek_r2 ++ wsX1_passWeek_r3)) ++ wsX10 ++ wsX50)
def wsX1_passWeeks_r1 : List Cond := [Cond.methodLink RX1 76 yX1_passWeek, Cond.instanceMethod yX1_passWeek, Cond.selects RX1 yX1_passWeek yX1_passWeek, Cond.initialized RX1, Cond.code yX1_passWeek cX1_passWeek 4 (some .int), Cond.fieldLink RX1 49 "BlushBank$Ledger" "faces" "I", Cond.fieldLink RX1 70 "BlushBank$Story" "incidents" "I", Cond.fieldLink RX1 73 "BlushBank$Story" "tripWeek" "[I", Cond.fieldLink RX1 46 "BlushBank$Ledger" "week" "I", Cond.fieldLink RX1 84 "BlushBank$Story" "occasions" "I", Cond.fieldLink RX1 87 "BlushBank$Story" "askedWeek" "[I", Cond.fieldLink RX1 90 "BlushBank$Story" "askedOne" "[I", Cond.fieldLink RX1 93 "BlushBank$Story" "askedFor" "[I", Cond.methodLink RX1 80 yX1_befall, Cond.instanceMethod yX1_befall, Cond.selects RX1 yX1_befall yX1_befall, Cond.code yX1_befall cX1_befall 4 none, Cond.fieldLink RX1 57 "BlushBank$Story" "tripOne" "[I", Cond.methodLink RX1 102 yX1_blushOf, Cond.instanceMethod yX1_blushOf, Cond.selects RX1 yX1_blushOf yX1_blushOf, Cond.code yX1_blushOf cX1_blushOf 4 (some .int), Cond.fieldLink RX1 52 "BlushBank$Story" "tripSize" "[I", Cond.fieldLink RX1 24 "BlushBank$Ledger" "seen" "[I"]
def wsX1_passWeeks_r2 : List Cond := [Cond.fieldLink RX1 9 "BlushBank$Ledger" "kind" "[I", Cond.methodLink RX1 106 yX1_isDeposited, Cond.instanceMethod yX1_isDeposited, Cond.selects RX1 yX1_isDeposited yX1_isDeposited, Cond.code yX1_isDeposited cX1_isDeposited 2 (some .boolean), Cond.fieldLink RX1 43 "BlushBank$Ledger" "deposited" "I", Cond.methodLink RX1 110 yX1_putAtBank, Cond.instanceMethod yX1_putAtBank, Cond.selects RX1 yX1_putAtBank yX1_putAtBank, Cond.code yX1_putAtBank cX1_putAtBank 3 none, Cond.fieldLink RX1 18 "BlushBank$Ledger" "bank" "[I", Cond.methodLink RX1 60 Lib.Math.min.name, Cond.static Lib.Math.min.name, Cond.initialized "java/lang/Math", Cond.code Lib.Math.min.name Lib.Math.min.code 2 (some .int), Cond.methodLink RX1 114 yX1_putInHand, Cond.instanceMethod yX1_putInHand, Cond.selects RX1 yX1_putInHand yX1_putInHand, Cond.code yX1_putInHand cX1_putInHand 3 none, Cond.fieldLink RX1 15 "BlushBank$Ledger" "hand" "[I", Cond.methodLink RX1 96 yX1_meets, Cond.instanceMethod yX1_meets, Cond.selects RX1 yX1_meets yX1_meets, Cond.code yX1_meets cX1_meets 7 (some .boolean)]
def wsX1_passWeeks_r3 : List Cond := [Cond.fieldLink RX1 31 "BlushBank$Ledger" "cover" "I", Cond.fieldLink RX1 21 "BlushBank$Ledger" "brazen" "[I", Cond.methodLink RX1 99 yX1_closeWeek, Cond.instanceMethod yX1_closeWeek, Cond.selects RX1 yX1_closeWeek yX1_closeWeek, Cond.code yX1_closeWeek cX1_closeWeek 2 none, Cond.fieldLink RX1 34 "BlushBank$Ledger" "people" "I", Cond.fieldLink RX1 27 "BlushBank$Ledger" "interest" "I"]
def wsX1_passWeeks : List Cond := .code yX1_passWeeks cX1_passWeeks 5 (some .int) :: ((wsX1_passWeeks_r1 ++ (wsX1_passWeeks_r2 ++ wsX1_passWeeks_r3)) ++ wsX10 ++ wsX50)
def wsX1_passToLastWeek_r1 : List Cond := [Cond.fieldLink RX1 46 "BlushBank$Ledger" "week" "I", Cond.methodLink RX1 76 yX1_passWeek, Cond.instanceMethod yX1_passWeek, Cond.selects RX1 yX1_passWeek yX1_passWeek, Cond.initialized RX1, Cond.code yX1_passWeek cX1_passWeek 4 (some .int), Cond.fieldLink RX1 49 "BlushBank$Ledger" "faces" "I", Cond.fieldLink RX1 70 "BlushBank$Story" "incidents" "I", Cond.fieldLink RX1 73 "BlushBank$Story" "tripWeek" "[I", Cond.fieldLink RX1 84 "BlushBank$Story" "occasions" "I", Cond.fieldLink RX1 87 "BlushBank$Story" "askedWeek" "[I", Cond.fieldLink RX1 90 "BlushBank$Story" "askedOne" "[I", Cond.fieldLink RX1 93 "BlushBank$Story" "askedFor" "[I", Cond.methodLink RX1 80 yX1_befall, Cond.instanceMethod yX1_befall, Cond.selects RX1 yX1_befall yX1_befall, Cond.code yX1_befall cX1_befall 4 none, Cond.fieldLink RX1 57 "BlushBank$Story" "tripOne" "[I", Cond.methodLink RX1 102 yX1_blushOf, Cond.instanceMethod yX1_blushOf, Cond.selects RX1 yX1_blushOf yX1_blushOf, Cond.code yX1_blushOf cX1_blushOf 4 (some .int), Cond.fieldLink RX1 52 "BlushBank$Story" "tripSize" "[I", Cond.fieldLink RX1 24 "BlushBank$Ledger" "seen" "[I"]
def wsX1_passToLastWeek_r2 : List Cond := [Cond.fieldLink RX1 9 "BlushBank$Ledger" "kind" "[I", Cond.methodLink RX1 106 yX1_isDeposited, Cond.instanceMethod yX1_isDeposited, Cond.selects RX1 yX1_isDeposited yX1_isDeposited, Cond.code yX1_isDeposited cX1_isDeposited 2 (some .boolean), Cond.fieldLink RX1 43 "BlushBank$Ledger" "deposited" "I", Cond.methodLink RX1 110 yX1_putAtBank, Cond.instanceMethod yX1_putAtBank, Cond.selects RX1 yX1_putAtBank yX1_putAtBank, Cond.code yX1_putAtBank cX1_putAtBank 3 none, Cond.fieldLink RX1 18 "BlushBank$Ledger" "bank" "[I", Cond.methodLink RX1 60 Lib.Math.min.name, Cond.static Lib.Math.min.name, Cond.initialized "java/lang/Math", Cond.code Lib.Math.min.name Lib.Math.min.code 2 (some .int), Cond.methodLink RX1 114 yX1_putInHand, Cond.instanceMethod yX1_putInHand, Cond.selects RX1 yX1_putInHand yX1_putInHand, Cond.code yX1_putInHand cX1_putInHand 3 none, Cond.fieldLink RX1 15 "BlushBank$Ledger" "hand" "[I", Cond.methodLink RX1 96 yX1_meets, Cond.instanceMethod yX1_meets, Cond.selects RX1 yX1_meets yX1_meets, Cond.code yX1_meets cX1_meets 7 (some .boolean)]
def wsX1_passToLastWeek_r3 : List Cond := [Cond.fieldLink RX1 31 "BlushBank$Ledger" "cover" "I", Cond.fieldLink RX1 21 "BlushBank$Ledger" "brazen" "[I", Cond.methodLink RX1 99 yX1_closeWeek, Cond.instanceMethod yX1_closeWeek, Cond.selects RX1 yX1_closeWeek yX1_closeWeek, Cond.code yX1_closeWeek cX1_closeWeek 2 none, Cond.fieldLink RX1 34 "BlushBank$Ledger" "people" "I", Cond.fieldLink RX1 27 "BlushBank$Ledger" "interest" "I"]
def wsX1_passToLastWeek : List Cond := .code yX1_passToLastWeek cX1_passToLastWeek 4 (some .int) :: ((wsX1_passToLastWeek_r1 ++ (wsX1_passToLastWeek_r2 ++ wsX1_passToLastWeek_r3)) ++ wsX10 ++ wsX50)
def wsX1_runToCounter : List Cond := .code yX1_runToCounter cX1_runToCounter 2 none :: ([.fieldLink RX1 34 "BlushBank$Ledger" "people" "I", .fieldLink RX1 18 "BlushBank$Ledger" "bank" "[I", .fieldLink RX1 31 "BlushBank$Ledger" "cover" "I", .methodLink RX1 114 yX1_putInHand, .instanceMethod yX1_putInHand, .selects RX1 yX1_putInHand yX1_putInHand, .initialized RX1, .code yX1_putInHand cX1_putInHand 3 none, .fieldLink RX1 15 "BlushBank$Ledger" "hand" "[I", .methodLink RX1 60 Lib.Math.min.name, .static Lib.Math.min.name, .initialized "java/lang/Math", .code Lib.Math.min.name Lib.Math.min.code 2 (some .int)] ++ wsX10)
def wsX1_whoHasNothingThere : List Cond := .code yX1_whoHasNothingThere cX1_whoHasNothingThere 3 (some .int) :: ([.fieldLink RX1 34 "BlushBank$Ledger" "people" "I", .fieldLink RX1 18 "BlushBank$Ledger" "bank" "[I"] ++ wsX10)
def wsX1_sumInHand : List Cond := .code yX1_sumInHand cX1_sumInHand 3 (some .int) :: ([.fieldLink RX1 34 "BlushBank$Ledger" "people" "I", .fieldLink RX1 15 "BlushBank$Ledger" "hand" "[I"] ++ wsX10)
def wsX1_sumAtBank : List Cond := .code yX1_sumAtBank cX1_sumAtBank 3 (some .int) :: ([.fieldLink RX1 34 "BlushBank$Ledger" "people" "I", .fieldLink RX1 18 "BlushBank$Ledger" "bank" "[I"] ++ wsX10)
def wsX2_append : List Cond := .code yX2_append cX2_append 4 (some .int) :: ([.fieldLink RX2 21 "BlushBank$Notes" "many" "I", .fieldLink RX2 9 "BlushBank$Notes" "who" "[I", .fieldLink RX2 15 "BlushBank$Notes" "when" "[I", .fieldLink RX2 18 "BlushBank$Notes" "was" "[I"] ++ wsX20)
def wsX2_agree : List Cond := .code yX2_agree cX2_agree 4 (some .boolean) :: ([.fieldLink RX2 21 "BlushBank$Notes" "many" "I", .fieldLink RX2 15 "BlushBank$Notes" "when" "[I", .fieldLink RX2 9 "BlushBank$Notes" "who" "[I", .fieldLink RX2 18 "BlushBank$Notes" "was" "[I"] ++ wsX20)
def wsX2_copyFrom : List Cond := .code yX2_copyFrom cX2_copyFrom 2 none :: ([.fieldLink RX2 21 "BlushBank$Notes" "many" "I", .fieldLink RX2 9 "BlushBank$Notes" "who" "[I", .methodLink RX2 25 arraycopyName, .native arraycopyName, .static arraycopyName, .initialized "java/lang/System", .fieldLink RX2 15 "BlushBank$Notes" "when" "[I", .fieldLink RX2 18 "BlushBank$Notes" "was" "[I"] ++ wsX20)
def wsX5_init : List Cond := .code yX5_init cX5_init 1 none :: ([.methodLink RX5 3 objectInit, .instanceMethod objectInit, .code objectInit ⟨#[0xb1]⟩ 1 none, .arrayClass .int, .fieldLink RX5 9 "BlushBank$Story" "tripOne" "[I", .fieldLink RX5 15 "BlushBank$Story" "tripWeek" "[I", .fieldLink RX5 18 "BlushBank$Story" "tripSize" "[I", .fieldLink RX5 21 "BlushBank$Story" "askedOne" "[I", .fieldLink RX5 24 "BlushBank$Story" "askedWeek" "[I", .fieldLink RX5 27 "BlushBank$Story" "askedFor" "[I"] ++ wsX50)
def wsX3_init_r1 : List Cond := [Cond.methodLink RX3 3 objectInit, Cond.instanceMethod objectInit, Cond.code objectInit ⟨#[0xb1]⟩ 1 none, Cond.classLink RX3 9 RX5, Cond.instantiable RX5 8, Cond.initialized RX5, Cond.fieldLink RX3 12 "BlushBank$Scribe" "story" "LBlushBank$Story;", Cond.classLink RX3 18 RX1, Cond.instantiable RX1 11, Cond.initialized RX1, Cond.fieldLink RX3 21 "BlushBank$Scribe" "ledger" "LBlushBank$Ledger;", Cond.arrayClass .byte, Cond.fieldLink RX3 25 "BlushBank$Scribe" "tape" "[B", Cond.arrayClass .int, Cond.fieldLink RX3 29 "BlushBank$Scribe" "numbers" "[I", Cond.instanceMethod yX5_init, Cond.code yX5_init cX5_init 1 none, Cond.methodLink RX5 3 objectInit, Cond.fieldLink RX5 9 "BlushBank$Story" "tripOne" "[I", Cond.fieldLink RX5 15 "BlushBank$Story" "tripWeek" "[I", Cond.fieldLink RX5 18 "BlushBank$Story" "tripSize" "[I", Cond.fieldLink RX5 21 "BlushBank$Story" "askedOne" "[I", Cond.fieldLink RX5 24 "BlushBank$Story" "askedWeek" "[I", Cond.fieldLink RX5 27 "BlushBank$Story" "askedFor" "[I"]
def wsX3_init_r2 : List Cond := [Cond.instanceMethod yX1_init, Cond.code yX1_init cX1_init 1 none, Cond.methodLink RX1 3 objectInit, Cond.fieldLink RX1 9 "BlushBank$Ledger" "kind" "[I", Cond.fieldLink RX1 15 "BlushBank$Ledger" "hand" "[I", Cond.fieldLink RX1 18 "BlushBank$Ledger" "bank" "[I", Cond.fieldLink RX1 21 "BlushBank$Ledger" "brazen" "[I", Cond.fieldLink RX1 24 "BlushBank$Ledger" "seen" "[I", Cond.fieldLink RX1 27 "BlushBank$Ledger" "interest" "I", Cond.fieldLink RX1 31 "BlushBank$Ledger" "cover" "I"]
def wsX3_init : List Cond := .code yX3_init cX3_init 1 none :: ((wsX3_init_r1 ++ wsX3_init_r2) ++ wsX50 ++ wsX30 ++ wsX10)
def wsX3_append : List Cond := .code yX3_append cX3_append 2 (some .int) :: ([.fieldLink RX3 33 "BlushBank$Scribe" "length" "I", .fieldLink RX3 25 "BlushBank$Scribe" "tape" "[B"] ++ wsX30)
def wsX3_begin : List Cond := .code yX3_begin cX3_begin 1 none :: ([.fieldLink RX3 12 "BlushBank$Scribe" "story" "LBlushBank$Story;", .fieldLink RX3 62 "BlushBank$Story" "incidents" "I", .fieldLink RX3 65 "BlushBank$Story" "occasions" "I", .fieldLink RX3 21 "BlushBank$Scribe" "ledger" "LBlushBank$Ledger;", .fieldLink RX3 52 "BlushBank$Ledger" "people" "I", .fieldLink RX3 68 "BlushBank$Ledger" "interest" "I", .fieldLink RX3 71 "BlushBank$Ledger" "cover" "I", .fieldLink RX3 43 "BlushBank$Scribe" "fault" "I", .fieldLink RX3 74 "BlushBank$Scribe" "next" "I", .fieldLink RX3 77 "BlushBank$Scribe" "hasInterest" "Z", .fieldLink RX3 81 "BlushBank$Scribe" "hasCover" "Z"] ++ wsX30 ++ wsX50 ++ wsX10)
def wsX3_isLetter : List Cond := .code yX3_isLetter cX3_isLetter 2 (some .boolean) :: ([.fieldLink RX3 25 "BlushBank$Scribe" "tape" "[B"] ++ wsX30)
def wsX3_isFigure : List Cond := .code yX3_isFigure cX3_isFigure 2 (some .boolean) :: ([.fieldLink RX3 25 "BlushBank$Scribe" "tape" "[B"] ++ wsX30)
def wsX3_refuse : List Cond := .code yX3_refuse cX3_refuse 2 none :: ([.fieldLink RX3 43 "BlushBank$Scribe" "fault" "I", .fieldLink RX3 84 "BlushBank$Scribe" "start" "I", .fieldLink RX3 59 "BlushBank$Scribe" "faultPlace" "I"] ++ wsX30)
def wsX3_nextToken : List Cond := .code yX3_nextToken cX3_nextToken 1 none :: ([.fieldLink RX3 74 "BlushBank$Scribe" "next" "I", .fieldLink RX3 33 "BlushBank$Scribe" "length" "I", .fieldLink RX3 25 "BlushBank$Scribe" "tape" "[B", .fieldLink RX3 84 "BlushBank$Scribe" "start" "I", .fieldLink RX3 46 "BlushBank$Scribe" "token" "I", .methodLink RX3 87 yX3_isLetter, .instanceMethod yX3_isLetter, .selects RX3 yX3_isLetter yX3_isLetter, .initialized RX3, .code yX3_isLetter cX3_isLetter 2 (some .boolean), .methodLink RX3 90 yX3_isFigure, .instanceMethod yX3_isFigure, .selects RX3 yX3_isFigure yX3_isFigure, .code yX3_isFigure cX3_isFigure 2 (some .boolean), .methodLink RX3 93 yX3_refuse, .instanceMethod yX3_refuse, .selects RX3 yX3_refuse yX3_refuse, .code yX3_refuse cX3_refuse 2 none, .fieldLink RX3 43 "BlushBank$Scribe" "fault" "I", .fieldLink RX3 59 "BlushBank$Scribe" "faultPlace" "I"] ++ wsX30)
def wsJ0_coder_7d493 : List Cond := .code yJ0_coder_7d493 cJ0_coder_7d493 1 (some .byte) :: ([.fieldLink RJ0 38 "java/lang/String" "COMPACT_STRINGS" "Z", .fieldLink RJ0 15 "java/lang/String" "coder" "B"])
def wsJ0_length_8abf5 : List Cond := .code yJ0_length_8abf5 cJ0_length_8abf5 1 (some .int) :: ([.fieldLink RJ0 9 "java/lang/String" "value" "[B", .methodLink RJ0 335 yJ0_coder_7d493, .instanceMethod yJ0_coder_7d493, .selects RJ0 yJ0_coder_7d493 yJ0_coder_7d493, .initialized RJ0, .code yJ0_coder_7d493 cJ0_coder_7d493 1 (some .byte), .fieldLink RJ0 38 "java/lang/String" "COMPACT_STRINGS" "Z", .fieldLink RJ0 15 "java/lang/String" "coder" "B"])
def wsJ0_isLatin1_aae02 : List Cond := .code yJ0_isLatin1_aae02 cJ0_isLatin1_aae02 1 (some .boolean) :: ([.fieldLink RJ0 38 "java/lang/String" "COMPACT_STRINGS" "Z", .fieldLink RJ0 15 "java/lang/String" "coder" "B"])
def wsJ3_checkIndex_8e157 : List Cond := .code yJ3_checkIndex_8e157 cJ3_checkIndex_8e157 3 (some .int) :: ([])
def wsJ0_checkIndex_df160 : List Cond := .code yJ0_checkIndex_df160 cJ0_checkIndex_df160 2 none :: ([.fieldLink RJ0 1053 "jdk/internal/util/Preconditions" "SIOOBE_FORMATTER" "Ljava/util/function/BiFunction;", .methodLink RJ0 1059 yJ3_checkIndex_8e157, .static yJ3_checkIndex_8e157, .initialized RJ3, .code yJ3_checkIndex_8e157 cJ3_checkIndex_8e157 3 (some .int)])
def wsJ1_charAt_3b067 : List Cond := .code yJ1_charAt_3b067 cJ1_charAt_3b067 2 (some .char) :: ([.methodLink RJ1 9 yJ0_checkIndex_df160, .static yJ0_checkIndex_df160, .initialized RJ0, .code yJ0_checkIndex_df160 cJ0_checkIndex_df160 2 none, .fieldLink RJ0 1053 "jdk/internal/util/Preconditions" "SIOOBE_FORMATTER" "Ljava/util/function/BiFunction;", .methodLink RJ0 1059 yJ3_checkIndex_8e157, .static yJ3_checkIndex_8e157, .initialized RJ3, .code yJ3_checkIndex_8e157 cJ3_checkIndex_8e157 3 (some .int)])
def wsJ2_length_9d52b : List Cond := .code yJ2_length_9d52b cJ2_length_9d52b 1 (some .int) :: ([])
def wsJ2_checkIndex_2214a : List Cond := .code yJ2_checkIndex_2214a cJ2_checkIndex_2214a 2 none :: ([.methodLink RJ2 48 yJ2_length_9d52b, .static yJ2_length_9d52b, .initialized RJ2, .code yJ2_length_9d52b cJ2_length_9d52b 1 (some .int), .methodLink RJ2 414 yJ0_checkIndex_df160, .static yJ0_checkIndex_df160, .initialized RJ0, .code yJ0_checkIndex_df160 cJ0_checkIndex_df160 2 none, .fieldLink RJ0 1053 "jdk/internal/util/Preconditions" "SIOOBE_FORMATTER" "Ljava/util/function/BiFunction;", .methodLink RJ0 1059 yJ3_checkIndex_8e157, .static yJ3_checkIndex_8e157, .initialized RJ3, .code yJ3_checkIndex_8e157 cJ3_checkIndex_8e157 3 (some .int)])
def wsJ2_getChar_3b067 : List Cond := .code yJ2_getChar_3b067 cJ2_getChar_3b067 2 (some .char) :: ([.fieldLink RJ2 44 "java/lang/StringUTF16" "$assertionsDisabled" "Z", .fieldLink RJ2 59 "java/lang/StringUTF16" "HI_BYTE_SHIFT" "I", .fieldLink RJ2 63 "java/lang/StringUTF16" "LO_BYTE_SHIFT" "I", .methodLink RJ2 48 yJ2_length_9d52b, .static yJ2_length_9d52b, .initialized RJ2, .code yJ2_length_9d52b cJ2_length_9d52b 1 (some .int)])
def wsJ2_charAt_3b067 : List Cond := .code yJ2_charAt_3b067 cJ2_charAt_3b067 2 (some .char) :: ([.methodLink RJ2 67 yJ2_checkIndex_2214a, .static yJ2_checkIndex_2214a, .initialized RJ2, .code yJ2_checkIndex_2214a cJ2_checkIndex_2214a 2 none, .methodLink RJ2 48 yJ2_length_9d52b, .static yJ2_length_9d52b, .code yJ2_length_9d52b cJ2_length_9d52b 1 (some .int), .methodLink RJ2 414 yJ0_checkIndex_df160, .static yJ0_checkIndex_df160, .initialized RJ0, .code yJ0_checkIndex_df160 cJ0_checkIndex_df160 2 none, .fieldLink RJ0 1053 "jdk/internal/util/Preconditions" "SIOOBE_FORMATTER" "Ljava/util/function/BiFunction;", .methodLink RJ0 1059 yJ3_checkIndex_8e157, .static yJ3_checkIndex_8e157, .initialized RJ3, .code yJ3_checkIndex_8e157 cJ3_checkIndex_8e157 3 (some .int), .methodLink RJ2 71 yJ2_getChar_3b067, .static yJ2_getChar_3b067, .code yJ2_getChar_3b067 cJ2_getChar_3b067 2 (some .char), .fieldLink RJ2 44 "java/lang/StringUTF16" "$assertionsDisabled" "Z", .fieldLink RJ2 59 "java/lang/StringUTF16" "HI_BYTE_SHIFT" "I", .fieldLink RJ2 63 "java/lang/StringUTF16" "LO_BYTE_SHIFT" "I"])
def wsJ0_charAt_5068e_r1 : List Cond := [Cond.fieldLink RJ0 9 "java/lang/String" "value" "[B", Cond.methodLink RJ0 492 yJ0_isLatin1_aae02, Cond.instanceMethod yJ0_isLatin1_aae02, Cond.selects RJ0 yJ0_isLatin1_aae02 yJ0_isLatin1_aae02, Cond.initialized RJ0, Cond.code yJ0_isLatin1_aae02 cJ0_isLatin1_aae02 1 (some .boolean), Cond.fieldLink RJ0 38 "java/lang/String" "COMPACT_STRINGS" "Z", Cond.fieldLink RJ0 15 "java/lang/String" "coder" "B", Cond.methodLink RJ0 495 yJ1_charAt_3b067, Cond.static yJ1_charAt_3b067, Cond.initialized RJ1, Cond.code yJ1_charAt_3b067 cJ1_charAt_3b067 2 (some .char), Cond.methodLink RJ1 9 yJ0_checkIndex_df160, Cond.static yJ0_checkIndex_df160, Cond.code yJ0_checkIndex_df160 cJ0_checkIndex_df160 2 none, Cond.fieldLink RJ0 1053 "jdk/internal/util/Preconditions" "SIOOBE_FORMATTER" "Ljava/util/function/BiFunction;", Cond.methodLink RJ0 1059 yJ3_checkIndex_8e157, Cond.static yJ3_checkIndex_8e157, Cond.initialized RJ3, Cond.code yJ3_checkIndex_8e157 cJ3_checkIndex_8e157 3 (some .int), Cond.methodLink RJ0 498 yJ2_charAt_3b067, Cond.static yJ2_charAt_3b067, Cond.initialized RJ2, Cond.code yJ2_charAt_3b067 cJ2_charAt_3b067 2 (some .char)]
def wsJ0_charAt_5068e_r2 : List Cond := [Cond.methodLink RJ2 67 yJ2_checkIndex_2214a, Cond.static yJ2_checkIndex_2214a, Cond.code yJ2_checkIndex_2214a cJ2_checkIndex_2214a 2 none, Cond.methodLink RJ2 48 yJ2_length_9d52b, Cond.static yJ2_length_9d52b, Cond.code yJ2_length_9d52b cJ2_length_9d52b 1 (some .int), Cond.methodLink RJ2 414 yJ0_checkIndex_df160, Cond.methodLink RJ2 71 yJ2_getChar_3b067, Cond.static yJ2_getChar_3b067, Cond.code yJ2_getChar_3b067 cJ2_getChar_3b067 2 (some .char), Cond.fieldLink RJ2 44 "java/lang/StringUTF16" "$assertionsDisabled" "Z", Cond.fieldLink RJ2 59 "java/lang/StringUTF16" "HI_BYTE_SHIFT" "I", Cond.fieldLink RJ2 63 "java/lang/StringUTF16" "LO_BYTE_SHIFT" "I"]
def wsJ0_charAt_5068e : List Cond := .code yJ0_charAt_5068e cJ0_charAt_5068e 2 (some .char) :: ((wsJ0_charAt_5068e_r1 ++ wsJ0_charAt_5068e_r2))
def wsX3_isWord_r1 : List Cond := [Cond.fieldLink RX3 74 "BlushBank$Scribe" "next" "I", Cond.fieldLink RX3 84 "BlushBank$Scribe" "start" "I", Cond.fieldLink RX3 25 "BlushBank$Scribe" "tape" "[B", Cond.methodLink RX3 138 yJ0_length_8abf5, Cond.instanceMethod yJ0_length_8abf5, Cond.selects RJ0 yJ0_length_8abf5 yJ0_length_8abf5, Cond.initialized RJ0, Cond.code yJ0_length_8abf5 cJ0_length_8abf5 1 (some .int), Cond.fieldLink RJ0 9 "java/lang/String" "value" "[B", Cond.methodLink RJ0 335 yJ0_coder_7d493, Cond.instanceMethod yJ0_coder_7d493, Cond.selects RJ0 yJ0_coder_7d493 yJ0_coder_7d493, Cond.code yJ0_coder_7d493 cJ0_coder_7d493 1 (some .byte), Cond.fieldLink RJ0 38 "java/lang/String" "COMPACT_STRINGS" "Z", Cond.fieldLink RJ0 15 "java/lang/String" "coder" "B", Cond.methodLink RX3 142 yJ0_charAt_5068e, Cond.instanceMethod yJ0_charAt_5068e, Cond.selects RJ0 yJ0_charAt_5068e yJ0_charAt_5068e, Cond.code yJ0_charAt_5068e cJ0_charAt_5068e 2 (some .char), Cond.methodLink RJ0 492 yJ0_isLatin1_aae02, Cond.instanceMethod yJ0_isLatin1_aae02, Cond.selects RJ0 yJ0_isLatin1_aae02 yJ0_isLatin1_aae02, Cond.code yJ0_isLatin1_aae02 cJ0_isLatin1_aae02 1 (some .boolean), Cond.methodLink RJ0 495 yJ1_charAt_3b067]
def wsX3_isWord_r2 : List Cond := [Cond.static yJ1_charAt_3b067, Cond.initialized RJ1, Cond.code yJ1_charAt_3b067 cJ1_charAt_3b067 2 (some .char), Cond.methodLink RJ1 9 yJ0_checkIndex_df160, Cond.static yJ0_checkIndex_df160, Cond.code yJ0_checkIndex_df160 cJ0_checkIndex_df160 2 none, Cond.fieldLink RJ0 1053 "jdk/internal/util/Preconditions" "SIOOBE_FORMATTER" "Ljava/util/function/BiFunction;", Cond.methodLink RJ0 1059 yJ3_checkIndex_8e157, Cond.static yJ3_checkIndex_8e157, Cond.initialized RJ3, Cond.code yJ3_checkIndex_8e157 cJ3_checkIndex_8e157 3 (some .int), Cond.methodLink RJ0 498 yJ2_charAt_3b067, Cond.static yJ2_charAt_3b067, Cond.initialized RJ2, Cond.code yJ2_charAt_3b067 cJ2_charAt_3b067 2 (some .char), Cond.methodLink RJ2 67 yJ2_checkIndex_2214a, Cond.static yJ2_checkIndex_2214a, Cond.code yJ2_checkIndex_2214a cJ2_checkIndex_2214a 2 none, Cond.methodLink RJ2 48 yJ2_length_9d52b, Cond.static yJ2_length_9d52b, Cond.code yJ2_length_9d52b cJ2_length_9d52b 1 (some .int), Cond.methodLink RJ2 414 yJ0_checkIndex_df160, Cond.methodLink RJ2 71 yJ2_getChar_3b067, Cond.static yJ2_getChar_3b067]
def wsX3_isWord_r3 : List Cond := [Cond.code yJ2_getChar_3b067 cJ2_getChar_3b067 2 (some .char), Cond.fieldLink RJ2 44 "java/lang/StringUTF16" "$assertionsDisabled" "Z", Cond.fieldLink RJ2 59 "java/lang/StringUTF16" "HI_BYTE_SHIFT" "I", Cond.fieldLink RJ2 63 "java/lang/StringUTF16" "LO_BYTE_SHIFT" "I"]
def wsX3_isWord : List Cond := .code yX3_isWord cX3_isWord 3 (some .boolean) :: ((wsX3_isWord_r1 ++ (wsX3_isWord_r2 ++ wsX3_isWord_r3)) ++ wsX30)
def wsX3_wordRead_r1 : List Cond := [Cond.methodLink RX3 122 yX3_isWord, Cond.instanceMethod yX3_isWord, Cond.selects RX3 yX3_isWord yX3_isWord, Cond.initialized RX3, Cond.code yX3_isWord cX3_isWord 3 (some .boolean), Cond.fieldLink RX3 74 "BlushBank$Scribe" "next" "I", Cond.fieldLink RX3 84 "BlushBank$Scribe" "start" "I", Cond.fieldLink RX3 25 "BlushBank$Scribe" "tape" "[B", Cond.methodLink RX3 138 yJ0_length_8abf5, Cond.instanceMethod yJ0_length_8abf5, Cond.selects RJ0 yJ0_length_8abf5 yJ0_length_8abf5, Cond.initialized RJ0, Cond.code yJ0_length_8abf5 cJ0_length_8abf5 1 (some .int), Cond.fieldLink RJ0 9 "java/lang/String" "value" "[B", Cond.methodLink RJ0 335 yJ0_coder_7d493, Cond.instanceMethod yJ0_coder_7d493, Cond.selects RJ0 yJ0_coder_7d493 yJ0_coder_7d493, Cond.code yJ0_coder_7d493 cJ0_coder_7d493 1 (some .byte), Cond.fieldLink RJ0 38 "java/lang/String" "COMPACT_STRINGS" "Z", Cond.fieldLink RJ0 15 "java/lang/String" "coder" "B", Cond.methodLink RX3 142 yJ0_charAt_5068e, Cond.instanceMethod yJ0_charAt_5068e, Cond.selects RJ0 yJ0_charAt_5068e yJ0_charAt_5068e, Cond.code yJ0_charAt_5068e cJ0_charAt_5068e 2 (some .char)]
def wsX3_wordRead_r2 : List Cond := [Cond.methodLink RJ0 492 yJ0_isLatin1_aae02, Cond.instanceMethod yJ0_isLatin1_aae02, Cond.selects RJ0 yJ0_isLatin1_aae02 yJ0_isLatin1_aae02, Cond.code yJ0_isLatin1_aae02 cJ0_isLatin1_aae02 1 (some .boolean), Cond.methodLink RJ0 495 yJ1_charAt_3b067, Cond.static yJ1_charAt_3b067, Cond.initialized RJ1, Cond.code yJ1_charAt_3b067 cJ1_charAt_3b067 2 (some .char), Cond.methodLink RJ1 9 yJ0_checkIndex_df160, Cond.static yJ0_checkIndex_df160, Cond.code yJ0_checkIndex_df160 cJ0_checkIndex_df160 2 none, Cond.fieldLink RJ0 1053 "jdk/internal/util/Preconditions" "SIOOBE_FORMATTER" "Ljava/util/function/BiFunction;", Cond.methodLink RJ0 1059 yJ3_checkIndex_8e157, Cond.static yJ3_checkIndex_8e157, Cond.initialized RJ3, Cond.code yJ3_checkIndex_8e157 cJ3_checkIndex_8e157 3 (some .int), Cond.methodLink RJ0 498 yJ2_charAt_3b067, Cond.static yJ2_charAt_3b067, Cond.initialized RJ2, Cond.code yJ2_charAt_3b067 cJ2_charAt_3b067 2 (some .char), Cond.methodLink RJ2 67 yJ2_checkIndex_2214a, Cond.static yJ2_checkIndex_2214a, Cond.code yJ2_checkIndex_2214a cJ2_checkIndex_2214a 2 none, Cond.methodLink RJ2 48 yJ2_length_9d52b]
def wsX3_wordRead_r3 : List Cond := [Cond.static yJ2_length_9d52b, Cond.code yJ2_length_9d52b cJ2_length_9d52b 1 (some .int), Cond.methodLink RJ2 414 yJ0_checkIndex_df160, Cond.methodLink RJ2 71 yJ2_getChar_3b067, Cond.static yJ2_getChar_3b067, Cond.code yJ2_getChar_3b067 cJ2_getChar_3b067 2 (some .char), Cond.fieldLink RJ2 44 "java/lang/StringUTF16" "$assertionsDisabled" "Z", Cond.fieldLink RJ2 59 "java/lang/StringUTF16" "HI_BYTE_SHIFT" "I", Cond.fieldLink RJ2 63 "java/lang/StringUTF16" "LO_BYTE_SHIFT" "I"]
def wsX3_wordRead : List Cond := .code yX3_wordRead cX3_wordRead 1 (some .int) :: ((wsX3_wordRead_r1 ++ (wsX3_wordRead_r2 ++ wsX3_wordRead_r3)) ++ wsX30)
def wsX3_faultOfWord : List Cond := .code yX3_faultOfWord cX3_faultOfWord 2 (some .int) :: ([.fieldLink RX3 77 "BlushBank$Scribe" "hasInterest" "Z", .fieldLink RX3 81 "BlushBank$Scribe" "hasCover" "Z", .fieldLink RX3 12 "BlushBank$Scribe" "story" "LBlushBank$Story;", .fieldLink RX3 62 "BlushBank$Story" "incidents" "I", .fieldLink RX3 65 "BlushBank$Story" "occasions" "I", .fieldLink RX3 21 "BlushBank$Scribe" "ledger" "LBlushBank$Ledger;", .fieldLink RX3 52 "BlushBank$Ledger" "people" "I"] ++ wsX30 ++ wsX50 ++ wsX10)
def wsX3_expect : List Cond := .code yX3_expect cX3_expect 2 none :: ([.fieldLink RX3 43 "BlushBank$Scribe" "fault" "I", .fieldLink RX3 46 "BlushBank$Scribe" "token" "I", .methodLink RX3 40 yX3_nextToken, .instanceMethod yX3_nextToken, .selects RX3 yX3_nextToken yX3_nextToken, .initialized RX3, .code yX3_nextToken cX3_nextToken 1 none, .fieldLink RX3 74 "BlushBank$Scribe" "next" "I", .fieldLink RX3 33 "BlushBank$Scribe" "length" "I", .fieldLink RX3 25 "BlushBank$Scribe" "tape" "[B", .fieldLink RX3 84 "BlushBank$Scribe" "start" "I", .methodLink RX3 87 yX3_isLetter, .instanceMethod yX3_isLetter, .selects RX3 yX3_isLetter yX3_isLetter, .code yX3_isLetter cX3_isLetter 2 (some .boolean), .methodLink RX3 90 yX3_isFigure, .instanceMethod yX3_isFigure, .selects RX3 yX3_isFigure yX3_isFigure, .code yX3_isFigure cX3_isFigure 2 (some .boolean), .methodLink RX3 93 yX3_refuse, .instanceMethod yX3_refuse, .selects RX3 yX3_refuse yX3_refuse, .code yX3_refuse cX3_refuse 2 none, .fieldLink RX3 59 "BlushBank$Scribe" "faultPlace" "I"] ++ wsX30)
def wsX3_readNumber_r1 : List Cond := [Cond.fieldLink RX3 43 "BlushBank$Scribe" "fault" "I", Cond.fieldLink RX3 84 "BlushBank$Scribe" "start" "I", Cond.fieldLink RX3 74 "BlushBank$Scribe" "next" "I", Cond.fieldLink RX3 25 "BlushBank$Scribe" "tape" "[B", Cond.methodLink RX3 114 yX3_expect, Cond.instanceMethod yX3_expect, Cond.selects RX3 yX3_expect yX3_expect, Cond.initialized RX3, Cond.code yX3_expect cX3_expect 2 none, Cond.fieldLink RX3 46 "BlushBank$Scribe" "token" "I", Cond.methodLink RX3 40 yX3_nextToken, Cond.instanceMethod yX3_nextToken, Cond.selects RX3 yX3_nextToken yX3_nextToken, Cond.code yX3_nextToken cX3_nextToken 1 none, Cond.fieldLink RX3 33 "BlushBank$Scribe" "length" "I", Cond.methodLink RX3 87 yX3_isLetter, Cond.instanceMethod yX3_isLetter, Cond.selects RX3 yX3_isLetter yX3_isLetter, Cond.code yX3_isLetter cX3_isLetter 2 (some .boolean), Cond.methodLink RX3 90 yX3_isFigure, Cond.instanceMethod yX3_isFigure, Cond.selects RX3 yX3_isFigure yX3_isFigure, Cond.code yX3_isFigure cX3_isFigure 2 (some .boolean), Cond.methodLink RX3 93 yX3_refuse]
def wsX3_readNumber_r2 : List Cond := [Cond.instanceMethod yX3_refuse, Cond.selects RX3 yX3_refuse yX3_refuse, Cond.code yX3_refuse cX3_refuse 2 none, Cond.fieldLink RX3 59 "BlushBank$Scribe" "faultPlace" "I"]
def wsX3_readNumber : List Cond := .code yX3_readNumber cX3_readNumber 4 (some .int) :: ((wsX3_readNumber_r1 ++ wsX3_readNumber_r2) ++ wsX30)
def wsX3_tellTrip : List Cond := .code yX3_tellTrip cX3_tellTrip 2 none :: ([.fieldLink RX3 12 "BlushBank$Scribe" "story" "LBlushBank$Story;", .fieldLink RX3 62 "BlushBank$Story" "incidents" "I", .fieldLink RX3 158 "BlushBank$Story" "tripOne" "[I", .fieldLink RX3 29 "BlushBank$Scribe" "numbers" "[I", .fieldLink RX3 161 "BlushBank$Story" "tripWeek" "[I", .fieldLink RX3 164 "BlushBank$Story" "tripSize" "[I", .fieldLink RX3 21 "BlushBank$Scribe" "ledger" "LBlushBank$Ledger;", .fieldLink RX3 167 "BlushBank$Ledger" "seen" "[I"] ++ wsX30 ++ wsX50 ++ wsX10)
def wsX3_tellAsked : List Cond := .code yX3_tellAsked cX3_tellAsked 2 none :: ([.fieldLink RX3 12 "BlushBank$Scribe" "story" "LBlushBank$Story;", .fieldLink RX3 65 "BlushBank$Story" "occasions" "I", .fieldLink RX3 170 "BlushBank$Story" "askedOne" "[I", .fieldLink RX3 29 "BlushBank$Scribe" "numbers" "[I", .fieldLink RX3 173 "BlushBank$Story" "askedWeek" "[I", .fieldLink RX3 176 "BlushBank$Story" "askedFor" "[I"] ++ wsX30 ++ wsX50)
def wsX3_tell_r1 : List Cond := [Cond.fieldLink RX3 21 "BlushBank$Scribe" "ledger" "LBlushBank$Ledger;", Cond.fieldLink RX3 29 "BlushBank$Scribe" "numbers" "[I", Cond.fieldLink RX3 68 "BlushBank$Ledger" "interest" "I", Cond.fieldLink RX3 77 "BlushBank$Scribe" "hasInterest" "Z", Cond.fieldLink RX3 71 "BlushBank$Ledger" "cover" "I", Cond.fieldLink RX3 81 "BlushBank$Scribe" "hasCover" "Z", Cond.fieldLink RX3 152 "BlushBank$Ledger" "kind" "[I", Cond.fieldLink RX3 52 "BlushBank$Ledger" "people" "I", Cond.fieldLink RX3 155 "BlushBank$Ledger" "hand" "[I", Cond.methodLink RX3 146 yX3_tellTrip, Cond.instanceMethod yX3_tellTrip, Cond.selects RX3 yX3_tellTrip yX3_tellTrip, Cond.initialized RX3, Cond.code yX3_tellTrip cX3_tellTrip 2 none, Cond.fieldLink RX3 12 "BlushBank$Scribe" "story" "LBlushBank$Story;", Cond.fieldLink RX3 62 "BlushBank$Story" "incidents" "I", Cond.fieldLink RX3 158 "BlushBank$Story" "tripOne" "[I", Cond.fieldLink RX3 161 "BlushBank$Story" "tripWeek" "[I", Cond.fieldLink RX3 164 "BlushBank$Story" "tripSize" "[I", Cond.fieldLink RX3 167 "BlushBank$Ledger" "seen" "[I", Cond.methodLink RX3 149 yX3_tellAsked, Cond.instanceMethod yX3_tellAsked, Cond.selects RX3 yX3_tellAsked yX3_tellAsked, Cond.code yX3_tellAsked cX3_tellAsked 2 none]
def wsX3_tell_r2 : List Cond := [Cond.fieldLink RX3 65 "BlushBank$Story" "occasions" "I", Cond.fieldLink RX3 170 "BlushBank$Story" "askedOne" "[I", Cond.fieldLink RX3 173 "BlushBank$Story" "askedWeek" "[I", Cond.fieldLink RX3 176 "BlushBank$Story" "askedFor" "[I"]
def wsX3_tell : List Cond := .code yX3_tell cX3_tell 2 none :: ((wsX3_tell_r1 ++ wsX3_tell_r2) ++ wsX30 ++ wsX10 ++ wsX50)
def wsX3_readLine_r1 : List Cond := [Cond.fieldLink RX3 46 "BlushBank$Scribe" "token" "I", Cond.fieldLink RX3 105 "BlushBank$Scribe" "NUMBERS_OF" "[I", Cond.fieldLink RX3 43 "BlushBank$Scribe" "fault" "I", Cond.fieldLink RX3 29 "BlushBank$Scribe" "numbers" "[I", Cond.fieldLink RX3 108 "BlushBank$Scribe" "BOUNDS" "[I", Cond.methodLink RX3 97 yX3_wordRead, Cond.instanceMethod yX3_wordRead, Cond.selects RX3 yX3_wordRead yX3_wordRead, Cond.initialized RX3, Cond.code yX3_wordRead cX3_wordRead 1 (some .int), Cond.methodLink RX3 122 yX3_isWord, Cond.instanceMethod yX3_isWord, Cond.selects RX3 yX3_isWord yX3_isWord, Cond.code yX3_isWord cX3_isWord 3 (some .boolean), Cond.fieldLink RX3 74 "BlushBank$Scribe" "next" "I", Cond.fieldLink RX3 84 "BlushBank$Scribe" "start" "I", Cond.fieldLink RX3 25 "BlushBank$Scribe" "tape" "[B", Cond.methodLink RX3 138 yJ0_length_8abf5, Cond.instanceMethod yJ0_length_8abf5, Cond.selects RJ0 yJ0_length_8abf5 yJ0_length_8abf5, Cond.initialized RJ0, Cond.code yJ0_length_8abf5 cJ0_length_8abf5 1 (some .int), Cond.fieldLink RJ0 9 "java/lang/String" "value" "[B", Cond.methodLink RJ0 335 yJ0_coder_7d493]
def wsX3_readLine_r2 : List Cond := [Cond.instanceMethod yJ0_coder_7d493, Cond.selects RJ0 yJ0_coder_7d493 yJ0_coder_7d493, Cond.code yJ0_coder_7d493 cJ0_coder_7d493 1 (some .byte), Cond.fieldLink RJ0 38 "java/lang/String" "COMPACT_STRINGS" "Z", Cond.fieldLink RJ0 15 "java/lang/String" "coder" "B", Cond.methodLink RX3 142 yJ0_charAt_5068e, Cond.instanceMethod yJ0_charAt_5068e, Cond.selects RJ0 yJ0_charAt_5068e yJ0_charAt_5068e, Cond.code yJ0_charAt_5068e cJ0_charAt_5068e 2 (some .char), Cond.methodLink RJ0 492 yJ0_isLatin1_aae02, Cond.instanceMethod yJ0_isLatin1_aae02, Cond.selects RJ0 yJ0_isLatin1_aae02 yJ0_isLatin1_aae02, Cond.code yJ0_isLatin1_aae02 cJ0_isLatin1_aae02 1 (some .boolean), Cond.methodLink RJ0 495 yJ1_charAt_3b067, Cond.static yJ1_charAt_3b067, Cond.initialized RJ1, Cond.code yJ1_charAt_3b067 cJ1_charAt_3b067 2 (some .char), Cond.methodLink RJ1 9 yJ0_checkIndex_df160, Cond.static yJ0_checkIndex_df160, Cond.code yJ0_checkIndex_df160 cJ0_checkIndex_df160 2 none, Cond.fieldLink RJ0 1053 "jdk/internal/util/Preconditions" "SIOOBE_FORMATTER" "Ljava/util/function/BiFunction;", Cond.methodLink RJ0 1059 yJ3_checkIndex_8e157, Cond.static yJ3_checkIndex_8e157, Cond.initialized RJ3]
def wsX3_readLine_r3 : List Cond := [Cond.code yJ3_checkIndex_8e157 cJ3_checkIndex_8e157 3 (some .int), Cond.methodLink RJ0 498 yJ2_charAt_3b067, Cond.static yJ2_charAt_3b067, Cond.initialized RJ2, Cond.code yJ2_charAt_3b067 cJ2_charAt_3b067 2 (some .char), Cond.methodLink RJ2 67 yJ2_checkIndex_2214a, Cond.static yJ2_checkIndex_2214a, Cond.code yJ2_checkIndex_2214a cJ2_checkIndex_2214a 2 none, Cond.methodLink RJ2 48 yJ2_length_9d52b, Cond.static yJ2_length_9d52b, Cond.code yJ2_length_9d52b cJ2_length_9d52b 1 (some .int), Cond.methodLink RJ2 414 yJ0_checkIndex_df160, Cond.methodLink RJ2 71 yJ2_getChar_3b067, Cond.static yJ2_getChar_3b067, Cond.code yJ2_getChar_3b067 cJ2_getChar_3b067 2 (some .char), Cond.fieldLink RJ2 44 "java/lang/StringUTF16" "$assertionsDisabled" "Z", Cond.fieldLink RJ2 59 "java/lang/StringUTF16" "HI_BYTE_SHIFT" "I", Cond.fieldLink RJ2 63 "java/lang/StringUTF16" "LO_BYTE_SHIFT" "I", Cond.methodLink RX3 93 yX3_refuse, Cond.instanceMethod yX3_refuse, Cond.selects RX3 yX3_refuse yX3_refuse, Cond.code yX3_refuse cX3_refuse 2 none, Cond.fieldLink RX3 59 "BlushBank$Scribe" "faultPlace" "I", Cond.methodLink RX3 101 yX3_faultOfWord]
def wsX3_readLine_r4 : List Cond := [Cond.instanceMethod yX3_faultOfWord, Cond.selects RX3 yX3_faultOfWord yX3_faultOfWord, Cond.code yX3_faultOfWord cX3_faultOfWord 2 (some .int), Cond.fieldLink RX3 77 "BlushBank$Scribe" "hasInterest" "Z", Cond.fieldLink RX3 81 "BlushBank$Scribe" "hasCover" "Z", Cond.fieldLink RX3 12 "BlushBank$Scribe" "story" "LBlushBank$Story;", Cond.fieldLink RX3 62 "BlushBank$Story" "incidents" "I", Cond.fieldLink RX3 65 "BlushBank$Story" "occasions" "I", Cond.fieldLink RX3 21 "BlushBank$Scribe" "ledger" "LBlushBank$Ledger;", Cond.fieldLink RX3 52 "BlushBank$Ledger" "people" "I", Cond.methodLink RX3 111 yX3_readNumber, Cond.instanceMethod yX3_readNumber, Cond.selects RX3 yX3_readNumber yX3_readNumber, Cond.code yX3_readNumber cX3_readNumber 4 (some .int), Cond.methodLink RX3 114 yX3_expect, Cond.instanceMethod yX3_expect, Cond.selects RX3 yX3_expect yX3_expect, Cond.code yX3_expect cX3_expect 2 none, Cond.methodLink RX3 40 yX3_nextToken, Cond.instanceMethod yX3_nextToken, Cond.selects RX3 yX3_nextToken yX3_nextToken, Cond.code yX3_nextToken cX3_nextToken 1 none, Cond.fieldLink RX3 33 "BlushBank$Scribe" "length" "I", Cond.methodLink RX3 87 yX3_isLetter]
def wsX3_readLine_r5 : List Cond := [Cond.instanceMethod yX3_isLetter, Cond.selects RX3 yX3_isLetter yX3_isLetter, Cond.code yX3_isLetter cX3_isLetter 2 (some .boolean), Cond.methodLink RX3 90 yX3_isFigure, Cond.instanceMethod yX3_isFigure, Cond.selects RX3 yX3_isFigure yX3_isFigure, Cond.code yX3_isFigure cX3_isFigure 2 (some .boolean), Cond.methodLink RX3 117 yX3_tell, Cond.instanceMethod yX3_tell, Cond.selects RX3 yX3_tell yX3_tell, Cond.code yX3_tell cX3_tell 2 none, Cond.fieldLink RX3 68 "BlushBank$Ledger" "interest" "I", Cond.fieldLink RX3 71 "BlushBank$Ledger" "cover" "I", Cond.fieldLink RX3 152 "BlushBank$Ledger" "kind" "[I", Cond.fieldLink RX3 155 "BlushBank$Ledger" "hand" "[I", Cond.methodLink RX3 146 yX3_tellTrip, Cond.instanceMethod yX3_tellTrip, Cond.selects RX3 yX3_tellTrip yX3_tellTrip, Cond.code yX3_tellTrip cX3_tellTrip 2 none, Cond.fieldLink RX3 158 "BlushBank$Story" "tripOne" "[I", Cond.fieldLink RX3 161 "BlushBank$Story" "tripWeek" "[I", Cond.fieldLink RX3 164 "BlushBank$Story" "tripSize" "[I", Cond.fieldLink RX3 167 "BlushBank$Ledger" "seen" "[I", Cond.methodLink RX3 149 yX3_tellAsked]
def wsX3_readLine_r6 : List Cond := [Cond.instanceMethod yX3_tellAsked, Cond.selects RX3 yX3_tellAsked yX3_tellAsked, Cond.code yX3_tellAsked cX3_tellAsked 2 none, Cond.fieldLink RX3 170 "BlushBank$Story" "askedOne" "[I", Cond.fieldLink RX3 173 "BlushBank$Story" "askedWeek" "[I", Cond.fieldLink RX3 176 "BlushBank$Story" "askedFor" "[I"]
def wsX3_readLine : List Cond := .code yX3_readLine cX3_readLine 4 none :: ((wsX3_readLine_r1 ++ (wsX3_readLine_r2 ++ (wsX3_readLine_r3 ++ (wsX3_readLine_r4 ++ (wsX3_readLine_r5 ++ wsX3_readLine_r6))))) ++ wsX30 ++ wsX50 ++ wsX10)
def wsX5_knowsAllOf : List Cond := .code yX5_knowsAllOf cX5_knowsAllOf 3 (some .boolean) :: ([.fieldLink RX5 30 "BlushBank$Story" "incidents" "I", .fieldLink RX5 9 "BlushBank$Story" "tripOne" "[I", .fieldLink RX5 40 "BlushBank$Story" "occasions" "I", .fieldLink RX5 21 "BlushBank$Story" "askedOne" "[I"] ++ wsX50)
def wsX3_readTape_r1 : List Cond := [Cond.fieldLink RX3 43 "BlushBank$Scribe" "fault" "I", Cond.fieldLink RX3 46 "BlushBank$Scribe" "token" "I", Cond.fieldLink RX3 12 "BlushBank$Scribe" "story" "LBlushBank$Story;", Cond.fieldLink RX3 21 "BlushBank$Scribe" "ledger" "LBlushBank$Ledger;", Cond.fieldLink RX3 52 "BlushBank$Ledger" "people" "I", Cond.fieldLink RX3 33 "BlushBank$Scribe" "length" "I", Cond.fieldLink RX3 59 "BlushBank$Scribe" "faultPlace" "I", Cond.methodLink RX3 37 yX3_begin, Cond.instanceMethod yX3_begin, Cond.selects RX3 yX3_begin yX3_begin, Cond.initialized RX3, Cond.code yX3_begin cX3_begin 1 none, Cond.fieldLink RX3 62 "BlushBank$Story" "incidents" "I", Cond.fieldLink RX3 65 "BlushBank$Story" "occasions" "I", Cond.fieldLink RX3 68 "BlushBank$Ledger" "interest" "I", Cond.fieldLink RX3 71 "BlushBank$Ledger" "cover" "I", Cond.fieldLink RX3 74 "BlushBank$Scribe" "next" "I", Cond.fieldLink RX3 77 "BlushBank$Scribe" "hasInterest" "Z", Cond.fieldLink RX3 81 "BlushBank$Scribe" "hasCover" "Z", Cond.methodLink RX3 40 yX3_nextToken, Cond.instanceMethod yX3_nextToken, Cond.selects RX3 yX3_nextToken yX3_nextToken, Cond.code yX3_nextToken cX3_nextToken 1 none, Cond.fieldLink RX3 25 "BlushBank$Scribe" "tape" "[B"]
def wsX3_readTape_r2 : List Cond := [Cond.fieldLink RX3 84 "BlushBank$Scribe" "start" "I", Cond.methodLink RX3 87 yX3_isLetter, Cond.instanceMethod yX3_isLetter, Cond.selects RX3 yX3_isLetter yX3_isLetter, Cond.code yX3_isLetter cX3_isLetter 2 (some .boolean), Cond.methodLink RX3 90 yX3_isFigure, Cond.instanceMethod yX3_isFigure, Cond.selects RX3 yX3_isFigure yX3_isFigure, Cond.code yX3_isFigure cX3_isFigure 2 (some .boolean), Cond.methodLink RX3 93 yX3_refuse, Cond.instanceMethod yX3_refuse, Cond.selects RX3 yX3_refuse yX3_refuse, Cond.code yX3_refuse cX3_refuse 2 none, Cond.methodLink RX3 49 yX3_readLine, Cond.instanceMethod yX3_readLine, Cond.selects RX3 yX3_readLine yX3_readLine, Cond.code yX3_readLine cX3_readLine 4 none, Cond.fieldLink RX3 105 "BlushBank$Scribe" "NUMBERS_OF" "[I", Cond.fieldLink RX3 29 "BlushBank$Scribe" "numbers" "[I", Cond.fieldLink RX3 108 "BlushBank$Scribe" "BOUNDS" "[I", Cond.methodLink RX3 97 yX3_wordRead, Cond.instanceMethod yX3_wordRead, Cond.selects RX3 yX3_wordRead yX3_wordRead, Cond.code yX3_wordRead cX3_wordRead 1 (some .int)]
def wsX3_readTape_r3 : List Cond := [Cond.methodLink RX3 122 yX3_isWord, Cond.instanceMethod yX3_isWord, Cond.selects RX3 yX3_isWord yX3_isWord, Cond.code yX3_isWord cX3_isWord 3 (some .boolean), Cond.methodLink RX3 138 yJ0_length_8abf5, Cond.instanceMethod yJ0_length_8abf5, Cond.selects RJ0 yJ0_length_8abf5 yJ0_length_8abf5, Cond.initialized RJ0, Cond.code yJ0_length_8abf5 cJ0_length_8abf5 1 (some .int), Cond.fieldLink RJ0 9 "java/lang/String" "value" "[B", Cond.methodLink RJ0 335 yJ0_coder_7d493, Cond.instanceMethod yJ0_coder_7d493, Cond.selects RJ0 yJ0_coder_7d493 yJ0_coder_7d493, Cond.code yJ0_coder_7d493 cJ0_coder_7d493 1 (some .byte), Cond.fieldLink RJ0 38 "java/lang/String" "COMPACT_STRINGS" "Z", Cond.fieldLink RJ0 15 "java/lang/String" "coder" "B", Cond.methodLink RX3 142 yJ0_charAt_5068e, Cond.instanceMethod yJ0_charAt_5068e, Cond.selects RJ0 yJ0_charAt_5068e yJ0_charAt_5068e, Cond.code yJ0_charAt_5068e cJ0_charAt_5068e 2 (some .char), Cond.methodLink RJ0 492 yJ0_isLatin1_aae02, Cond.instanceMethod yJ0_isLatin1_aae02, Cond.selects RJ0 yJ0_isLatin1_aae02 yJ0_isLatin1_aae02, Cond.code yJ0_isLatin1_aae02 cJ0_isLatin1_aae02 1 (some .boolean)]
def wsX3_readTape_r4 : List Cond := [Cond.methodLink RJ0 495 yJ1_charAt_3b067, Cond.static yJ1_charAt_3b067, Cond.initialized RJ1, Cond.code yJ1_charAt_3b067 cJ1_charAt_3b067 2 (some .char), Cond.methodLink RJ1 9 yJ0_checkIndex_df160, Cond.static yJ0_checkIndex_df160, Cond.code yJ0_checkIndex_df160 cJ0_checkIndex_df160 2 none, Cond.fieldLink RJ0 1053 "jdk/internal/util/Preconditions" "SIOOBE_FORMATTER" "Ljava/util/function/BiFunction;", Cond.methodLink RJ0 1059 yJ3_checkIndex_8e157, Cond.static yJ3_checkIndex_8e157, Cond.initialized RJ3, Cond.code yJ3_checkIndex_8e157 cJ3_checkIndex_8e157 3 (some .int), Cond.methodLink RJ0 498 yJ2_charAt_3b067, Cond.static yJ2_charAt_3b067, Cond.initialized RJ2, Cond.code yJ2_charAt_3b067 cJ2_charAt_3b067 2 (some .char), Cond.methodLink RJ2 67 yJ2_checkIndex_2214a, Cond.static yJ2_checkIndex_2214a, Cond.code yJ2_checkIndex_2214a cJ2_checkIndex_2214a 2 none, Cond.methodLink RJ2 48 yJ2_length_9d52b, Cond.static yJ2_length_9d52b, Cond.code yJ2_length_9d52b cJ2_length_9d52b 1 (some .int), Cond.methodLink RJ2 414 yJ0_checkIndex_df160, Cond.methodLink RJ2 71 yJ2_getChar_3b067]
abbrev vwCl : List vw_C := [(RX0, TX0, 3), (RX1, TX1, 11), (RX2, TX2, 4), (RX3, TX3, 12), (RX4, TX4, 3), (RX5, TX5, 8), (RX6, TX6, 9), (RX7, TX7, 39)]
end
section
/-! ===== the memory: cells by number, each a row of ints; references never change once all is made ===== -/
abbrev z_St : Type := Nat → Nat → Int32
/-- the shape of a cell: an object (number of its class; each field an int, or the cell that it refers to), an array of ints (kind, length), an array of references (kind, the cells) -/
abbrev z_Sh : Type := (Nat × List (Option Nat)) ⊕ ((Nat × Nat) ⊕ (Nat × List Nat))
def z_row (σ : z_St) (c : Nat) (ρ : Nat → Int32) : z_St := fun d => if d = c then ρ else σ d
def z_put (σ : z_St) (c k : Nat) (v : Int32) : z_St := z_row σ c (upd (σ c) k v)
def z_fs (ad : Nat → Nat) (ρ : Nat → Int32) : Nat → List (Option Nat) → List Value
  | _, [] => []
  | k, none :: r => Value.int (ρ k) :: z_fs ad ρ (k + 1) r
  | k, some d :: r => Value.ref (ad d) :: z_fs ad ρ (k + 1) r
theorem z_fs_int (ad : Nat → Nat) (ρ : Nat → Int32) : ∀ (fk : List (Option Nat)) (j k : Nat), fk[k]? = some none → (z_fs ad ρ j fk)[k]? = some (.int (ρ (j + k)))
  | [], j, k, h => by simp at h
  | none :: r, j, 0, h => by simp [z_fs]
  | some d :: r, j, 0, h => by simp at h
  | none :: r, j, k + 1, h => by
    have h1 := z_fs_int ad ρ r (j + 1) k (by simpa using h)
    rw [z_fs, List.getElem?_cons_succ, h1, Nat.add_assoc, Nat.add_comm 1 k]
  | some d :: r, j, k + 1, h => by
    have h1 := z_fs_int ad ρ r (j + 1) k (by simpa using h)
    rw [z_fs, List.getElem?_cons_succ, h1, Nat.add_assoc, Nat.add_comm 1 k]
theorem z_fs_ref (ad : Nat → Nat) (ρ : Nat → Int32) {d : Nat} : ∀ (fk : List (Option Nat)) (j k : Nat), fk[k]? = some (some d) → (z_fs ad ρ j fk)[k]? = some (.ref (ad d))
  | [], j, k, h => by simp at h
  | none :: r, j, 0, h => by simp at h
  | some e :: r, j, 0, h => by
    have h1 : e = d := by simpa using h
    rw [h1, z_fs, List.getElem?_cons_zero]
  | none :: r, j, k + 1, h => by
    rw [z_fs, List.getElem?_cons_succ]
    exact z_fs_ref ad ρ r (j + 1) k (by simpa using h)
  | some e :: r, j, k + 1, h => by
    rw [z_fs, List.getElem?_cons_succ]
    exact z_fs_ref ad ρ r (j + 1) k (by simpa using h)
theorem z_fs_low (ad : Nat → Nat) (ρ : Nat → Int32) (i : Nat) (v : Int32) : ∀ (fk : List (Option Nat)) (j : Nat), i < j → z_fs ad (upd ρ i v) j fk = z_fs ad ρ j fk
  | [], j, h => rfl
  | none :: r, j, h => by
    rw [z_fs, z_fs, z_fs_low ad ρ i v r (j + 1) (by omega)]
    have h1 : upd ρ i v j = ρ j := by rw [upd, if_neg (by omega)]
    rw [h1]
  | some d :: r, j, h => by rw [z_fs, z_fs, z_fs_low ad ρ i v r (j + 1) (by omega)]
theorem z_fs_set (ad : Nat → Nat) (ρ : Nat → Int32) (v : Int32) : ∀ (fk : List (Option Nat)) (j k : Nat), fk[k]? = some none → (z_fs ad ρ j fk).set k (.int v) = z_fs ad (upd ρ (j + k) v) j fk
  | [], j, k, h => by simp at h
  | none :: r, j, 0, h => by
    have h1 : upd ρ j v j = v := by rw [upd, if_pos rfl]
    have h2 := z_fs_low ad ρ j v r (j + 1) (by omega)
    show (Value.int (ρ j) :: z_fs ad ρ (j + 1) r).set 0 (.int v) = Value.int (upd ρ j v j) :: z_fs ad (upd ρ j v) (j + 1) r
    rw [h1, h2, List.set_cons_zero]
  | some d :: r, j, 0, h => by simp at h
  | none :: r, j, k + 1, h => by
    have h1 := z_fs_set ad ρ v r (j + 1) k (by simpa using h)
    rw [z_fs, z_fs, List.set_cons_succ, h1, Nat.add_assoc, Nat.add_comm 1 k]
    have h2 : upd ρ (j + (k + 1)) v j = ρ j := by rw [upd, if_neg (by omega)]
    rw [h2]
  | some d :: r, j, k + 1, h => by
    have h1 := z_fs_set ad ρ v r (j + 1) k (by simpa using h)
    rw [z_fs, z_fs, List.set_cons_succ, h1, Nat.add_assoc, Nat.add_comm 1 k]
theorem z_fs_len (ad : Nat → Nat) (ρ : Nat → Int32) : ∀ (fk : List (Option Nat)) (j : Nat), (z_fs ad ρ j fk).length = fk.length
  | [], j => rfl
  | none :: r, j => by rw [z_fs, List.length_cons, List.length_cons, z_fs_len ad ρ r]
  | some d :: r, j => by rw [z_fs, List.length_cons, List.length_cons, z_fs_len ad ρ r]
def z_en (cy : Nat → ClassId) (ad : Nat → Nat) (sh : z_Sh) (ρ : Nat → Int32) : va_E := match sh with
  | .inl o => .inr (o.1, z_fs ad ρ 0 o.2)
  | .inr (.inl a) => .inl (cy a.1, a.2, .inl ρ)
  | .inr (.inr a) => .inl (cy a.1, a.2.length, .inr (.inr (.inr (.inr (fun k => (a.2[k]?).map ad)))))
/-- the world: the class numbers, the array classes, the addresses, the shapes, and what is fixed for good -/
abbrev z_V : Type := va_G × (Nat → ClassId) × (Nat → Nat) × List z_Sh × (State → Prop)
abbrev z_ad (V : z_V) : Nat → Nat := V.2.2.1
abbrev z_sh (V : z_V) : List z_Sh := V.2.2.2.1
def z_W (V : z_V) (σ : z_St) : va_W := (z_sh V).mapIdx (fun c sh => (z_ad V c, z_en V.2.1 (z_ad V) sh (σ c)))
def z_A (V : z_V) : Nat → Prop := fun q => ∃ c, c < (z_sh V).length ∧ q = z_ad V c
def z_tys (V : z_V) : List (ClassId × FieldType) := [(V.2.1 0, .int), (V.2.1 1, .byte), (V.2.1 2, .boolean), (V.2.1 3, .object "BlushBank$Image"), (V.2.1 4, .object "BlushBank$Sheet")]
theorem z_at {V : z_V} {c : Nat} {sh : z_Sh} (σ : z_St) (h : (z_sh V)[c]? = some sh) : (z_W V σ)[c]? = some (z_ad V c, z_en V.2.1 (z_ad V) sh (σ c)) := by
  rw [z_W, List.getElem?_mapIdx, h]; rfl
theorem z_set {V : z_V} {c : Nat} {sh : z_Sh} (σ : z_St) (h : (z_sh V)[c]? = some sh) (ρ : Nat → Int32) : (z_W V σ).set c (z_ad V c, z_en V.2.1 (z_ad V) sh ρ) = z_W V (z_row σ c ρ) := by
  apply List.ext_getElem?
  intro i
  rw [List.getElem?_set]
  by_cases hi : c = i
  · subst hi
    have hl : c < (z_W V σ).length := by
      rw [z_W, List.length_mapIdx]
      exact (List.getElem?_eq_some_iff.mp h).1
    rw [if_pos rfl, if_pos hl, z_W, List.getElem?_mapIdx, h]
    simp [z_row]
  · rw [if_neg hi, z_W, z_W, List.getElem?_mapIdx, List.getElem?_mapIdx]
    have h1 : z_row σ c ρ i = σ i := by rw [z_row, if_neg (fun e => hi e.symm)]
    rw [h1]
/-- the addresses are apart; what is fixed stays -/
def z_ok (V : z_V) : Prop := (∀ i j, i < (z_sh V).length → j < (z_sh V).length → z_ad V i = z_ad V j → i = j) ∧ (∀ (U : State) (g : JFrame) (mk : MethodId) (a : Array Value), V.2.2.2.2 U → V.2.2.2.2 (U.calling g mk a)) ∧ (∀ (s U : State) (H : Heap) (locs : List Loc), V.2.2.2.2 s → va_S (z_A V) s.heap H locs → U.heap = H → s.WarmedH U.vm → V.2.2.2.2 U)
theorem z_dis {V : z_V} (hV : z_ok V) (σ : z_St) : va_D (z_A V) (z_W V σ) := by
  have look : ∀ (k : Nat) (q : Nat × va_E), (z_W V σ)[k]? = some q → k < (z_sh V).length ∧ q.1 = z_ad V k := by
    intro k q h
    rw [z_W, List.getElem?_mapIdx] at h
    cases hs : (z_sh V)[k]? with
    | none => rw [hs] at h; cases h
    | some sh =>
      rw [hs] at h
      refine ⟨(List.getElem?_eq_some_iff.mp hs).1, ?_⟩
      have h2 := Option.some.inj h
      rw [← h2]
  refine ⟨fun i j p q hp hq e => ?_, fun k q h => ?_⟩
  · obtain ⟨a1, a2⟩ := look i p hp
    obtain ⟨b1, b2⟩ := look j q hq
    exact hV.1 i j a1 b1 (by rw [← a2, ← b2, e])
  · obtain ⟨a1, a2⟩ := look k q h
    exact ⟨k, a1, a2⟩
/-- what a method finds, and what it leaves -/
def z_B (V : z_V) (σ : z_St) (U : State) : Prop := va_P V.1 vwCl (z_W V σ) U.heap ∧ va_K V.1 vwCl (z_tys V) U ∧ V.2.2.2.2 U
def z_QI (V : z_V) (r : Int32 × z_St) : Array Value → State → Outcome → State → Prop := va_Qi (fun v u => v = r.1 ∧ u = r.2) (fun (u : z_St) t => va_P V.1 vwCl (z_W V u) t.heap) (z_A V)
def z_QV (V : z_V) (r : Int32 × z_St) : Array Value → State → Outcome → State → Prop := va_Qv (fun u => u = r.2) (fun (u : z_St) t => va_P V.1 vwCl (z_W V u) t.heap) (z_A V)
def z_CtI (l : Launch) (V : z_V) (y : MethodName) (ws : List Cond) (rm : Room) (vs : List Value) (σ : z_St) (T : Option (Int32 × z_St)) : Prop := ∀ r, T = some r → Met l y ws rm (va_Pc vs (z_B V σ)) (z_QI V r) 0 0 (z_A V)
def z_CtV (l : Launch) (V : z_V) (y : MethodName) (ws : List Cond) (rm : Room) (vs : List Value) (σ : z_St) (T : Option (Int32 × z_St)) : Prop := ∀ r, T = some r → Met l y ws rm (va_Pc vs (z_B V σ)) (z_QV V r) 0 0 (z_A V)
/-- the machine within a method -/
abbrev z_M : Type := Program × Launch × Env × State × MethodId × Array Value × List Frame × Method × Code
def z_Go (M : z_M) (R : Room) (nL : Nat) (V : z_V) (Qr : Int32 × z_St → Array Value → State → Outcome → State → Prop) (σ : z_St) (pc : Nat) (lv : List (Nat × Value)) (st : List Value) (T : Option (Int32 × z_St)) : Prop :=
  ∀ r, T = some r → ∀ (ls : Array Slot) (H : Heap) (locs : List Loc), lv_has ls nL lv → va_P V.1 vwCl (z_W V σ) H → va_S (z_A V) M.2.2.2.1.heap H locs →
    W M.1 M.2.1 M.2.2.1 R M.2.2.2.1 M.2.2.2.2.1 M.2.2.2.2.2.1 M.2.2.2.2.2.2.1 M.2.2.2.2.2.2.2.1 M.2.2.2.2.2.2.2.2 H locs 0 0 (MQ M.2.2.2.2.2.2.1 (Qr r) M.2.2.2.2.2.1 M.2.2.2.1 0 0 (z_A V)) (F0 M.2.2.2.2.1 pc ls st)
def z_Cx (M : z_M) (V : z_V) (cc : ByteArray) (nL : Nat) (ret : Option FieldType) (Ts : List Cond) (own : String) : Prop :=
  CallFix M.1 M.2.2.2.2.1 M.2.2.2.2.2.2.2.2 cc nL M.2.2.2.1 M.2.2.2.2.2.1 Ts own ∧ M.2.2.2.2.2.2.2.1.sig.returnType = ret ∧ M.2.2.2.2.2.2.2.1.locks = false ∧ va_K V.1 vwCl (z_tys V) M.2.2.2.1 ∧ V.2.2.2.2 M.2.2.2.1 ∧ z_ok V
/-- the guards of the pure side: an index in its row, a divisor, a truth value -/
def z_gd (i : Int32) (n : Nat) (T : Option (Int32 × z_St)) : Option (Int32 × z_St) := if i < 0 ∨ n ≤ i.toNatClampNeg then none else T
def z_nz (i : Int32) (T : Option (Int32 × z_St)) : Option (Int32 × z_St) := if i = 0 then none else T
def z_tf (i : Int32) (T : Option (Int32 × z_St)) : Option (Int32 × z_St) := if i = 0 ∨ i = 1 then T else none
def z_li (i : Int32) (n j : Nat) : Prop := (¬ (i < 0 ∨ n ≤ i.toNatClampNeg)) ∧ i.toNatClampNeg = j
theorem z_gd_some {i : Int32} {n : Nat} {T : Option (Int32 × z_St)} {r : Int32 × z_St} (h : z_gd i n T = some r) : vp_in i n ∧ T = some r := by
  unfold z_gd at h
  by_cases q : i < 0 ∨ n ≤ i.toNatClampNeg
  · rw [if_pos q] at h; cases h
  · rw [if_neg q] at h; exact ⟨q, h⟩
theorem z_nz_some {i : Int32} {T : Option (Int32 × z_St)} {r : Int32 × z_St} (h : z_nz i T = some r) : ¬ i = 0 ∧ T = some r := by
  unfold z_nz at h
  by_cases q : i = 0
  · rw [if_pos q] at h; cases h
  · rw [if_neg q] at h; exact ⟨q, h⟩
theorem z_tf_some {i : Int32} {T : Option (Int32 × z_St)} {r : Int32 × z_St} (h : z_tf i T = some r) : (i = 0 ∨ i = 1) ∧ T = some r := by
  unfold z_tf at h
  by_cases q : i = 0 ∨ i = 1
  · rw [if_pos q] at h; exact ⟨q, h⟩
  · rw [if_neg q] at h; cases h
theorem z_bind_some {T : Option (Int32 × z_St)} {g : Int32 × z_St → Option (Int32 × z_St)} {r : Int32 × z_St} (h : T.bind g = some r) : ∃ u, T = some u ∧ g u = some r := Option.bind_eq_some_iff.mp h
section ZR
variable {M : z_M} {R : Room} {nL : Nat} {V : z_V} {Qr : Int32 × z_St → Array Value → State → Outcome → State → Prop} {σ : z_St} {pc : Nat} {lv : List (Nat × Value)} {st : List Value} {T T1 T2 : Option (Int32 × z_St)} {cc : ByteArray} {ret : Option FieldType} {Ts : List Cond} {own : String}
theorem z_none : z_Go M R nL V Qr σ pc lv st none := fun r h => by cases h
theorem z_sub {lv' : List (Nat × Value)} (ks : List Nat) (h : lv_pick lv ks = lv') (k : z_Go M R nL V Qr σ pc lv' st T) : z_Go M R nL V Qr σ pc lv st T := fun r hr ls H locs hl hP hS => k r hr ls H locs (lv_sub hl ks h) hP hS

theorem z_iconst (hX : z_Cx M V cc nL ret Ts own) {n : Int} {v : Int32} (hd : decode cc pc = .ok (.iconst n, 1)) (hv : Int32.ofInt n = v) (k : z_Go M R nL V Qr σ (pc + 1) lv (.int v :: st) T) : z_Go M R nL V Qr σ pc lv st T := fun r hr ls H locs hl hP hS => lv_iconst hX.1.1 hX.1.2.1 hd hv (k r hr ls H locs hl hP hS)
theorem z_bipush (hX : z_Cx M V cc nL ret Ts own) {n : Int} {v : Int32} (hd : decode cc pc = .ok (.bipush n, 2)) (hv : (Int8.ofInt n).toInt32 = v) (k : z_Go M R nL V Qr σ (pc + 2) lv (.int v :: st) T) : z_Go M R nL V Qr σ pc lv st T := fun r hr ls H locs hl hP hS => lv_bipush hX.1.1 hX.1.2.1 hd hv (k r hr ls H locs hl hP hS)
theorem z_sipush (hX : z_Cx M V cc nL ret Ts own) {n : Int} {v : Int32} (hd : decode cc pc = .ok (.sipush n, 3)) (hv : (Int16.ofInt n).toInt32 = v) (k : z_Go M R nL V Qr σ (pc + 3) lv (.int v :: st) T) : z_Go M R nL V Qr σ pc lv st T := fun r hr ls H locs hl hP hS => lv_sipush hX.1.1 hX.1.2.1 hd hv (k r hr ls H locs hl hP hS)
theorem z_lconst (hX : z_Cx M V cc nL ret Ts own) {n : Fin 2} {v : Int64} (hd : decode cc pc = .ok (.lconst n, 1)) (hv : Int64.ofNat (n : Nat) = v) (k : z_Go M R nL V Qr σ (pc + 1) lv (.long v :: st) T) : z_Go M R nL V Qr σ pc lv st T := fun r hr ls H locs hl hP hS => lv_lconst hX.1.1 hX.1.2.1 hd hv (k r hr ls H locs hl hP hS)
theorem z_iload_n (hX : z_Cx M V cc nL ret Ts own) {k : Fin 4} {i : Nat} {x : Int32} (hd : decode cc pc = .ok (.iload_n k, 1)) (hi : (k : Nat) = i) (j : Nat) (hj : lv[j]? = some (i, .int x)) (kk : z_Go M R nL V Qr σ (pc + 1) lv (.int x :: st) T) : z_Go M R nL V Qr σ pc lv st T := fun r hr ls H locs hl hP hS => lv_iload_n hX.1.1 hX.1.2.1 hd hi (lv_at hl j hj) (kk r hr ls H locs hl hP hS)
theorem z_iload (hX : z_Cx M V cc nL ret Ts own) {i : Nat} {x : Int32} (hd : decode cc pc = .ok (.iload i, 2)) (j : Nat) (hj : lv[j]? = some (i, .int x)) (kk : z_Go M R nL V Qr σ (pc + 2) lv (.int x :: st) T) : z_Go M R nL V Qr σ pc lv st T := fun r hr ls H locs hl hP hS => lv_iload hX.1.1 hX.1.2.1 hd (lv_at hl j hj) (kk r hr ls H locs hl hP hS)
theorem z_istore_n (hX : z_Cx M V cc nL ret Ts own) {k : Fin 4} {i : Nat} {x : Int32} {lv' : List (Nat × Value)} (hd : decode cc pc = .ok (.istore_n k, 1)) (hi : (k : Nat) = i) (hn : i < nL) (hl' : (i, Value.int x) :: lv.filter (fun q => !(q.1 == i) && !(q.1 + 1 == i && q.2.category == 2)) = lv') (kk : z_Go M R nL V Qr σ (pc + 1) lv' st T) : z_Go M R nL V Qr σ pc lv (.int x :: st) T := fun r hr ls H locs hl hP hS => lv_istore_n hX.1.1 hX.1.2.1 hd hi hl hn hl' (fun ls hl => kk r hr ls H locs hl hP hS)
theorem z_istore (hX : z_Cx M V cc nL ret Ts own) {i : Nat} {x : Int32} {lv' : List (Nat × Value)} (hd : decode cc pc = .ok (.istore i, 2)) (hn : i < nL) (hl' : (i, Value.int x) :: lv.filter (fun q => !(q.1 == i) && !(q.1 + 1 == i && q.2.category == 2)) = lv') (kk : z_Go M R nL V Qr σ (pc + 2) lv' st T) : z_Go M R nL V Qr σ pc lv (.int x :: st) T := fun r hr ls H locs hl hP hS => lv_istore hX.1.1 hX.1.2.1 hd hl hn hl' (fun ls hl => kk r hr ls H locs hl hP hS)
theorem z_lload_n (hX : z_Cx M V cc nL ret Ts own) {k : Fin 4} {i : Nat} {x : Int64} (hd : decode cc pc = .ok (.lload_n k, 1)) (hi : (k : Nat) = i) (j : Nat) (hj : lv[j]? = some (i, .long x)) (kk : z_Go M R nL V Qr σ (pc + 1) lv (.long x :: st) T) : z_Go M R nL V Qr σ pc lv st T := fun r hr ls H locs hl hP hS => lv_lload_n hX.1.1 hX.1.2.1 hd hi (lv_at hl j hj) (kk r hr ls H locs hl hP hS)
theorem z_lload (hX : z_Cx M V cc nL ret Ts own) {i : Nat} {x : Int64} (hd : decode cc pc = .ok (.lload i, 2)) (j : Nat) (hj : lv[j]? = some (i, .long x)) (kk : z_Go M R nL V Qr σ (pc + 2) lv (.long x :: st) T) : z_Go M R nL V Qr σ pc lv st T := fun r hr ls H locs hl hP hS => lv_lload hX.1.1 hX.1.2.1 hd (lv_at hl j hj) (kk r hr ls H locs hl hP hS)
theorem z_lstore_n (hX : z_Cx M V cc nL ret Ts own) {k : Fin 4} {i : Nat} {x : Int64} {lv' : List (Nat × Value)} (hd : decode cc pc = .ok (.lstore_n k, 1)) (hi : (k : Nat) = i) (hn : i + 1 < nL) (hl' : (i, Value.long x) :: lv.filter (fun q => !(q.1 == i) && (!(q.1 == i + 1) && !(q.1 + 1 == i && q.2.category == 2))) = lv') (kk : z_Go M R nL V Qr σ (pc + 1) lv' st T) : z_Go M R nL V Qr σ pc lv (.long x :: st) T := fun r hr ls H locs hl hP hS => lv_lstore_n hX.1.1 hX.1.2.1 hd hi hl hn hl' (fun ls hl => kk r hr ls H locs hl hP hS)
theorem z_lstore (hX : z_Cx M V cc nL ret Ts own) {i : Nat} {x : Int64} {lv' : List (Nat × Value)} (hd : decode cc pc = .ok (.lstore i, 2)) (hn : i + 1 < nL) (hl' : (i, Value.long x) :: lv.filter (fun q => !(q.1 == i) && (!(q.1 == i + 1) && !(q.1 + 1 == i && q.2.category == 2))) = lv') (kk : z_Go M R nL V Qr σ (pc + 2) lv' st T) : z_Go M R nL V Qr σ pc lv (.long x :: st) T := fun r hr ls H locs hl hP hS => lv_lstore hX.1.1 hX.1.2.1 hd hl hn hl' (fun ls hl => kk r hr ls H locs hl hP hS)
theorem z_aload_n (hX : z_Cx M V cc nL ret Ts own) {k : Fin 4} {i : Nat} {x : Nat} (hd : decode cc pc = .ok (.aload_n k, 1)) (hi : (k : Nat) = i) (j : Nat) (hj : lv[j]? = some (i, .ref x)) (kk : z_Go M R nL V Qr σ (pc + 1) lv (.ref x :: st) T) : z_Go M R nL V Qr σ pc lv st T := fun r hr ls H locs hl hP hS => lv_aload_n hX.1.1 hX.1.2.1 hd hi (lv_at hl j hj) (kk r hr ls H locs hl hP hS)
theorem z_aload (hX : z_Cx M V cc nL ret Ts own) {i : Nat} {x : Nat} (hd : decode cc pc = .ok (.aload i, 2)) (j : Nat) (hj : lv[j]? = some (i, .ref x)) (kk : z_Go M R nL V Qr σ (pc + 2) lv (.ref x :: st) T) : z_Go M R nL V Qr σ pc lv st T := fun r hr ls H locs hl hP hS => lv_aload hX.1.1 hX.1.2.1 hd (lv_at hl j hj) (kk r hr ls H locs hl hP hS)
theorem z_astore_n (hX : z_Cx M V cc nL ret Ts own) {k : Fin 4} {i : Nat} {x : Nat} {lv' : List (Nat × Value)} (hd : decode cc pc = .ok (.astore_n k, 1)) (hi : (k : Nat) = i) (hn : i < nL) (hl' : (i, Value.ref x) :: lv.filter (fun q => !(q.1 == i) && !(q.1 + 1 == i && q.2.category == 2)) = lv') (kk : z_Go M R nL V Qr σ (pc + 1) lv' st T) : z_Go M R nL V Qr σ pc lv (.ref x :: st) T := fun r hr ls H locs hl hP hS => lv_astore_n hX.1.1 hX.1.2.1 hd hi hl hn hl' (fun ls hl => kk r hr ls H locs hl hP hS)
theorem z_astore (hX : z_Cx M V cc nL ret Ts own) {i : Nat} {x : Nat} {lv' : List (Nat × Value)} (hd : decode cc pc = .ok (.astore i, 2)) (hn : i < nL) (hl' : (i, Value.ref x) :: lv.filter (fun q => !(q.1 == i) && !(q.1 + 1 == i && q.2.category == 2)) = lv') (kk : z_Go M R nL V Qr σ (pc + 2) lv' st T) : z_Go M R nL V Qr σ pc lv (.ref x :: st) T := fun r hr ls H locs hl hP hS => lv_astore hX.1.1 hX.1.2.1 hd hl hn hl' (fun ls hl => kk r hr ls H locs hl hP hS)
theorem z_iinc (hX : z_Cx M V cc nL ret Ts own) {i : Nat} {n : Int} {x v : Int32} {lv' : List (Nat × Value)} (hd : decode cc pc = .ok (.iinc i n, 3)) (j : Nat) (hj : lv[j]? = some (i, .int x)) (hv : x + Int32.ofInt n = v) (hn : i < nL) (hl' : (i, Value.int v) :: lv.filter (fun q => !(q.1 == i) && !(q.1 + 1 == i && q.2.category == 2)) = lv') (kk : z_Go M R nL V Qr σ (pc + 3) lv' st T) : z_Go M R nL V Qr σ pc lv st T := fun r hr ls H locs hl hP hS => lv_iinc hX.1.1 hX.1.2.1 hd hl (k := j) hj hv hn hl' (fun ls hl => kk r hr ls H locs hl hP hS)
theorem z_iadd (hX : z_Cx M V cc nL ret Ts own) {x y : Int32} (hd : decode cc pc = .ok (.iadd, 1)) (kk : z_Go M R nL V Qr σ (pc + 1) lv (.int (x + y) :: st) T) : z_Go M R nL V Qr σ pc lv (.int y :: .int x :: st) T := fun r hr ls H locs hl hP hS => lv_iadd hX.1.1 hX.1.2.1 hd (kk r hr ls H locs hl hP hS)
theorem z_isub (hX : z_Cx M V cc nL ret Ts own) {x y : Int32} (hd : decode cc pc = .ok (.isub, 1)) (kk : z_Go M R nL V Qr σ (pc + 1) lv (.int (x - y) :: st) T) : z_Go M R nL V Qr σ pc lv (.int y :: .int x :: st) T := fun r hr ls H locs hl hP hS => lv_isub hX.1.1 hX.1.2.1 hd (kk r hr ls H locs hl hP hS)
theorem z_imul (hX : z_Cx M V cc nL ret Ts own) {x y : Int32} (hd : decode cc pc = .ok (.imul, 1)) (kk : z_Go M R nL V Qr σ (pc + 1) lv (.int (x * y) :: st) T) : z_Go M R nL V Qr σ pc lv (.int y :: .int x :: st) T := fun r hr ls H locs hl hP hS => lv_imul hX.1.1 hX.1.2.1 hd (kk r hr ls H locs hl hP hS)
theorem z_iand (hX : z_Cx M V cc nL ret Ts own) {x y : Int32} (hd : decode cc pc = .ok (.iand, 1)) (kk : z_Go M R nL V Qr σ (pc + 1) lv (.int (x &&& y) :: st) T) : z_Go M R nL V Qr σ pc lv (.int y :: .int x :: st) T := fun r hr ls H locs hl hP hS => lv_iand hX.1.1 hX.1.2.1 hd (kk r hr ls H locs hl hP hS)
theorem z_ior (hX : z_Cx M V cc nL ret Ts own) {x y : Int32} (hd : decode cc pc = .ok (.ior, 1)) (kk : z_Go M R nL V Qr σ (pc + 1) lv (.int (x ||| y) :: st) T) : z_Go M R nL V Qr σ pc lv (.int y :: .int x :: st) T := fun r hr ls H locs hl hP hS => lv_ior hX.1.1 hX.1.2.1 hd (kk r hr ls H locs hl hP hS)
theorem z_ixor (hX : z_Cx M V cc nL ret Ts own) {x y : Int32} (hd : decode cc pc = .ok (.ixor, 1)) (kk : z_Go M R nL V Qr σ (pc + 1) lv (.int (x ^^^ y) :: st) T) : z_Go M R nL V Qr σ pc lv (.int y :: .int x :: st) T := fun r hr ls H locs hl hP hS => lv_ixor hX.1.1 hX.1.2.1 hd (kk r hr ls H locs hl hP hS)
theorem z_ishl (hX : z_Cx M V cc nL ret Ts own) {x y : Int32} (hd : decode cc pc = .ok (.ishl, 1)) (kk : z_Go M R nL V Qr σ (pc + 1) lv (.int (x <<< (y &&& 31)) :: st) T) : z_Go M R nL V Qr σ pc lv (.int y :: .int x :: st) T := fun r hr ls H locs hl hP hS => lv_ishl hX.1.1 hX.1.2.1 hd (kk r hr ls H locs hl hP hS)
theorem z_ishr (hX : z_Cx M V cc nL ret Ts own) {x y : Int32} (hd : decode cc pc = .ok (.ishr, 1)) (kk : z_Go M R nL V Qr σ (pc + 1) lv (.int (x >>> (y &&& 31)) :: st) T) : z_Go M R nL V Qr σ pc lv (.int y :: .int x :: st) T := fun r hr ls H locs hl hP hS => lv_ishr hX.1.1 hX.1.2.1 hd (kk r hr ls H locs hl hP hS)
theorem z_iushr (hX : z_Cx M V cc nL ret Ts own) {x y : Int32} (hd : decode cc pc = .ok (.iushr, 1)) (kk : z_Go M R nL V Qr σ (pc + 1) lv (.int ((x.toUInt32 >>> (y.toUInt32 &&& Int32.toUInt32 31)).toInt32) :: st) T) : z_Go M R nL V Qr σ pc lv (.int y :: .int x :: st) T := fun r hr ls H locs hl hP hS => lv_iushr hX.1.1 hX.1.2.1 hd rfl (kk r hr ls H locs hl hP hS)
theorem z_idivc (hX : z_Cx M V cc nL ret Ts own) {x y : Int32} (hd : decode cc pc = .ok (.idiv, 1)) (hy : ¬ y = 0) (kk : z_Go M R nL V Qr σ (pc + 1) lv (.int (x / y) :: st) T) : z_Go M R nL V Qr σ pc lv (.int y :: .int x :: st) T := fun r hr ls H locs hl hP hS => lv_idiv hX.1.1 hX.1.2.1 hd hy (kk r hr ls H locs hl hP hS)
theorem z_iremc (hX : z_Cx M V cc nL ret Ts own) {x y : Int32} (hd : decode cc pc = .ok (.irem, 1)) (hy : ¬ y = 0) (kk : z_Go M R nL V Qr σ (pc + 1) lv (.int (x - x / y * y) :: st) T) : z_Go M R nL V Qr σ pc lv (.int y :: .int x :: st) T := fun r hr ls H locs hl hP hS => lv_irem hX.1.1 hX.1.2.1 hd hy (kk r hr ls H locs hl hP hS)
theorem z_irem (hX : z_Cx M V cc nL ret Ts own) {x y : Int32} (hd : decode cc pc = .ok (.irem, 1)) (kk : z_Go M R nL V Qr σ (pc + 1) lv (.int (x - x / y * y) :: st) T) : z_Go M R nL V Qr σ pc lv (.int y :: .int x :: st) (z_nz y T) := fun r hr ls H locs hl hP hS => lv_irem hX.1.1 hX.1.2.1 hd (z_nz_some hr).1 (kk r (z_nz_some hr).2 ls H locs hl hP hS)
theorem z_ineg (hX : z_Cx M V cc nL ret Ts own) {x : Int32} (hd : decode cc pc = .ok (.ineg, 1)) (kk : z_Go M R nL V Qr σ (pc + 1) lv (.int (-x) :: st) T) : z_Go M R nL V Qr σ pc lv (.int x :: st) T := fun r hr ls H locs hl hP hS => lv_ineg hX.1.1 hX.1.2.1 hd (kk r hr ls H locs hl hP hS)
theorem z_ladd (hX : z_Cx M V cc nL ret Ts own) {x y : Int64} (hd : decode cc pc = .ok (.ladd, 1)) (kk : z_Go M R nL V Qr σ (pc + 1) lv (.long (x + y) :: st) T) : z_Go M R nL V Qr σ pc lv (.long y :: .long x :: st) T := fun r hr ls H locs hl hP hS => lv_ladd hX.1.1 hX.1.2.1 hd (kk r hr ls H locs hl hP hS)
theorem z_lcmp (hX : z_Cx M V cc nL ret Ts own) {x y : Int64} (hd : decode cc pc = .ok (.lcmp, 1)) (kk : z_Go M R nL V Qr σ (pc + 1) lv (.int (lg_cmp x y) :: st) T) : z_Go M R nL V Qr σ pc lv (.long y :: .long x :: st) T := fun r hr ls H locs hl hP hS => W.lcmp hX.1.1 hX.1.2.1 hd (kk r hr ls H locs hl hP hS)
theorem z_i2l (hX : z_Cx M V cc nL ret Ts own) {x : Int32} (hd : decode cc pc = .ok (.i2l, 1)) (kk : z_Go M R nL V Qr σ (pc + 1) lv (.long (x.toInt64) :: st) T) : z_Go M R nL V Qr σ pc lv (.int x :: st) T := fun r hr ls H locs hl hP hS => lv_i2l hX.1.1 hX.1.2.1 hd rfl (kk r hr ls H locs hl hP hS)
theorem z_i2b (hX : z_Cx M V cc nL ret Ts own) {x : Int32} (hd : decode cc pc = .ok (.i2b, 1)) (kk : z_Go M R nL V Qr σ (pc + 1) lv (.int (x.toInt8.toInt32) :: st) T) : z_Go M R nL V Qr σ pc lv (.int x :: st) T := fun r hr ls H locs hl hP hS => lv_i2b hX.1.1 hX.1.2.1 hd rfl (kk r hr ls H locs hl hP hS)
theorem z_i2s (hX : z_Cx M V cc nL ret Ts own) {x : Int32} (hd : decode cc pc = .ok (.i2s, 1)) (kk : z_Go M R nL V Qr σ (pc + 1) lv (.int (x.toInt16.toInt32) :: st) T) : z_Go M R nL V Qr σ pc lv (.int x :: st) T := fun r hr ls H locs hl hP hS => lv_i2s hX.1.1 hX.1.2.1 hd rfl (kk r hr ls H locs hl hP hS)
theorem z_i2c (hX : z_Cx M V cc nL ret Ts own) {x : Int32} (hd : decode cc pc = .ok (.i2c, 1)) (kk : z_Go M R nL V Qr σ (pc + 1) lv (.int ((x.toUInt32 % 65536).toInt32) :: st) T) : z_Go M R nL V Qr σ pc lv (.int x :: st) T := fun r hr ls H locs hl hP hS => lv_i2c hX.1.1 hX.1.2.1 hd rfl (kk r hr ls H locs hl hP hS)
theorem z_dup (hX : z_Cx M V cc nL ret Ts own) {va : Value} (hd : decode cc pc = .ok (.dup, 1)) (hc : va.category = 1) (kk : z_Go M R nL V Qr σ (pc + 1) lv (va :: va :: st) T) : z_Go M R nL V Qr σ pc lv (va :: st) T := fun r hr ls H locs hl hP hS => lv_dup hX.1.1 hX.1.2.1 hd hc (kk r hr ls H locs hl hP hS)
theorem z_pop (hX : z_Cx M V cc nL ret Ts own) {va : Value} (hd : decode cc pc = .ok (.pop, 1)) (hc : va.category = 1) (kk : z_Go M R nL V Qr σ (pc + 1) lv st T) : z_Go M R nL V Qr σ pc lv (va :: st) T := fun r hr ls H locs hl hP hS => lv_pop hX.1.1 hX.1.2.1 hd hc (kk r hr ls H locs hl hP hS)
theorem z_dup2 (hX : z_Cx M V cc nL ret Ts own) {va vb : Value} (hd : decode cc pc = .ok (.dup2, 1)) (hc : va.category = 1) (hc2 : vb.category = 1) (kk : z_Go M R nL V Qr σ (pc + 1) lv (va :: vb :: va :: vb :: st) T) : z_Go M R nL V Qr σ pc lv (va :: vb :: st) T := fun r hr ls H locs hl hP hS => lv_dup2_11 hX.1.1 hX.1.2.1 hd hc hc2 (kk r hr ls H locs hl hP hS)
theorem z_goto (hX : z_Cx M V cc nL ret Ts own) {off : Int} {tgt : Nat} (hd : decode cc pc = .ok (.goto off, 3)) (ht : (pc : Int) + off = (tgt : Int)) (kk : z_Go M R nL V Qr σ tgt lv st T) : z_Go M R nL V Qr σ pc lv st T := fun r hr ls H locs hl hP hS => lv_goto hX.1.1 hX.1.2.1 hd ht (kk r hr ls H locs hl hP hS)
theorem z_if_eq (hX : z_Cx M V cc nL ret Ts own) {x : Int32} {off : Int} {tgt : Nat} (hd : decode cc pc = .ok (.ifCond .eq off, 3)) (ht : (pc : Int) + off = (tgt : Int)) (kt : z_Go M R nL V Qr σ tgt lv st T1) (kf : z_Go M R nL V Qr σ (pc + 3) lv st T2) : z_Go M R nL V Qr σ pc lv (.int x :: st) (if x = 0 then T1 else T2) := fun r hr ls H locs hl hP hS => lv_if_eq hX.1.1 hX.1.2.1 hd ht (fun h => kt r (by rw [if_pos h] at hr; exact hr) ls H locs hl hP hS) (fun h => kf r (by rw [if_neg h] at hr; exact hr) ls H locs hl hP hS)
theorem z_icmp_eq (hX : z_Cx M V cc nL ret Ts own) {x y : Int32} {off : Int} {tgt : Nat} (hd : decode cc pc = .ok (.if_icmp .eq off, 3)) (ht : (pc : Int) + off = (tgt : Int)) (kt : z_Go M R nL V Qr σ tgt lv st T1) (kf : z_Go M R nL V Qr σ (pc + 3) lv st T2) : z_Go M R nL V Qr σ pc lv (.int y :: .int x :: st) (if x = y then T1 else T2) := fun r hr ls H locs hl hP hS => lv_icmp_eq hX.1.1 hX.1.2.1 hd ht (fun h => kt r (by rw [if_pos h] at hr; exact hr) ls H locs hl hP hS) (fun h => kf r (by rw [if_neg h] at hr; exact hr) ls H locs hl hP hS)
theorem z_if_ne (hX : z_Cx M V cc nL ret Ts own) {x : Int32} {off : Int} {tgt : Nat} (hd : decode cc pc = .ok (.ifCond .ne off, 3)) (ht : (pc : Int) + off = (tgt : Int)) (kt : z_Go M R nL V Qr σ tgt lv st T1) (kf : z_Go M R nL V Qr σ (pc + 3) lv st T2) : z_Go M R nL V Qr σ pc lv (.int x :: st) (if x = 0 then T2 else T1) := fun r hr ls H locs hl hP hS => lv_if_ne hX.1.1 hX.1.2.1 hd ht (fun h => kt r (by rw [if_neg h] at hr; exact hr) ls H locs hl hP hS) (fun h => kf r (by rw [if_pos h] at hr; exact hr) ls H locs hl hP hS)
theorem z_icmp_ne (hX : z_Cx M V cc nL ret Ts own) {x y : Int32} {off : Int} {tgt : Nat} (hd : decode cc pc = .ok (.if_icmp .ne off, 3)) (ht : (pc : Int) + off = (tgt : Int)) (kt : z_Go M R nL V Qr σ tgt lv st T1) (kf : z_Go M R nL V Qr σ (pc + 3) lv st T2) : z_Go M R nL V Qr σ pc lv (.int y :: .int x :: st) (if x = y then T2 else T1) := fun r hr ls H locs hl hP hS => lv_icmp_ne hX.1.1 hX.1.2.1 hd ht (fun h => kt r (by rw [if_neg h] at hr; exact hr) ls H locs hl hP hS) (fun h => kf r (by rw [if_pos h] at hr; exact hr) ls H locs hl hP hS)
theorem z_if_lt (hX : z_Cx M V cc nL ret Ts own) {x : Int32} {off : Int} {tgt : Nat} (hd : decode cc pc = .ok (.ifCond .lt off, 3)) (ht : (pc : Int) + off = (tgt : Int)) (kt : z_Go M R nL V Qr σ tgt lv st T1) (kf : z_Go M R nL V Qr σ (pc + 3) lv st T2) : z_Go M R nL V Qr σ pc lv (.int x :: st) (if x < 0 then T1 else T2) := fun r hr ls H locs hl hP hS => lv_if_lt hX.1.1 hX.1.2.1 hd ht (fun h => kt r (by rw [if_pos h] at hr; exact hr) ls H locs hl hP hS) (fun h => kf r (by rw [if_neg h] at hr; exact hr) ls H locs hl hP hS)
theorem z_icmp_lt (hX : z_Cx M V cc nL ret Ts own) {x y : Int32} {off : Int} {tgt : Nat} (hd : decode cc pc = .ok (.if_icmp .lt off, 3)) (ht : (pc : Int) + off = (tgt : Int)) (kt : z_Go M R nL V Qr σ tgt lv st T1) (kf : z_Go M R nL V Qr σ (pc + 3) lv st T2) : z_Go M R nL V Qr σ pc lv (.int y :: .int x :: st) (if x < y then T1 else T2) := fun r hr ls H locs hl hP hS => lv_icmp_lt hX.1.1 hX.1.2.1 hd ht (fun h => kt r (by rw [if_pos h] at hr; exact hr) ls H locs hl hP hS) (fun h => kf r (by rw [if_neg h] at hr; exact hr) ls H locs hl hP hS)
theorem z_if_ge (hX : z_Cx M V cc nL ret Ts own) {x : Int32} {off : Int} {tgt : Nat} (hd : decode cc pc = .ok (.ifCond .ge off, 3)) (ht : (pc : Int) + off = (tgt : Int)) (kt : z_Go M R nL V Qr σ tgt lv st T1) (kf : z_Go M R nL V Qr σ (pc + 3) lv st T2) : z_Go M R nL V Qr σ pc lv (.int x :: st) (if 0 ≤ x then T1 else T2) := fun r hr ls H locs hl hP hS => lv_if_ge hX.1.1 hX.1.2.1 hd ht (fun h => kt r (by rw [if_pos h] at hr; exact hr) ls H locs hl hP hS) (fun h => kf r (by rw [if_neg h] at hr; exact hr) ls H locs hl hP hS)
theorem z_icmp_ge (hX : z_Cx M V cc nL ret Ts own) {x y : Int32} {off : Int} {tgt : Nat} (hd : decode cc pc = .ok (.if_icmp .ge off, 3)) (ht : (pc : Int) + off = (tgt : Int)) (kt : z_Go M R nL V Qr σ tgt lv st T1) (kf : z_Go M R nL V Qr σ (pc + 3) lv st T2) : z_Go M R nL V Qr σ pc lv (.int y :: .int x :: st) (if y ≤ x then T1 else T2) := fun r hr ls H locs hl hP hS => lv_icmp_ge hX.1.1 hX.1.2.1 hd ht (fun h => kt r (by rw [if_pos h] at hr; exact hr) ls H locs hl hP hS) (fun h => kf r (by rw [if_neg h] at hr; exact hr) ls H locs hl hP hS)
theorem z_if_gt (hX : z_Cx M V cc nL ret Ts own) {x : Int32} {off : Int} {tgt : Nat} (hd : decode cc pc = .ok (.ifCond .gt off, 3)) (ht : (pc : Int) + off = (tgt : Int)) (kt : z_Go M R nL V Qr σ tgt lv st T1) (kf : z_Go M R nL V Qr σ (pc + 3) lv st T2) : z_Go M R nL V Qr σ pc lv (.int x :: st) (if 0 < x then T1 else T2) := fun r hr ls H locs hl hP hS => lv_if_gt hX.1.1 hX.1.2.1 hd ht (fun h => kt r (by rw [if_pos h] at hr; exact hr) ls H locs hl hP hS) (fun h => kf r (by rw [if_neg h] at hr; exact hr) ls H locs hl hP hS)
theorem z_icmp_gt (hX : z_Cx M V cc nL ret Ts own) {x y : Int32} {off : Int} {tgt : Nat} (hd : decode cc pc = .ok (.if_icmp .gt off, 3)) (ht : (pc : Int) + off = (tgt : Int)) (kt : z_Go M R nL V Qr σ tgt lv st T1) (kf : z_Go M R nL V Qr σ (pc + 3) lv st T2) : z_Go M R nL V Qr σ pc lv (.int y :: .int x :: st) (if y < x then T1 else T2) := fun r hr ls H locs hl hP hS => lv_icmp_gt hX.1.1 hX.1.2.1 hd ht (fun h => kt r (by rw [if_pos h] at hr; exact hr) ls H locs hl hP hS) (fun h => kf r (by rw [if_neg h] at hr; exact hr) ls H locs hl hP hS)
theorem z_if_le (hX : z_Cx M V cc nL ret Ts own) {x : Int32} {off : Int} {tgt : Nat} (hd : decode cc pc = .ok (.ifCond .le off, 3)) (ht : (pc : Int) + off = (tgt : Int)) (kt : z_Go M R nL V Qr σ tgt lv st T1) (kf : z_Go M R nL V Qr σ (pc + 3) lv st T2) : z_Go M R nL V Qr σ pc lv (.int x :: st) (if x ≤ 0 then T1 else T2) := fun r hr ls H locs hl hP hS => lv_if_le hX.1.1 hX.1.2.1 hd ht (fun h => kt r (by rw [if_pos h] at hr; exact hr) ls H locs hl hP hS) (fun h => kf r (by rw [if_neg h] at hr; exact hr) ls H locs hl hP hS)
theorem z_icmp_le (hX : z_Cx M V cc nL ret Ts own) {x y : Int32} {off : Int} {tgt : Nat} (hd : decode cc pc = .ok (.if_icmp .le off, 3)) (ht : (pc : Int) + off = (tgt : Int)) (kt : z_Go M R nL V Qr σ tgt lv st T1) (kf : z_Go M R nL V Qr σ (pc + 3) lv st T2) : z_Go M R nL V Qr σ pc lv (.int y :: .int x :: st) (if x ≤ y then T1 else T2) := fun r hr ls H locs hl hP hS => lv_icmp_le hX.1.1 hX.1.2.1 hd ht (fun h => kt r (by rw [if_pos h] at hr; exact hr) ls H locs hl hP hS) (fun h => kf r (by rw [if_neg h] at hr; exact hr) ls H locs hl hP hS)
theorem z_case {c : Prop} {hc : Decidable c} (kt : c → z_Go M R nL V Qr σ pc lv st T1) (kf : ¬ c → z_Go M R nL V Qr σ pc lv st T2) : z_Go M R nL V Qr σ pc lv st (if c then T1 else T2) := fun r hr ls H locs hl hP hS => by
  by_cases h : c
  · exact kt h r (by rw [if_pos h] at hr; exact hr) ls H locs hl hP hS
  · exact kf h r (by rw [if_neg h] at hr; exact hr) ls H locs hl hP hS
theorem z_tabIn (hX : z_Cx M V cc nL ret Ts own) {dflt lo hi : Int} {offs : Array Int} {len : Nat} {x : Int32} {off : Int} {tgt : Nat} (hd : decode cc pc = .ok (.tableswitch dflt lo hi offs, len)) (v : Int32) (hv : x = v) (h1 : ¬ v.toInt < lo) (h2 : ¬ hi < v.toInt) (ho : offs[(v.toInt - lo).toNat]? = some off) (ht : (pc : Int) + off = (tgt : Int)) (kk : z_Go M R nL V Qr σ tgt lv st T) : z_Go M R nL V Qr σ pc lv (.int x :: st) T := fun r hr ls H locs hl hP hS => by
  subst hv
  exact lv_tableIn hX.1.1 hX.1.2.1 hd h1 h2 ho ht (kk r hr ls H locs hl hP hS)
theorem z_tabOut (hX : z_Cx M V cc nL ret Ts own) {dflt lo hi : Int} {offs : Array Int} {len : Nat} {x : Int32} {tgt : Nat} (hd : decode cc pc = .ok (.tableswitch dflt lo hi offs, len)) (h : x.toInt < lo ∨ hi < x.toInt) (ht : (pc : Int) + dflt = (tgt : Int)) (kk : z_Go M R nL V Qr σ tgt lv st T) : z_Go M R nL V Qr σ pc lv (.int x :: st) T := fun r hr ls H locs hl hP hS => lv_tableOut hX.1.1 hX.1.2.1 hd h ht (kk r hr ls H locs hl hP hS)
theorem z_look (hX : z_Cx M V cc nL ret Ts own) {dflt : Int} {ps : Array (Int × Int)} {len : Nat} {x : Int32} {off : Int} {tgt : Nat} (hd : decode cc pc = .ok (.lookupswitch dflt ps, len)) (hp : (ps.toList.zip (ps.toList.drop 1)).all (fun (a, next) => a.1 < next.1) = true) (ho : Op.lookupswitch.offset ps.toList dflt x.toInt = off) (ht : (pc : Int) + off = (tgt : Int)) (kk : z_Go M R nL V Qr σ tgt lv st T) : z_Go M R nL V Qr σ pc lv (.int x :: st) T := fun r hr ls H locs hl hP hS => lv_lookup hX.1.1 hX.1.2.1 hd hp ho ht (kk r hr ls H locs hl hP hS)
theorem z_ldc (hX : z_Cx M V cc nL ret Ts own) {index : Nat} {v : Int32} (hk : Cond.constant own index v ∈ Ts) (hd : decode cc pc = .ok (.ldc index, 2)) (kk : z_Go M R nL V Qr σ (pc + 2) lv (.int v :: st) T) : z_Go M R nL V Qr σ pc lv st T := fun r hr ls H locs hl hP hS => lv_ldc hX.1.1 hX.1.2.1 hX.1.2.2.2.1 (hX.1.2.2.2.2 _ hk) hd (kk r hr ls H locs hl hP hS)
theorem z_ldcw (hX : z_Cx M V cc nL ret Ts own) {index : Nat} {v : Int32} (hk : Cond.constant own index v ∈ Ts) (hd : decode cc pc = .ok (.ldc_w index, 3)) (kk : z_Go M R nL V Qr σ (pc + 3) lv (.int v :: st) T) : z_Go M R nL V Qr σ pc lv st T := fun r hr ls H locs hl hP hS => lv_ldcw hX.1.1 hX.1.2.1 hX.1.2.2.2.1 (hX.1.2.2.2.2 _ hk) hd (kk r hr ls H locs hl hP hS)
theorem z_ldc2 (hX : z_Cx M V cc nL ret Ts own) {index : Nat} {v : Int64} (hk : Cond.constantLong own index v ∈ Ts) (hd : decode cc pc = .ok (.ldc2_w index, 3)) (kk : z_Go M R nL V Qr σ (pc + 3) lv (.long v :: st) T) : z_Go M R nL V Qr σ pc lv st T := fun r hr ls H locs hl hP hS => lv_ldc2 hX.1.1 hX.1.2.1 hX.1.2.2.2.1 (hX.1.2.2.2.2 _ hk) hd (kk r hr ls H locs hl hP hS)
theorem z_getI (hX : z_Cx M V cc nL ret Ts own) {b ci k N index : Nat} {fk : List (Option Nat)} {C : String} {T0 : u_T} (hsh : (z_sh V)[b]? = some (.inl (ci, fk))) (hcl : vwCl[ci]? = some (C, T0, N)) (hfk : fk[k]? = some none) (hin : ∀ w ∈ u_ws C T0 N, w ∈ Ts) (hk : k < N) (hlink : Cond.fieldLink own index (T0 k).1 (T0 k).2.1 (T0 k).2.2.1 ∈ Ts) (hd : decode cc pc = .ok (.getfield index, 3)) (kk : z_Go M R nL V Qr σ (pc + 3) lv (.int (σ b k) :: st) T) : z_Go M R nL V Qr σ pc lv (.ref (z_ad V b) :: st) T := fun r hr ls H locs hl hP hS => by
  have e : (z_fs (z_ad V) (σ b) 0 fk)[k]? = some (.int (σ b k)) := by
    have e1 := z_fs_int (z_ad V) (σ b) fk 0 k hfk
    rw [Nat.zero_add] at e1
    exact e1
  exact va_get hX.1.1 hX.1.2.1 hX.1.2.2.2.2 hin hX.1.2.2.2.1 hX.2.2.2.1 hP b (z_at σ hsh) hcl k hk (hX.1.2.2.2.2 _ hlink) (fun _ h => h) e hd (kk r hr ls H locs hl hP hS)
theorem z_getR (hX : z_Cx M V cc nL ret Ts own) {b ci k N index : Nat} {fk : List (Option Nat)} {C : String} {T0 : u_T} (hsh : (z_sh V)[b]? = some (.inl (ci, fk))) (hcl : vwCl[ci]? = some (C, T0, N)) {d : Nat} (hfk : fk[k]? = some (some d)) (hin : ∀ w ∈ u_ws C T0 N, w ∈ Ts) (hk : k < N) (hlink : Cond.fieldLink own index (T0 k).1 (T0 k).2.1 (T0 k).2.2.1 ∈ Ts) (hd : decode cc pc = .ok (.getfield index, 3)) (kk : z_Go M R nL V Qr σ (pc + 3) lv (.ref (z_ad V d) :: st) T) : z_Go M R nL V Qr σ pc lv (.ref (z_ad V b) :: st) T := fun r hr ls H locs hl hP hS => va_get hX.1.1 hX.1.2.1 hX.1.2.2.2.2 hin hX.1.2.2.2.1 hX.2.2.2.1 hP b (z_at σ hsh) hcl k hk (hX.1.2.2.2.2 _ hlink) (fun _ h => h) (z_fs_ref (z_ad V) (σ b) fk 0 k hfk) hd (kk r hr ls H locs hl hP hS)
theorem z_put1 (hX : z_Cx M V cc nL ret Ts own) {b ci k N index : Nat} {fk : List (Option Nat)} {C : String} {T0 : u_T} (hsh : (z_sh V)[b]? = some (.inl (ci, fk))) (hcl : vwCl[ci]? = some (C, T0, N)) (hfk : fk[k]? = some none) (hin : ∀ w ∈ u_ws C T0 N, w ∈ Ts) (hk : k < N) (hlink : Cond.fieldLink own index (T0 k).1 (T0 k).2.1 (T0 k).2.2.1 ∈ Ts) (ty0 : Nat → FieldType) (hty : ∀ k, k < N → parseFieldDescriptor (T0 k).2.2.1 = some (ty0 k)) (hnm : ∀ a, a < N → ∀ b, b < N → a ≠ b → (T0 a).2.1 ≠ (T0 b).2.1) (hfin : (T0 k).2.2.2 = false) {v : Int32} (hn : narrow (ty0 k) (.int v) = .int v) (hfit : fits (ty0 k) (.int v) = true) (hd : decode cc pc = .ok (.putfield index, 3)) (kk : z_Go M R nL V Qr (z_put σ b k v) (pc + 3) lv st T) : z_Go M R nL V Qr σ pc lv (.int v :: .ref (z_ad V b) :: st) T := fun r hr ls H locs hl hP hS => by
  have hlen : k < (z_fs (z_ad V) (σ b) 0 fk).length := by
    rw [z_fs_len]; exact (List.getElem?_eq_some_iff.mp hfk).1
  refine va_put (ty := ty0 k) hX.1.1 hX.1.2.1 hX.1.2.2.2.2 hin ty0 hty hnm hX.1.2.2.2.1 hX.2.2.2.1 hP (z_dis hX.2.2.2.2.2 σ) hS b (z_at σ hsh) hcl k hk (hX.1.2.2.2.2 _ hlink) (fun _ h => h) hfin (hty k hk) hn hfit hlen hd (fun H1 locs1 hP1 hD1 hS1 => ?_)
  refine kk r hr ls H1 locs1 hl ?_ hS1
  have e1 := z_fs_set (z_ad V) (σ b) v fk 0 k hfk
  rw [Nat.zero_add] at e1
  rw [e1] at hP1
  exact (z_set σ hsh (upd (σ b) k v)) ▸ hP1
theorem z_iald (hX : z_Cx M V cc nL ret Ts own) {b n : Nat} (hsh : (z_sh V)[b]? = some (.inr (.inl (0, n)))) {i : Int32} (hd : decode cc pc = .ok (.iaload, 1)) (kk : z_Go M R nL V Qr σ (pc + 1) lv (.int (σ b i.toNatClampNeg) :: st) T) : z_Go M R nL V Qr σ pc lv (.int i :: .ref (z_ad V b) :: st) (z_gd i n T) := fun r hr ls H locs hl hP hS => va_iald hX.1.1 hX.1.2.1 hX.2.2.2.1 hP b 0 (z_at σ hsh) rfl (z_gd_some hr).1 hd (kk r (z_gd_some hr).2 ls H locs hl hP hS)
theorem z_ialdc (hX : z_Cx M V cc nL ret Ts own) {b n : Nat} (hsh : (z_sh V)[b]? = some (.inr (.inl (0, n)))) {i : Int32} {j : Nat} (hi : z_li i n j) (hd : decode cc pc = .ok (.iaload, 1)) (kk : z_Go M R nL V Qr σ (pc + 1) lv (.int (σ b j) :: st) T) : z_Go M R nL V Qr σ pc lv (.int i :: .ref (z_ad V b) :: st) T := fun r hr ls H locs hl hP hS => va_iald hX.1.1 hX.1.2.1 hX.2.2.2.1 hP b 0 (z_at σ hsh) rfl hi.1 hd (by rw [hi.2]; exact kk r hr ls H locs hl hP hS)
theorem z_bald (hX : z_Cx M V cc nL ret Ts own) {b n : Nat} (hsh : (z_sh V)[b]? = some (.inr (.inl (1, n)))) {i : Int32} (hd : decode cc pc = .ok (.baload, 1)) (kk : z_Go M R nL V Qr σ (pc + 1) lv (.int (σ b i.toNatClampNeg) :: st) T) : z_Go M R nL V Qr σ pc lv (.int i :: .ref (z_ad V b) :: st) (z_gd i n T) := fun r hr ls H locs hl hP hS => va_bald hX.1.1 hX.1.2.1 hX.2.2.2.1 hP b 1 (z_at σ hsh) rfl (z_gd_some hr).1 hd (kk r (z_gd_some hr).2 ls H locs hl hP hS)
theorem z_baldc (hX : z_Cx M V cc nL ret Ts own) {b n : Nat} (hsh : (z_sh V)[b]? = some (.inr (.inl (1, n)))) {i : Int32} {j : Nat} (hi : z_li i n j) (hd : decode cc pc = .ok (.baload, 1)) (kk : z_Go M R nL V Qr σ (pc + 1) lv (.int (σ b j) :: st) T) : z_Go M R nL V Qr σ pc lv (.int i :: .ref (z_ad V b) :: st) T := fun r hr ls H locs hl hP hS => va_bald hX.1.1 hX.1.2.1 hX.2.2.2.1 hP b 1 (z_at σ hsh) rfl hi.1 hd (by rw [hi.2]; exact kk r hr ls H locs hl hP hS)
theorem z_zald (hX : z_Cx M V cc nL ret Ts own) {b n : Nat} (hsh : (z_sh V)[b]? = some (.inr (.inl (2, n)))) {i : Int32} (hd : decode cc pc = .ok (.baload, 1)) (kk : z_Go M R nL V Qr σ (pc + 1) lv (.int (σ b i.toNatClampNeg) :: st) T) : z_Go M R nL V Qr σ pc lv (.int i :: .ref (z_ad V b) :: st) (z_gd i n T) := fun r hr ls H locs hl hP hS => va_zald hX.1.1 hX.1.2.1 hX.2.2.2.1 hP b 2 (z_at σ hsh) rfl (z_gd_some hr).1 hd (kk r (z_gd_some hr).2 ls H locs hl hP hS)
theorem z_zaldc (hX : z_Cx M V cc nL ret Ts own) {b n : Nat} (hsh : (z_sh V)[b]? = some (.inr (.inl (2, n)))) {i : Int32} {j : Nat} (hi : z_li i n j) (hd : decode cc pc = .ok (.baload, 1)) (kk : z_Go M R nL V Qr σ (pc + 1) lv (.int (σ b j) :: st) T) : z_Go M R nL V Qr σ pc lv (.int i :: .ref (z_ad V b) :: st) T := fun r hr ls H locs hl hP hS => va_zald hX.1.1 hX.1.2.1 hX.2.2.2.1 hP b 2 (z_at σ hsh) rfl hi.1 hd (by rw [hi.2]; exact kk r hr ls H locs hl hP hS)
theorem z_iast (hX : z_Cx M V cc nL ret Ts own) {b n : Nat} (hsh : (z_sh V)[b]? = some (.inr (.inl (0, n)))) {i x : Int32} (hd : decode cc pc = .ok (.iastore, 1)) (kk : z_Go M R nL V Qr (z_put σ b i.toNatClampNeg x) (pc + 1) lv st T) : z_Go M R nL V Qr σ pc lv (.int x :: .int i :: .ref (z_ad V b) :: st) (z_gd i n T) := fun r hr ls H locs hl hP hS => va_iast hX.1.1 hX.1.2.1 hX.2.2.2.1 hP (z_dis hX.2.2.2.2.2 σ) hS b 0 (z_at σ hsh) rfl (z_gd_some hr).1 hd (fun H1 locs1 hP1 hD1 hS1 => kk r (z_gd_some hr).2 ls H1 locs1 hl ((z_set σ hsh (upd (σ b) i.toNatClampNeg x)) ▸ hP1) hS1)
theorem z_iastc (hX : z_Cx M V cc nL ret Ts own) {b n : Nat} (hsh : (z_sh V)[b]? = some (.inr (.inl (0, n)))) {i x : Int32} {j : Nat} (hi : z_li i n j) (hd : decode cc pc = .ok (.iastore, 1)) (kk : z_Go M R nL V Qr (z_put σ b j x) (pc + 1) lv st T) : z_Go M R nL V Qr σ pc lv (.int x :: .int i :: .ref (z_ad V b) :: st) T := fun r hr ls H locs hl hP hS => va_iast hX.1.1 hX.1.2.1 hX.2.2.2.1 hP (z_dis hX.2.2.2.2.2 σ) hS b 0 (z_at σ hsh) rfl hi.1 hd (fun H1 locs1 hP1 hD1 hS1 => by
  rw [hi.2] at hP1
  exact kk r hr ls H1 locs1 hl ((z_set σ hsh (upd (σ b) j x)) ▸ hP1) hS1)
theorem z_bast (hX : z_Cx M V cc nL ret Ts own) {b n : Nat} (hsh : (z_sh V)[b]? = some (.inr (.inl (1, n)))) {i x : Int32} (hd : decode cc pc = .ok (.bastore, 1)) (kk : z_Go M R nL V Qr (z_put σ b i.toNatClampNeg (vp_nar .byte x)) (pc + 1) lv st T) : z_Go M R nL V Qr σ pc lv (.int x :: .int i :: .ref (z_ad V b) :: st) (z_gd i n T) := fun r hr ls H locs hl hP hS => va_bast hX.1.1 hX.1.2.1 hX.2.2.2.1 hP (z_dis hX.2.2.2.2.2 σ) hS b 1 (z_at σ hsh) rfl (z_gd_some hr).1 hd (fun H1 locs1 hP1 hD1 hS1 => kk r (z_gd_some hr).2 ls H1 locs1 hl ((z_set σ hsh (upd (σ b) i.toNatClampNeg (vp_nar .byte x))) ▸ hP1) hS1)
theorem z_bastc (hX : z_Cx M V cc nL ret Ts own) {b n : Nat} (hsh : (z_sh V)[b]? = some (.inr (.inl (1, n)))) {i x : Int32} {j : Nat} (hi : z_li i n j) (hd : decode cc pc = .ok (.bastore, 1)) (kk : z_Go M R nL V Qr (z_put σ b j (vp_nar .byte x)) (pc + 1) lv st T) : z_Go M R nL V Qr σ pc lv (.int x :: .int i :: .ref (z_ad V b) :: st) T := fun r hr ls H locs hl hP hS => va_bast hX.1.1 hX.1.2.1 hX.2.2.2.1 hP (z_dis hX.2.2.2.2.2 σ) hS b 1 (z_at σ hsh) rfl hi.1 hd (fun H1 locs1 hP1 hD1 hS1 => by
  rw [hi.2] at hP1
  exact kk r hr ls H1 locs1 hl ((z_set σ hsh (upd (σ b) j (vp_nar .byte x))) ▸ hP1) hS1)
theorem z_zast (hX : z_Cx M V cc nL ret Ts own) {b n : Nat} (hsh : (z_sh V)[b]? = some (.inr (.inl (2, n)))) {i x : Int32} (hd : decode cc pc = .ok (.bastore, 1)) (kk : z_Go M R nL V Qr (z_put σ b i.toNatClampNeg (vp_nar .boolean x)) (pc + 1) lv st T) : z_Go M R nL V Qr σ pc lv (.int x :: .int i :: .ref (z_ad V b) :: st) (z_gd i n T) := fun r hr ls H locs hl hP hS => va_zast hX.1.1 hX.1.2.1 hX.2.2.2.1 hP (z_dis hX.2.2.2.2.2 σ) hS b 2 (z_at σ hsh) rfl (z_gd_some hr).1 hd (fun H1 locs1 hP1 hD1 hS1 => kk r (z_gd_some hr).2 ls H1 locs1 hl ((z_set σ hsh (upd (σ b) i.toNatClampNeg (vp_nar .boolean x))) ▸ hP1) hS1)
theorem z_zastc (hX : z_Cx M V cc nL ret Ts own) {b n : Nat} (hsh : (z_sh V)[b]? = some (.inr (.inl (2, n)))) {i x : Int32} {j : Nat} (hi : z_li i n j) (hd : decode cc pc = .ok (.bastore, 1)) (kk : z_Go M R nL V Qr (z_put σ b j (vp_nar .boolean x)) (pc + 1) lv st T) : z_Go M R nL V Qr σ pc lv (.int x :: .int i :: .ref (z_ad V b) :: st) T := fun r hr ls H locs hl hP hS => va_zast hX.1.1 hX.1.2.1 hX.2.2.2.1 hP (z_dis hX.2.2.2.2.2 σ) hS b 2 (z_at σ hsh) rfl hi.1 hd (fun H1 locs1 hP1 hD1 hS1 => by
  rw [hi.2] at hP1
  exact kk r hr ls H1 locs1 hl ((z_set σ hsh (upd (σ b) j (vp_nar .boolean x))) ▸ hP1) hS1)
theorem z_alen (hX : z_Cx M V cc nL ret Ts own) {b n : Nat} (hsh : (z_sh V)[b]? = some (.inr (.inl (0, n)))) {v : Int32} (hv : Int32.ofNat n = v) (hd : decode cc pc = .ok (.arraylength, 1)) (kk : z_Go M R nL V Qr σ (pc + 1) lv (.int v :: st) T) : z_Go M R nL V Qr σ pc lv (.ref (z_ad V b) :: st) T := fun r hr ls H locs hl hP hS => va_alen hX.1.1 hX.1.2.1 hX.2.2.2.1 hP b 0 (z_at σ hsh) rfl hv hd (kk r hr ls H locs hl hP hS)
theorem z_aald3 (hX : z_Cx M V cc nL ret Ts own) {b n : Nat} {ds : List Nat} (hsh : (z_sh V)[b]? = some (.inr (.inr (3, ds)))) (hn : ds.length = n) {i : Int32} (d : Nat) (hdd : vp_in i n → ds[i.toNatClampNeg]? = some d) (hd : decode cc pc = .ok (.aaload, 1)) (kk : z_Go M R nL V Qr σ (pc + 1) lv (.ref (z_ad V d) :: st) T) : z_Go M R nL V Qr σ pc lv (.int i :: .ref (z_ad V b) :: st) (z_gd i n T) := fun r hr ls H locs hl hP hS => by
  subst hn
  refine va_aldq hX.1.1 hX.1.2.1 hX.2.2.2.1 hP b 3 (z_at σ hsh) rfl (z_gd_some hr).1 hd ?_
  have e : va_rf ((ds[i.toNatClampNeg]?).map (z_ad V)) = Value.ref (z_ad V d) := by rw [hdd (z_gd_some hr).1]; rfl
  show W _ _ _ _ _ _ _ _ _ _ _ _ _ _ _ (F0 _ _ _ (va_rf ((ds[i.toNatClampNeg]?).map (z_ad V)) :: st))
  rw [e]
  exact kk r (z_gd_some hr).2 ls H locs hl hP hS
theorem z_aald4 (hX : z_Cx M V cc nL ret Ts own) {b n : Nat} {ds : List Nat} (hsh : (z_sh V)[b]? = some (.inr (.inr (4, ds)))) (hn : ds.length = n) {i : Int32} (d : Nat) (hdd : vp_in i n → ds[i.toNatClampNeg]? = some d) (hd : decode cc pc = .ok (.aaload, 1)) (kk : z_Go M R nL V Qr σ (pc + 1) lv (.ref (z_ad V d) :: st) T) : z_Go M R nL V Qr σ pc lv (.int i :: .ref (z_ad V b) :: st) (z_gd i n T) := fun r hr ls H locs hl hP hS => by
  subst hn
  refine va_aldq hX.1.1 hX.1.2.1 hX.2.2.2.1 hP b 4 (z_at σ hsh) rfl (z_gd_some hr).1 hd ?_
  have e : va_rf ((ds[i.toNatClampNeg]?).map (z_ad V)) = Value.ref (z_ad V d) := by rw [hdd (z_gd_some hr).1]; rfl
  show W _ _ _ _ _ _ _ _ _ _ _ _ _ _ _ (F0 _ _ _ (va_rf ((ds[i.toNatClampNeg]?).map (z_ad V)) :: st))
  rw [e]
  exact kk r (z_gd_some hr).2 ls H locs hl hP hS
theorem z_iret (hX : z_Cx M V cc nL (some .int) Ts own) {v : Int32} (hd : decode cc pc = .ok (.ireturn, 1)) : z_Go M R nL V (z_QI V) σ pc lv [.int v] (some (v, σ)) := fun r hr ls H locs hl hP hS => W.iret hX.1.1 hX.1.2.1 hX.2.1 (fun t ht hW => ⟨⟨v, σ, rfl, ⟨by rw [← Option.some.inj hr], by rw [← Option.some.inj hr]⟩, show va_P V.1 vwCl (z_W V σ) t.heap by rw [ht]; exact hP⟩, hS.F ht⟩) hS.2.2 hd hX.2.2.1
theorem z_zret (hX : z_Cx M V cc nL (some .boolean) Ts own) {v : Int32} (hd : decode cc pc = .ok (.ireturn, 1)) (hn : narrow .boolean (.int v) = .int v) : z_Go M R nL V (z_QI V) σ pc lv [.int v] (some (v, σ)) := fun r hr ls H locs hl hP hS => W.zret hX.1.1 hX.1.2.1 hX.2.1 hn (fun t ht hW => ⟨⟨v, σ, rfl, ⟨by rw [← Option.some.inj hr], by rw [← Option.some.inj hr]⟩, show va_P V.1 vwCl (z_W V σ) t.heap by rw [ht]; exact hP⟩, hS.F ht⟩) hS.2.2 hd hX.2.2.1
theorem z_zretv (hX : z_Cx M V cc nL (some .boolean) Ts own) {v : Int32} (hd : decode cc pc = .ok (.ireturn, 1)) : z_Go M R nL V (z_QI V) σ pc lv [.int v] (z_tf v (some (v, σ))) := fun r hr ls H locs hl hP hS => z_zret hX hd (by rcases (z_tf_some hr).1 with h | h <;> (rw [h]; decide)) r (z_tf_some hr).2 ls H locs hl hP hS
theorem z_vret (hX : z_Cx M V cc nL none Ts own) (hd : decode cc pc = .ok (.return_, 1)) : z_Go M R nL V (z_QV V) σ pc lv [] (some (0, σ)) := fun r hr ls H locs hl hP hS => W.vret hX.1.1 hX.1.2.1 hX.2.1 (fun t ht hW => ⟨⟨σ, rfl, by rw [← Option.some.inj hr], show va_P V.1 vwCl (z_W V σ) t.heap by rw [ht]; exact hP⟩, hS.F ht⟩) hS.2.2 hd hX.2.2.1
theorem z_blind (hV : z_ok V) (vs : List Value) (σ : z_St) : FrameBlind (va_Pc vs (z_B V σ)) := fun a U g mk q => ⟨q.1, q.2.1, va_K.moved (u := U) (U := U.calling g mk a) (Vm.Alike.refl U.vm) q.2.2.1, hV.2.1 U g mk a q.2.2.2⟩
theorem z_pre (hX : z_Cx M V cc nL ret Ts own) {H : Heap} {locs : List Loc} (hP : va_P V.1 vwCl (z_W V σ) H) (hS : va_S (z_A V) M.2.2.2.1.heap H locs) (vs : List Value) : ∀ U : State, U.heap = H → M.2.2.2.1.WarmedH U.vm → va_Pc vs (z_B V σ) vs.toArray U := fun U hU hW => ⟨rfl, by rw [hU]; exact hP, va_K.moved hW.alike hX.2.2.2.1, hX.2.2.2.2.2.2.2 _ U H locs hX.2.2.2.2.1 hS hU hW⟩
theorem z_callVI (hX : z_Cx M V cc nL ret Ts own) {y : MethodName} {bytes : ByteArray} {maxL index n b ci : Nat} {rt : Option FieldType} {ws ws' : List Cond} {rm : Room} {C : String} {fk : List (Option Nat)} {q : vw_C} {As rest stk : List Value} {T1 : Option (Int32 × z_St)} {g : Int32 × z_St → Option (Int32 × z_St)} (hc : z_CtI M.2.1 V y ws rm (.ref (z_ad V b) :: As) σ T1) (hG : GoodIn Ts (wsV own index C y ws)) (hw : ws = Cond.code y bytes maxL rt :: ws') (hd : y.cls = C ∧ y.cls ≠ "java/lang/invoke/MethodHandle" ∧ y.cls ≠ "java/lang/invoke/VarHandle" ∧ (parseMethodDescriptor y.desc).map (fun d => d.parameters.length) = some n) (hR : rm.frames + 1 ≤ R.frames ∧ 8 + (maxL + 11) + rm.locals ≤ R.locals) (hrc : rm.cells = 0) (hrs : rm.slots = 0) (hsh : (z_sh V)[b]? = some (.inl (ci, fk))) (hcl : vwCl[ci]? = some q) (hq : q.1 = C) (hn : As.length = n) (hstk : stk = As.reverse ++ .ref (z_ad V b) :: rest) (hrest : (rest.map fun v => v.category).sum ≤ 8) (hdg : decode cc pc = .ok (.invokevirtual index, 3)) (kk : ∀ r : Int32 × z_St, z_Go M R nL V Qr r.2 (pc + 3) lv (.int r.1 :: rest) (g r)) : z_Go M R nL V Qr σ pc lv stk (T1.bind g) := fun r hr ls H locs hl hP hS => by
  obtain ⟨r1, hr1, hr2⟩ := z_bind_some hr
  subst hq
  have hcw := cwV (R := R) n hX.1.2.2.2.2 hG hw hrc hrs hd hR
  refine va_calli (va_runV (As := As) (rest := rest) hX.1 (hc r1 hr1) hcw ⟨z_blind hX.2.2.2.2.2 _ σ, va_recv hX.2.2.2.1 hP hcl (z_at σ hsh), z_pre hX hP hS _⟩ rfl hn hl.1 hstk (lv_room hrest) hdg ⟨Nat.zero_le _, Nat.zero_le _⟩) hS (fun q _ h => h) (fun q h => h) (fun v u t H1 locs1 ht hvm hw hB hz1 hk1 hS1 => by
    obtain ⟨rfl, rfl⟩ := hw
    rw [ht] at hB
    exact kk r1 r hr2 ls H1 locs1 hl hB hS1)
theorem z_callSI (hX : z_Cx M V cc nL ret Ts own) {y : MethodName} {bytes : ByteArray} {maxL index n : Nat} {rt : Option FieldType} {ws ws' : List Cond} {rm : Room} {As rest stk : List Value} {T1 : Option (Int32 × z_St)} {g : Int32 × z_St → Option (Int32 × z_St)} (hc : z_CtI M.2.1 V y ws rm As σ T1) (hG : GoodIn Ts (va_wsS own index y ws)) (hw : ws = Cond.code y bytes maxL rt :: ws') (hd : y.cls ≠ "java/lang/invoke/MethodHandle" ∧ y.cls ≠ "java/lang/invoke/VarHandle" ∧ (parseMethodDescriptor y.desc).map (fun d => d.parameters.length) = some n) (hR : rm.frames + 1 ≤ R.frames ∧ 8 + (maxL + 11) + rm.locals ≤ R.locals) (hrc : rm.cells = 0) (hrs : rm.slots = 0) (hn : As.length = n) (hstk : stk = As.reverse ++ rest) (hrest : (rest.map fun v => v.category).sum ≤ 8) (hdg : decode cc pc = .ok (.invokestatic index, 3)) (kk : ∀ r : Int32 × z_St, z_Go M R nL V Qr r.2 (pc + 3) lv (.int r.1 :: rest) (g r)) : z_Go M R nL V Qr σ pc lv stk (T1.bind g) := fun r hr ls H locs hl hP hS => by
  obtain ⟨r1, hr1, hr2⟩ := z_bind_some hr
  have ok : ∀ w ∈ va_wsS own index y ws, w.before M.2.2.2.2.2.1 M.2.2.2.1 = true := fun w h => hX.1.2.2.2.2 w (hG w h).1
  have hcb := callB_of (R := R) (own := own) (index := index) n hX.1.2.2.2.2 (fun w h => hG w (by unfold va_wsS; exact List.mem_append_right _ h)) hw hrc hrs (ok _ (by simp [va_wsS])) (ok _ (by simp [va_wsS])) hd hR
  refine va_calli (va_runS (As := As) (rest := rest) hX.1 (hc r1 hr1) ⟨hcb, ok _ (by simp [va_wsS])⟩ ⟨z_blind hX.2.2.2.2.2 _ σ, z_pre hX hP hS _⟩ rfl hn hl.1 hstk (lv_room hrest) hdg ⟨Nat.zero_le _, Nat.zero_le _⟩) hS (fun q _ h => h) (fun q h => h) (fun v u t H1 locs1 ht hvm hw hB hz1 hk1 hS1 => by
    obtain ⟨rfl, rfl⟩ := hw
    rw [ht] at hB
    exact kk r1 r hr2 ls H1 locs1 hl hB hS1)
theorem z_callNI (hX : z_Cx M V cc nL ret Ts own) {y : MethodName} {bytes : ByteArray} {maxL index n : Nat} {rt : Option FieldType} {ws ws' : List Cond} {rm : Room} {host : String} {As rest stk : List Value} {T1 : Option (Int32 × z_St)} {g : Int32 × z_St → Option (Int32 × z_St)} (hc : z_CtI M.2.1 V y ws rm As σ T1) (hG : GoodIn Ts ws) (hw : ws = Cond.code y bytes maxL rt :: ws') (hnw : va_Nw (.methodLinkNest own index y host) M.2.2.2.1) (hini : Cond.initialized y.cls ∈ Ts) (hst : Cond.static y ∈ Ts) (hd : y.cls ≠ "java/lang/invoke/MethodHandle" ∧ y.cls ≠ "java/lang/invoke/VarHandle" ∧ (parseMethodDescriptor y.desc).map (fun d => d.parameters.length) = some n) (hR : rm.frames + 1 ≤ R.frames ∧ 8 + (maxL + 11) + rm.locals ≤ R.locals) (hrc : rm.cells = 0) (hrs : rm.slots = 0) (hn : As.length = n) (hstk : stk = As.reverse ++ rest) (hrest : (rest.map fun v => v.category).sum ≤ 8) (hdg : decode cc pc = .ok (.invokestatic index, 3)) (kk : ∀ r : Int32 × z_St, z_Go M R nL V Qr r.2 (pc + 3) lv (.int r.1 :: rest) (g r)) : z_Go M R nL V Qr σ pc lv stk (T1.bind g) := fun r hr ls H locs hl hP hS => by
  obtain ⟨r1, hr1, hr2⟩ := z_bind_some hr
  have hcb := va_cnB (R := R) (host := host) (own := own) (index := index) n hX.1.2.2.2.2 hG hw hrc hrs hnw (hX.1.2.2.2.2 _ hini) hd hR
  refine va_calli (va_runSN (As := As) (rest := rest) hX.1 (hc r1 hr1) ⟨hcb, hX.1.2.2.2.2 _ hst, trivial⟩ ⟨z_blind hX.2.2.2.2.2 _ σ, z_pre hX hP hS _⟩ rfl hn hl.1 hstk (lv_room hrest) hdg ⟨Nat.zero_le _, Nat.zero_le _⟩) hS (fun q _ h => h) (fun q h => h) (fun v u t H1 locs1 ht hvm hw hB hz1 hk1 hS1 => by
    obtain ⟨rfl, rfl⟩ := hw
    rw [ht] at hB
    exact kk r1 r hr2 ls H1 locs1 hl hB hS1)
theorem z_callVV (hX : z_Cx M V cc nL ret Ts own) {y : MethodName} {bytes : ByteArray} {maxL index n b ci : Nat} {rt : Option FieldType} {ws ws' : List Cond} {rm : Room} {C : String} {fk : List (Option Nat)} {q : vw_C} {As rest stk : List Value} {T1 : Option (Int32 × z_St)} {g : Int32 × z_St → Option (Int32 × z_St)} (hc : z_CtV M.2.1 V y ws rm (.ref (z_ad V b) :: As) σ T1) (hG : GoodIn Ts (wsV own index C y ws)) (hw : ws = Cond.code y bytes maxL rt :: ws') (hd : y.cls = C ∧ y.cls ≠ "java/lang/invoke/MethodHandle" ∧ y.cls ≠ "java/lang/invoke/VarHandle" ∧ (parseMethodDescriptor y.desc).map (fun d => d.parameters.length) = some n) (hR : rm.frames + 1 ≤ R.frames ∧ 8 + (maxL + 11) + rm.locals ≤ R.locals) (hrc : rm.cells = 0) (hrs : rm.slots = 0) (hsh : (z_sh V)[b]? = some (.inl (ci, fk))) (hcl : vwCl[ci]? = some q) (hq : q.1 = C) (hn : As.length = n) (hstk : stk = As.reverse ++ .ref (z_ad V b) :: rest) (hrest : (rest.map fun v => v.category).sum ≤ 8) (hdg : decode cc pc = .ok (.invokevirtual index, 3)) (kk : ∀ r : Int32 × z_St, z_Go M R nL V Qr r.2 (pc + 3) lv rest (g r)) : z_Go M R nL V Qr σ pc lv stk (T1.bind g) := fun r hr ls H locs hl hP hS => by
  obtain ⟨r1, hr1, hr2⟩ := z_bind_some hr
  subst hq
  have hcw := cwV (R := R) n hX.1.2.2.2.2 hG hw hrc hrs hd hR
  refine va_callv (va_runV (As := As) (rest := rest) hX.1 (hc r1 hr1) hcw ⟨z_blind hX.2.2.2.2.2 _ σ, va_recv hX.2.2.2.1 hP hcl (z_at σ hsh), z_pre hX hP hS _⟩ rfl hn hl.1 hstk (lv_room hrest) hdg ⟨Nat.zero_le _, Nat.zero_le _⟩) hS (fun q _ h => h) (fun q h => h) (fun u t H1 locs1 ht hvm hw hB hz1 hk1 hS1 => by
    subst hw
    rw [ht] at hB
    exact kk r1 r hr2 ls H1 locs1 hl hB hS1)
theorem z_callSV (hX : z_Cx M V cc nL ret Ts own) {y : MethodName} {bytes : ByteArray} {maxL index n : Nat} {rt : Option FieldType} {ws ws' : List Cond} {rm : Room} {As rest stk : List Value} {T1 : Option (Int32 × z_St)} {g : Int32 × z_St → Option (Int32 × z_St)} (hc : z_CtV M.2.1 V y ws rm As σ T1) (hG : GoodIn Ts (va_wsS own index y ws)) (hw : ws = Cond.code y bytes maxL rt :: ws') (hd : y.cls ≠ "java/lang/invoke/MethodHandle" ∧ y.cls ≠ "java/lang/invoke/VarHandle" ∧ (parseMethodDescriptor y.desc).map (fun d => d.parameters.length) = some n) (hR : rm.frames + 1 ≤ R.frames ∧ 8 + (maxL + 11) + rm.locals ≤ R.locals) (hrc : rm.cells = 0) (hrs : rm.slots = 0) (hn : As.length = n) (hstk : stk = As.reverse ++ rest) (hrest : (rest.map fun v => v.category).sum ≤ 8) (hdg : decode cc pc = .ok (.invokestatic index, 3)) (kk : ∀ r : Int32 × z_St, z_Go M R nL V Qr r.2 (pc + 3) lv rest (g r)) : z_Go M R nL V Qr σ pc lv stk (T1.bind g) := fun r hr ls H locs hl hP hS => by
  obtain ⟨r1, hr1, hr2⟩ := z_bind_some hr
  have ok : ∀ w ∈ va_wsS own index y ws, w.before M.2.2.2.2.2.1 M.2.2.2.1 = true := fun w h => hX.1.2.2.2.2 w (hG w h).1
  have hcb := callB_of (R := R) (own := own) (index := index) n hX.1.2.2.2.2 (fun w h => hG w (by unfold va_wsS; exact List.mem_append_right _ h)) hw hrc hrs (ok _ (by simp [va_wsS])) (ok _ (by simp [va_wsS])) hd hR
  refine va_callv (va_runS (As := As) (rest := rest) hX.1 (hc r1 hr1) ⟨hcb, ok _ (by simp [va_wsS])⟩ ⟨z_blind hX.2.2.2.2.2 _ σ, z_pre hX hP hS _⟩ rfl hn hl.1 hstk (lv_room hrest) hdg ⟨Nat.zero_le _, Nat.zero_le _⟩) hS (fun q _ h => h) (fun q h => h) (fun u t H1 locs1 ht hvm hw hB hz1 hk1 hS1 => by
    subst hw
    rw [ht] at hB
    exact kk r1 r hr2 ls H1 locs1 hl hB hS1)
theorem z_callNV (hX : z_Cx M V cc nL ret Ts own) {y : MethodName} {bytes : ByteArray} {maxL index n : Nat} {rt : Option FieldType} {ws ws' : List Cond} {rm : Room} {host : String} {As rest stk : List Value} {T1 : Option (Int32 × z_St)} {g : Int32 × z_St → Option (Int32 × z_St)} (hc : z_CtV M.2.1 V y ws rm As σ T1) (hG : GoodIn Ts ws) (hw : ws = Cond.code y bytes maxL rt :: ws') (hnw : va_Nw (.methodLinkNest own index y host) M.2.2.2.1) (hini : Cond.initialized y.cls ∈ Ts) (hst : Cond.static y ∈ Ts) (hd : y.cls ≠ "java/lang/invoke/MethodHandle" ∧ y.cls ≠ "java/lang/invoke/VarHandle" ∧ (parseMethodDescriptor y.desc).map (fun d => d.parameters.length) = some n) (hR : rm.frames + 1 ≤ R.frames ∧ 8 + (maxL + 11) + rm.locals ≤ R.locals) (hrc : rm.cells = 0) (hrs : rm.slots = 0) (hn : As.length = n) (hstk : stk = As.reverse ++ rest) (hrest : (rest.map fun v => v.category).sum ≤ 8) (hdg : decode cc pc = .ok (.invokestatic index, 3)) (kk : ∀ r : Int32 × z_St, z_Go M R nL V Qr r.2 (pc + 3) lv rest (g r)) : z_Go M R nL V Qr σ pc lv stk (T1.bind g) := fun r hr ls H locs hl hP hS => by
  obtain ⟨r1, hr1, hr2⟩ := z_bind_some hr
  have hcb := va_cnB (R := R) (host := host) (own := own) (index := index) n hX.1.2.2.2.2 hG hw hrc hrs hnw (hX.1.2.2.2.2 _ hini) hd hR
  refine va_callv (va_runSN (As := As) (rest := rest) hX.1 (hc r1 hr1) ⟨hcb, hX.1.2.2.2.2 _ hst, trivial⟩ ⟨z_blind hX.2.2.2.2.2 _ σ, z_pre hX hP hS _⟩ rfl hn hl.1 hstk (lv_room hrest) hdg ⟨Nat.zero_le _, Nat.zero_le _⟩) hS (fun q _ h => h) (fun q h => h) (fun u t H1 locs1 ht hvm hw hB hz1 hk1 hS1 => by
    subst hw
    rw [ht] at hB
    exact kk r1 r hr2 ls H1 locs1 hl hB hS1)
theorem z_mmin (hX : z_Cx M V cc nL ret Ts own) {index : Nat} {x y : Int32} (hlink : Cond.methodLink own index Lib.Math.min.name ∈ Ts) (hstat : Cond.static Lib.Math.min.name ∈ Ts) (hini : Cond.initialized "java/lang/Math" ∈ Ts) (hcode : Cond.code Lib.Math.min.name Lib.Math.min.code 2 (some .int) ∈ Ts) (hfr : 1 ≤ R.frames) (hlo : (st.map fun v => v.category).sum + 13 ≤ R.locals) (hd : decode cc pc = .ok (.invokestatic index, 3)) (kk : z_Go M R nL V Qr σ (pc + 3) lv (.int (if y < x then y else x) :: st) T) : z_Go M R nL V Qr σ pc lv (.int y :: .int x :: st) T := fun r hr ls H locs hl hP hS => va_mmin hX.1.1 hX.1.2.1 (hX.1.2.2.1.trans hl.1.symm) hX.1.2.2.2.1 (hX.1.2.2.2.2 _ hlink) (hX.1.2.2.2.2 _ hstat) (hX.1.2.2.2.2 _ hini) (hX.1.2.2.2.2 _ hcode) hfr hlo (Nat.zero_le _) (Nat.zero_le _) hd (kk r hr ls H locs hl hP hS)
theorem z_copy (hX : z_Cx M V cc nL ret Ts own) {index b0 b1 n0 n1 : Nat} (hlink : Cond.methodLink own index arraycopyName ∈ Ts) (hnat : Cond.native arraycopyName ∈ Ts) (hstat : Cond.static arraycopyName ∈ Ts) (hini : Cond.initialized "java/lang/System" ∈ Ts) (hs0 : (z_sh V)[b0]? = some (.inr (.inl (0, n0)))) (hs1 : (z_sh V)[b1]? = some (.inr (.inl (0, n1)))) {n : Int32} {k : Nat} (h3 : ¬ n < 0) (hk : n.toNatClampNeg = k) (h4 : k ≤ n0) (h5 : k ≤ n1) (hfr : 1 ≤ R.frames) (hlo : (st.map fun v => v.category).sum + (nativeFrameWords "java/lang/System" "arraycopy" 5 + 11) ≤ R.locals) (hd : decode cc pc = .ok (.invokestatic index, 3)) (kk : z_Go M R nL V Qr (z_row σ b1 (va_cpy (σ b0) (σ b1) 0 0 k)) (pc + 3) lv st T) : z_Go M R nL V Qr σ pc lv (.int n :: .int 0 :: .ref (z_ad V b1) :: .int 0 :: .ref (z_ad V b0) :: st) T := fun r hr ls H locs hl hP hS => by
  subst hk
  refine va_copyi (ty := .int) hX.1.1 hX.1.2.1 (hX.1.2.2.1.trans hl.1.symm) hX.1.2.2.2.1 (hX.1.2.2.2.2 _ hlink) (hX.1.2.2.2.2 _ hnat) (hX.1.2.2.2.2 _ hstat) (hX.1.2.2.2.2 _ hini) hX.2.2.2.1 hP (z_dis hX.2.2.2.2.2 σ) hS b0 b1 0 0 (z_at σ hs0) (z_at σ hs1) rfl rfl rfl (by decide) (by decide) h3 (by rw [show (0 : Int32).toNatClampNeg = 0 from rfl, Nat.zero_add]; exact h4) (by rw [show (0 : Int32).toNatClampNeg = 0 from rfl, Nat.zero_add]; exact h5) (fun i _ => rfl) hfr hlo hd (fun H1 locs1 hP1 hD1 hS1 => ?_)
  exact kk r hr ls H1 locs1 hl ((z_set σ hs1 (va_cpy (σ b0) (σ b1) 0 0 n.toNatClampNeg)) ▸ hP1) hS1
end ZR
theorem z_startI {l : Launch} {V : z_V} {y : MethodName} {ws ws' : List Cond} {rm : Room} {vs : List Value} {σ : z_St} {T : Option (Int32 × z_St)} {cc : ByteArray} {nL : Nat} {ty : FieldType} {lv : List (Nat × Value)} (hV : z_ok V) (hy : plainName y.cls = true) (hw : ws = Cond.code y cc nL (some ty) :: ws') (hlen : (lg_sl vs).length ≤ nL) (hlv : lv_args 0 vs = lv) (body : ∀ M : z_M, M.2.1 = l → z_Cx M V cc nL (some ty) ws y.cls → z_Go M rm nL V (z_QI V) σ 0 lv [] T) : z_CtI l V y ws rm vs σ T := by
  intro r hr
  refine Met.ofW (cc := cc) (maxL := nL) (ret := (some ty)) hy hw ?_
  intro p e s m args below meth c s₁ B hml hv
  obtain ⟨rfl, hP, hK, hF⟩ := hv
  have hx := B.exec
  have hb := B.bytes
  have hr1 := B.returns
  have hts := atoms_spec (ws := ws) B.pre
  have hown : s.vm.findClass y.cls = some m.cls := findClass_of_methodNamed B.named
  have hlocks := B.notSynchronized
  have hl := lv_entry vs (n := nL) hlen
  rw [hlv] at hl
  rw [lg_entry_eq]
  exact body (p, l, e, s, m, vs.toArray, below, meth, c) rfl ⟨⟨hx, hb, hml, hown, hts⟩, hr1, hlocks, hK, hF, hV⟩ r hr _ s.heap [] hl hP va_S.rf
theorem z_startV {l : Launch} {V : z_V} {y : MethodName} {ws ws' : List Cond} {rm : Room} {vs : List Value} {σ : z_St} {T : Option (Int32 × z_St)} {cc : ByteArray} {nL : Nat} {lv : List (Nat × Value)} (hV : z_ok V) (hy : plainName y.cls = true) (hw : ws = Cond.code y cc nL none :: ws') (hlen : (lg_sl vs).length ≤ nL) (hlv : lv_args 0 vs = lv) (body : ∀ M : z_M, M.2.1 = l → z_Cx M V cc nL none ws y.cls → z_Go M rm nL V (z_QV V) σ 0 lv [] T) : z_CtV l V y ws rm vs σ T := by
  intro r hr
  refine Met.ofW (cc := cc) (maxL := nL) (ret := none) hy hw ?_
  intro p e s m args below meth c s₁ B hml hv
  obtain ⟨rfl, hP, hK, hF⟩ := hv
  have hx := B.exec
  have hb := B.bytes
  have hr1 := B.returns
  have hts := atoms_spec (ws := ws) B.pre
  have hown : s.vm.findClass y.cls = some m.cls := findClass_of_methodNamed B.named
  have hlocks := B.notSynchronized
  have hl := lv_entry vs (n := nL) hlen
  rw [hlv] at hl
  rw [lg_entry_eq]
  exact body (p, l, e, s, m, vs.toArray, below, meth, c) rfl ⟨⟨hx, hb, hml, hown, hts⟩, hr1, hlocks, hK, hF, hV⟩ r hr _ s.heap [] hl hP va_S.rf
end
