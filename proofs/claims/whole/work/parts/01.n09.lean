theorem dX7_rule_54 : decode cX7_rule 54 = .ok (.aload_n 0, 1) := by decide +kernel
theorem dX7_rule_55 : decode cX7_rule 55 = .ok (.getfield 105, 3) := by decide +kernel
theorem dX7_rule_58 : decode cX7_rule 58 = .ok (.ireturn, 1) := by decide +kernel
theorem dX7_rule_59 : decode cX7_rule 59 = .ok (.aload_n 0, 1) := by decide +kernel
theorem dX7_rule_60 : decode cX7_rule 60 = .ok (.getfield 7, 3) := by decide +kernel
theorem dX7_rule_63 : decode cX7_rule 63 = .ok (.bipush 23, 2) := by decide +kernel
theorem dX7_rule_65 : decode cX7_rule 65 = .ok (.iaload, 1) := by decide +kernel
theorem dX7_rule_66 : decode cX7_rule 66 = .ok (.ireturn, 1) := by decide +kernel
theorem dX7_rule_67 : decode cX7_rule 67 = .ok (.aload_n 0, 1) := by decide +kernel
theorem dX7_rule_68 : decode cX7_rule 68 = .ok (.getfield 7, 3) := by decide +kernel
theorem dX7_rule_71 : decode cX7_rule 71 = .ok (.bipush 24, 2) := by decide +kernel
theorem dX7_rule_73 : decode cX7_rule 73 = .ok (.iaload, 1) := by decide +kernel
theorem dX7_rule_74 : decode cX7_rule 74 = .ok (.ireturn, 1) := by decide +kernel
theorem dX7_rule_75 : decode cX7_rule 75 = .ok (.aload_n 0, 1) := by decide +kernel
theorem dX7_rule_76 : decode cX7_rule 76 = .ok (.getfield 7, 3) := by decide +kernel
theorem dX7_rule_79 : decode cX7_rule 79 = .ok (.bipush 25, 2) := by decide +kernel
theorem dX7_rule_81 : decode cX7_rule 81 = .ok (.iaload, 1) := by decide +kernel
theorem dX7_rule_82 : decode cX7_rule 82 = .ok (.ireturn, 1) := by decide +kernel
theorem dX7_rule_83 : decode cX7_rule 83 = .ok (.aload_n 0, 1) := by decide +kernel
theorem dX7_rule_84 : decode cX7_rule 84 = .ok (.getfield 7, 3) := by decide +kernel
theorem dX7_rule_87 : decode cX7_rule 87 = .ok (.bipush 22, 2) := by decide +kernel
theorem dX7_rule_89 : decode cX7_rule 89 = .ok (.iaload, 1) := by decide +kernel
theorem dX7_rule_90 : decode cX7_rule 90 = .ok (.ireturn, 1) := by decide +kernel
theorem dX7_rule_91 : decode cX7_rule 91 = .ok (.iconst (-1), 1) := by decide +kernel
theorem dX7_rule_92 : decode cX7_rule 92 = .ok (.ireturn, 1) := by decide +kernel
set_option maxRecDepth 20000 in
theorem ggX7_one_X7_isOne : GoodIn wsX7_one wsX7_isOne := goodIn_r _ [7, 8, 9, 10, 6, 11, 12, 13, 14, 15, 16, 17, 18, 19, 20, 21, 22, 23, 24, 25, 26, 27, 28, 29, 30, 31, 32, 33, 34, 35, 36, 37, 38, 39, 40, 41, 42, 43, 44, 45, 46, 47, 48, 49, 50] (by decide +kernel) (by decide +kernel)
set_option maxRecDepth 20000 in
theorem gX7_one_X7_isOne : GoodIn wsX7_one (wsV RX7 210 RX7 yX7_isOne wsX7_isOne) := goodIn_app (goodIn_of _ (by decide +kernel)) ggX7_one_X7_isOne
set_option maxRecDepth 20000 in
theorem ggX7_one_X7_in : GoodIn wsX7_one wsX7_in := goodIn_r _ [11] (by decide +kernel) (by decide +kernel)
set_option maxRecDepth 20000 in
theorem gX7_one_X7_in : GoodIn wsX7_one (va_wsS RX7 110 yX7_in wsX7_in) := goodIn_app (goodIn_of _ (by decide +kernel)) ggX7_one_X7_in
theorem dX7_one_0 : decode cX7_one 0 = .ok (.aload_n 0, 1) := by decide +kernel
theorem dX7_one_1 : decode cX7_one 1 = .ok (.iload_n 1, 1) := by decide +kernel
theorem dX7_one_2 : decode cX7_one 2 = .ok (.invokevirtual 210, 3) := by decide +kernel
theorem dX7_one_5 : decode cX7_one 5 = .ok (.ifCond .eq 28, 3) := by decide +kernel
theorem dX7_one_8 : decode cX7_one 8 = .ok (.iload_n 2, 1) := by decide +kernel
theorem dX7_one_9 : decode cX7_one 9 = .ok (.i2l, 1) := by decide +kernel
theorem dX7_one_10 : decode cX7_one 10 = .ok (.lconst 0, 1) := by decide +kernel
theorem dX7_one_11 : decode cX7_one 11 = .ok (.ldc2_w 173, 3) := by decide +kernel
theorem dX7_one_14 : decode cX7_one 14 = .ok (.invokestatic 110, 3) := by decide +kernel
theorem dX7_one_17 : decode cX7_one 17 = .ok (.ifCond .eq 16, 3) := by decide +kernel
theorem dX7_one_20 : decode cX7_one 20 = .ok (.aload_n 0, 1) := by decide +kernel
theorem dX7_one_21 : decode cX7_one 21 = .ok (.getfield 7, 3) := by decide +kernel
theorem dX7_one_24 : decode cX7_one 24 = .ok (.iconst 4, 1) := by decide +kernel
theorem dX7_one_25 : decode cX7_one 25 = .ok (.iload_n 1, 1) := by decide +kernel
theorem dX7_one_26 : decode cX7_one 26 = .ok (.imul, 1) := by decide +kernel
theorem dX7_one_27 : decode cX7_one 27 = .ok (.iload_n 2, 1) := by decide +kernel
theorem dX7_one_28 : decode cX7_one 28 = .ok (.iadd, 1) := by decide +kernel
theorem dX7_one_29 : decode cX7_one 29 = .ok (.iaload, 1) := by decide +kernel
theorem dX7_one_30 : decode cX7_one 30 = .ok (.goto 4, 3) := by decide +kernel
theorem dX7_one_33 : decode cX7_one 33 = .ok (.iconst (-1), 1) := by decide +kernel
theorem dX7_one_34 : decode cX7_one 34 = .ok (.ireturn, 1) := by decide +kernel
set_option maxRecDepth 20000 in
theorem ggX7_trip_X7_isTrip : GoodIn wsX7_trip wsX7_isTrip := goodIn_r _ [9, 10, 11, 12, 8, 13, 27, 28, 29, 30, 31, 32, 33, 34, 35, 36, 37, 38, 39, 40, 41, 42, 43, 44, 45, 46, 47, 48, 49, 50, 51, 52, 53, 54, 55, 56, 57, 58, 59, 60, 61, 62, 63, 64, 65] (by decide +kernel) (by decide +kernel)
set_option maxRecDepth 20000 in
theorem gX7_trip_X7_isTrip : GoodIn wsX7_trip (wsV RX7 214 RX7 yX7_isTrip wsX7_isTrip) := goodIn_app (goodIn_of _ (by decide +kernel)) ggX7_trip_X7_isTrip
set_option maxRecDepth 20000 in
theorem ggX7_trip_X7_starts : GoodIn wsX7_trip wsX7_starts := goodIn_r _ [17, 18, 4, 27, 28, 29, 30, 31, 32, 33, 34, 35, 36, 37, 38, 39, 40, 41, 42, 43, 44, 45, 46, 47, 48, 49, 50, 51, 52, 53, 54, 55, 56, 57, 58, 59, 60, 61, 62, 63, 64, 65] (by decide +kernel) (by decide +kernel)
set_option maxRecDepth 20000 in
theorem gX7_trip_X7_starts : GoodIn wsX7_trip (wsV RX7 217 RX7 yX7_starts wsX7_starts) := goodIn_app (goodIn_of _ (by decide +kernel)) ggX7_trip_X7_starts
set_option maxRecDepth 20000 in
theorem ggX7_trip_X7_blushOf : GoodIn wsX7_trip wsX7_blushOf := goodIn_r _ [22, 3, 18, 1, 23, 24, 25, 8, 26, 27, 28, 29, 30, 31, 32, 33, 34, 35, 36, 37, 38, 39, 40, 41, 42, 43, 44, 45, 46, 47, 48, 49, 50, 51, 52, 53, 54, 55, 56, 57, 58, 59, 60, 61, 62, 63, 64, 65] (by decide +kernel) (by decide +kernel)
set_option maxRecDepth 20000 in
theorem gX7_trip_X7_blushOf : GoodIn wsX7_trip (wsV RX7 195 RX7 yX7_blushOf wsX7_blushOf) := goodIn_app (goodIn_of _ (by decide +kernel)) ggX7_trip_X7_blushOf
theorem dX7_trip_0 : decode cX7_trip 0 = .ok (.aload_n 0, 1) := by decide +kernel
theorem dX7_trip_1 : decode cX7_trip 1 = .ok (.iload_n 1, 1) := by decide +kernel
theorem dX7_trip_2 : decode cX7_trip 2 = .ok (.invokevirtual 214, 3) := by decide +kernel
theorem dX7_trip_5 : decode cX7_trip 5 = .ok (.ifCond .ne 5, 3) := by decide +kernel
theorem dX7_trip_8 : decode cX7_trip 8 = .ok (.iconst (-1), 1) := by decide +kernel
theorem dX7_trip_9 : decode cX7_trip 9 = .ok (.ireturn, 1) := by decide +kernel
theorem dX7_trip_10 : decode cX7_trip 10 = .ok (.aload_n 0, 1) := by decide +kernel
theorem dX7_trip_11 : decode cX7_trip 11 = .ok (.invokevirtual 217, 3) := by decide +kernel
theorem dX7_trip_14 : decode cX7_trip 14 = .ok (.iload_n 2, 1) := by decide +kernel
theorem dX7_trip_15 : decode cX7_trip 15 = .ok (.tableswitch 86 0 5 #[37, 44, 51, 58, 68, 80], 37) := by decide +kernel
theorem dX7_trip_52 : decode cX7_trip 52 = .ok (.aload_n 0, 1) := by decide +kernel
theorem dX7_trip_53 : decode cX7_trip 53 = .ok (.getfield 20, 3) := by decide +kernel
theorem dX7_trip_56 : decode cX7_trip 56 = .ok (.iload_n 1, 1) := by decide +kernel
theorem dX7_trip_57 : decode cX7_trip 57 = .ok (.iaload, 1) := by decide +kernel
theorem dX7_trip_58 : decode cX7_trip 58 = .ok (.ireturn, 1) := by decide +kernel
theorem dX7_trip_59 : decode cX7_trip 59 = .ok (.aload_n 0, 1) := by decide +kernel
theorem dX7_trip_60 : decode cX7_trip 60 = .ok (.getfield 23, 3) := by decide +kernel
theorem dX7_trip_63 : decode cX7_trip 63 = .ok (.iload_n 1, 1) := by decide +kernel
theorem dX7_trip_64 : decode cX7_trip 64 = .ok (.iaload, 1) := by decide +kernel
theorem dX7_trip_65 : decode cX7_trip 65 = .ok (.ireturn, 1) := by decide +kernel
theorem dX7_trip_66 : decode cX7_trip 66 = .ok (.aload_n 0, 1) := by decide +kernel
theorem dX7_trip_67 : decode cX7_trip 67 = .ok (.getfield 26, 3) := by decide +kernel
theorem dX7_trip_70 : decode cX7_trip 70 = .ok (.iload_n 1, 1) := by decide +kernel
theorem dX7_trip_71 : decode cX7_trip 71 = .ok (.iaload, 1) := by decide +kernel
theorem dX7_trip_72 : decode cX7_trip 72 = .ok (.ireturn, 1) := by decide +kernel
theorem dX7_trip_73 : decode cX7_trip 73 = .ok (.aload_n 0, 1) := by decide +kernel
theorem dX7_trip_74 : decode cX7_trip 74 = .ok (.getfield 7, 3) := by decide +kernel
theorem dX7_trip_77 : decode cX7_trip 77 = .ok (.bipush 16, 2) := by decide +kernel
theorem dX7_trip_79 : decode cX7_trip 79 = .ok (.iload_n 1, 1) := by decide +kernel
theorem dX7_trip_80 : decode cX7_trip 80 = .ok (.iadd, 1) := by decide +kernel
theorem dX7_trip_81 : decode cX7_trip 81 = .ok (.iaload, 1) := by decide +kernel
theorem dX7_trip_82 : decode cX7_trip 82 = .ok (.ireturn, 1) := by decide +kernel
theorem dX7_trip_83 : decode cX7_trip 83 = .ok (.aload_n 0, 1) := by decide +kernel
theorem dX7_trip_84 : decode cX7_trip 84 = .ok (.getfield 7, 3) := by decide +kernel
theorem dX7_trip_87 : decode cX7_trip 87 = .ok (.bipush 22, 2) := by decide +kernel
theorem dX7_trip_89 : decode cX7_trip 89 = .ok (.iaload, 1) := by decide +kernel
theorem dX7_trip_90 : decode cX7_trip 90 = .ok (.iload_n 1, 1) := by decide +kernel
theorem dX7_trip_91 : decode cX7_trip 91 = .ok (.ishr, 1) := by decide +kernel
theorem dX7_trip_92 : decode cX7_trip 92 = .ok (.iconst 1, 1) := by decide +kernel
theorem dX7_trip_93 : decode cX7_trip 93 = .ok (.iand, 1) := by decide +kernel
theorem dX7_trip_94 : decode cX7_trip 94 = .ok (.ireturn, 1) := by decide +kernel
theorem dX7_trip_95 : decode cX7_trip 95 = .ok (.aload_n 0, 1) := by decide +kernel
theorem dX7_trip_96 : decode cX7_trip 96 = .ok (.iload_n 1, 1) := by decide +kernel
theorem dX7_trip_97 : decode cX7_trip 97 = .ok (.invokevirtual 195, 3) := by decide +kernel
theorem dX7_trip_100 : decode cX7_trip 100 = .ok (.ireturn, 1) := by decide +kernel
theorem dX7_trip_101 : decode cX7_trip 101 = .ok (.iconst (-1), 1) := by decide +kernel
theorem dX7_trip_102 : decode cX7_trip 102 = .ok (.ireturn, 1) := by decide +kernel
set_option maxRecDepth 20000 in
theorem ggX7_asked_X7_in : GoodIn wsX7_asked wsX7_in := goodIn_r _ [9] (by decide +kernel) (by decide +kernel)
set_option maxRecDepth 20000 in
theorem gX7_asked_X7_in : GoodIn wsX7_asked (va_wsS RX7 110 yX7_in wsX7_in) := goodIn_app (goodIn_of _ (by decide +kernel)) ggX7_asked_X7_in
theorem dX7_asked_0 : decode cX7_asked 0 = .ok (.iload_n 1, 1) := by decide +kernel
theorem dX7_asked_1 : decode cX7_asked 1 = .ok (.i2l, 1) := by decide +kernel
theorem dX7_asked_2 : decode cX7_asked 2 = .ok (.lconst 0, 1) := by decide +kernel
theorem dX7_asked_3 : decode cX7_asked 3 = .ok (.aload_n 0, 1) := by decide +kernel
theorem dX7_asked_4 : decode cX7_asked 4 = .ok (.getfield 105, 3) := by decide +kernel
theorem dX7_asked_7 : decode cX7_asked 7 = .ok (.iconst 1, 1) := by decide +kernel
theorem dX7_asked_8 : decode cX7_asked 8 = .ok (.isub, 1) := by decide +kernel
theorem dX7_asked_9 : decode cX7_asked 9 = .ok (.i2l, 1) := by decide +kernel
theorem dX7_asked_10 : decode cX7_asked 10 = .ok (.invokestatic 110, 3) := by decide +kernel
theorem dX7_asked_13 : decode cX7_asked 13 = .ok (.ifCond .eq 15, 3) := by decide +kernel
theorem dX7_asked_16 : decode cX7_asked 16 = .ok (.iload_n 2, 1) := by decide +kernel
theorem dX7_asked_17 : decode cX7_asked 17 = .ok (.i2l, 1) := by decide +kernel
theorem dX7_asked_18 : decode cX7_asked 18 = .ok (.lconst 0, 1) := by decide +kernel
theorem dX7_asked_19 : decode cX7_asked 19 = .ok (.ldc2_w 220, 3) := by decide +kernel
theorem dX7_asked_22 : decode cX7_asked 22 = .ok (.invokestatic 110, 3) := by decide +kernel
theorem dX7_asked_25 : decode cX7_asked 25 = .ok (.ifCond .ne 5, 3) := by decide +kernel
theorem dX7_asked_28 : decode cX7_asked 28 = .ok (.iconst (-1), 1) := by decide +kernel
theorem dX7_asked_29 : decode cX7_asked 29 = .ok (.ireturn, 1) := by decide +kernel
theorem dX7_asked_30 : decode cX7_asked 30 = .ok (.iload_n 2, 1) := by decide +kernel
theorem dX7_asked_31 : decode cX7_asked 31 = .ok (.ifCond .ne 12, 3) := by decide +kernel
theorem dX7_asked_34 : decode cX7_asked 34 = .ok (.aload_n 0, 1) := by decide +kernel
theorem dX7_asked_35 : decode cX7_asked 35 = .ok (.getfield 29, 3) := by decide +kernel
theorem dX7_asked_38 : decode cX7_asked 38 = .ok (.iload_n 1, 1) := by decide +kernel
theorem dX7_asked_39 : decode cX7_asked 39 = .ok (.iaload, 1) := by decide +kernel
theorem dX7_asked_40 : decode cX7_asked 40 = .ok (.goto 23, 3) := by decide +kernel
theorem dX7_asked_43 : decode cX7_asked 43 = .ok (.iload_n 2, 1) := by decide +kernel
theorem dX7_asked_44 : decode cX7_asked 44 = .ok (.iconst 1, 1) := by decide +kernel
theorem dX7_asked_45 : decode cX7_asked 45 = .ok (.if_icmp .ne 12, 3) := by decide +kernel
theorem dX7_asked_48 : decode cX7_asked 48 = .ok (.aload_n 0, 1) := by decide +kernel
theorem dX7_asked_49 : decode cX7_asked 49 = .ok (.getfield 32, 3) := by decide +kernel
theorem dX7_asked_52 : decode cX7_asked 52 = .ok (.iload_n 1, 1) := by decide +kernel
theorem dX7_asked_53 : decode cX7_asked 53 = .ok (.iaload, 1) := by decide +kernel
theorem dX7_asked_54 : decode cX7_asked 54 = .ok (.goto 9, 3) := by decide +kernel
theorem dX7_asked_57 : decode cX7_asked 57 = .ok (.aload_n 0, 1) := by decide +kernel
theorem dX7_asked_58 : decode cX7_asked 58 = .ok (.getfield 35, 3) := by decide +kernel
theorem dX7_asked_61 : decode cX7_asked 61 = .ok (.iload_n 1, 1) := by decide +kernel
theorem dX7_asked_62 : decode cX7_asked 62 = .ok (.iaload, 1) := by decide +kernel
theorem dX7_asked_63 : decode cX7_asked 63 = .ok (.ireturn, 1) := by decide +kernel
theorem dX7_becomes_0 : decode cX7_becomes 0 = .ok (.aload_n 0, 1) := by decide +kernel
theorem dX7_becomes_1 : decode cX7_becomes 1 = .ok (.getfield 7, 3) := by decide +kernel
theorem dX7_becomes_4 : decode cX7_becomes 4 = .ok (.iload_n 1, 1) := by decide +kernel
theorem dX7_becomes_5 : decode cX7_becomes 5 = .ok (.iaload, 1) := by decide +kernel
theorem dX7_becomes_6 : decode cX7_becomes 6 = .ok (.istore_n 3, 1) := by decide +kernel
theorem dX7_becomes_7 : decode cX7_becomes 7 = .ok (.aload_n 0, 1) := by decide +kernel
theorem dX7_becomes_8 : decode cX7_becomes 8 = .ok (.getfield 7, 3) := by decide +kernel
theorem dX7_becomes_11 : decode cX7_becomes 11 = .ok (.iload_n 1, 1) := by decide +kernel
theorem dX7_becomes_12 : decode cX7_becomes 12 = .ok (.iload_n 2, 1) := by decide +kernel
theorem dX7_becomes_13 : decode cX7_becomes 13 = .ok (.iastore, 1) := by decide +kernel
theorem dX7_becomes_14 : decode cX7_becomes 14 = .ok (.iload_n 3, 1) := by decide +kernel
theorem dX7_becomes_15 : decode cX7_becomes 15 = .ok (.ireturn, 1) := by decide +kernel
set_option maxRecDepth 20000 in
theorem ggX7_deposit_X7_isTrip : GoodIn wsX7_deposit wsX7_isTrip := goodIn_r _ [7, 8, 9, 10, 6, 11, 12, 13, 14, 15, 16, 17, 18, 19, 20, 21, 22, 23, 24, 25, 26, 27, 28, 29, 30, 31, 32, 33, 34, 35, 36, 37, 38, 39, 40, 41, 42, 43, 44, 45, 46, 47, 48, 49, 50] (by decide +kernel) (by decide +kernel)
set_option maxRecDepth 20000 in
theorem gX7_deposit_X7_isTrip : GoodIn wsX7_deposit (wsV RX7 214 RX7 yX7_isTrip wsX7_isTrip) := goodIn_app (goodIn_of _ (by decide +kernel)) ggX7_deposit_X7_isTrip
theorem dX7_deposit_0 : decode cX7_deposit 0 = .ok (.aload_n 0, 1) := by decide +kernel
theorem dX7_deposit_1 : decode cX7_deposit 1 = .ok (.iload_n 1, 1) := by decide +kernel
theorem dX7_deposit_2 : decode cX7_deposit 2 = .ok (.invokevirtual 214, 3) := by decide +kernel
theorem dX7_deposit_5 : decode cX7_deposit 5 = .ok (.ifCond .ne 5, 3) := by decide +kernel
theorem dX7_deposit_8 : decode cX7_deposit 8 = .ok (.iconst (-1), 1) := by decide +kernel
theorem dX7_deposit_9 : decode cX7_deposit 9 = .ok (.ireturn, 1) := by decide +kernel
theorem dX7_deposit_10 : decode cX7_deposit 10 = .ok (.aload_n 0, 1) := by decide +kernel
theorem dX7_deposit_11 : decode cX7_deposit 11 = .ok (.getfield 23, 3) := by decide +kernel
theorem dX7_deposit_14 : decode cX7_deposit 14 = .ok (.iload_n 1, 1) := by decide +kernel
theorem dX7_deposit_15 : decode cX7_deposit 15 = .ok (.iaload, 1) := by decide +kernel
theorem dX7_deposit_16 : decode cX7_deposit 16 = .ok (.aload_n 0, 1) := by decide +kernel
theorem dX7_deposit_17 : decode cX7_deposit 17 = .ok (.getfield 7, 3) := by decide +kernel
theorem dX7_deposit_20 : decode cX7_deposit 20 = .ok (.bipush 25, 2) := by decide +kernel
theorem dX7_deposit_22 : decode cX7_deposit 22 = .ok (.iaload, 1) := by decide +kernel
theorem dX7_deposit_23 : decode cX7_deposit 23 = .ok (.if_icmp .ge 6, 3) := by decide +kernel
theorem dX7_deposit_26 : decode cX7_deposit 26 = .ok (.bipush (-2), 2) := by decide +kernel
theorem dX7_deposit_28 : decode cX7_deposit 28 = .ok (.ireturn, 1) := by decide +kernel
theorem dX7_deposit_29 : decode cX7_deposit 29 = .ok (.aload_n 0, 1) := by decide +kernel
theorem dX7_deposit_30 : decode cX7_deposit 30 = .ok (.getfield 7, 3) := by decide +kernel
theorem dX7_deposit_33 : decode cX7_deposit 33 = .ok (.bipush 22, 2) := by decide +kernel
theorem dX7_deposit_35 : decode cX7_deposit 35 = .ok (.iaload, 1) := by decide +kernel
theorem dX7_deposit_36 : decode cX7_deposit 36 = .ok (.iload_n 1, 1) := by decide +kernel
theorem dX7_deposit_37 : decode cX7_deposit 37 = .ok (.ishr, 1) := by decide +kernel
theorem dX7_deposit_38 : decode cX7_deposit 38 = .ok (.iconst 1, 1) := by decide +kernel
theorem dX7_deposit_39 : decode cX7_deposit 39 = .ok (.iand, 1) := by decide +kernel
theorem dX7_deposit_40 : decode cX7_deposit 40 = .ok (.istore_n 3, 1) := by decide +kernel
theorem dX7_deposit_41 : decode cX7_deposit 41 = .ok (.aload_n 0, 1) := by decide +kernel
theorem dX7_deposit_42 : decode cX7_deposit 42 = .ok (.getfield 7, 3) := by decide +kernel
theorem dX7_deposit_45 : decode cX7_deposit 45 = .ok (.bipush 22, 2) := by decide +kernel
theorem dX7_deposit_47 : decode cX7_deposit 47 = .ok (.iload_n 2, 1) := by decide +kernel
theorem dX7_deposit_48 : decode cX7_deposit 48 = .ok (.ifCond .eq 17, 3) := by decide +kernel
theorem dX7_deposit_51 : decode cX7_deposit 51 = .ok (.aload_n 0, 1) := by decide +kernel
theorem dX7_deposit_52 : decode cX7_deposit 52 = .ok (.getfield 7, 3) := by decide +kernel
theorem dX7_deposit_55 : decode cX7_deposit 55 = .ok (.bipush 22, 2) := by decide +kernel
theorem dX7_deposit_57 : decode cX7_deposit 57 = .ok (.iaload, 1) := by decide +kernel
theorem dX7_deposit_58 : decode cX7_deposit 58 = .ok (.iconst 1, 1) := by decide +kernel
theorem dX7_deposit_59 : decode cX7_deposit 59 = .ok (.iload_n 1, 1) := by decide +kernel
theorem dX7_deposit_60 : decode cX7_deposit 60 = .ok (.ishl, 1) := by decide +kernel
theorem dX7_deposit_61 : decode cX7_deposit 61 = .ok (.ior, 1) := by decide +kernel
theorem dX7_deposit_62 : decode cX7_deposit 62 = .ok (.goto 16, 3) := by decide +kernel
theorem dX7_deposit_65 : decode cX7_deposit 65 = .ok (.aload_n 0, 1) := by decide +kernel
theorem dX7_deposit_66 : decode cX7_deposit 66 = .ok (.getfield 7, 3) := by decide +kernel
theorem dX7_deposit_69 : decode cX7_deposit 69 = .ok (.bipush 22, 2) := by decide +kernel
theorem dX7_deposit_71 : decode cX7_deposit 71 = .ok (.iaload, 1) := by decide +kernel
theorem dX7_deposit_72 : decode cX7_deposit 72 = .ok (.iconst 1, 1) := by decide +kernel
theorem dX7_deposit_73 : decode cX7_deposit 73 = .ok (.iload_n 1, 1) := by decide +kernel
theorem dX7_deposit_74 : decode cX7_deposit 74 = .ok (.ishl, 1) := by decide +kernel
theorem dX7_deposit_75 : decode cX7_deposit 75 = .ok (.iconst (-1), 1) := by decide +kernel
theorem dX7_deposit_76 : decode cX7_deposit 76 = .ok (.ixor, 1) := by decide +kernel
theorem dX7_deposit_77 : decode cX7_deposit 77 = .ok (.iand, 1) := by decide +kernel
theorem dX7_deposit_78 : decode cX7_deposit 78 = .ok (.iastore, 1) := by decide +kernel
theorem dX7_deposit_79 : decode cX7_deposit 79 = .ok (.iload_n 3, 1) := by decide +kernel
theorem dX7_deposit_80 : decode cX7_deposit 80 = .ok (.ireturn, 1) := by decide +kernel
set_option maxRecDepth 20000 in
theorem ggX7_give_X7_isOne : GoodIn wsX7_give wsX7_isOne := goodIn_r _ [7, 8, 9, 10, 6, 11, 12, 13, 14, 15, 16, 17, 18, 19, 20, 21, 22, 23, 24, 25, 26, 27, 28, 29, 30, 31, 32, 33, 34, 35, 36, 37, 38, 39, 40, 41, 42, 43, 44, 45, 46, 47, 48, 49, 50] (by decide +kernel) (by decide +kernel)
set_option maxRecDepth 20000 in
theorem gX7_give_X7_isOne : GoodIn wsX7_give (wsV RX7 210 RX7 yX7_isOne wsX7_isOne) := goodIn_app (goodIn_of _ (by decide +kernel)) ggX7_give_X7_isOne
set_option maxRecDepth 20000 in
theorem ggX7_give_X7_in : GoodIn wsX7_give wsX7_in := goodIn_r _ [11] (by decide +kernel) (by decide +kernel)
set_option maxRecDepth 20000 in
theorem gX7_give_X7_in : GoodIn wsX7_give (va_wsS RX7 110 yX7_in wsX7_in) := goodIn_app (goodIn_of _ (by decide +kernel)) ggX7_give_X7_in
theorem dX7_give_0 : decode cX7_give 0 = .ok (.aload_n 0, 1) := by decide +kernel
theorem dX7_give_1 : decode cX7_give 1 = .ok (.iload_n 1, 1) := by decide +kernel
theorem dX7_give_2 : decode cX7_give 2 = .ok (.invokevirtual 210, 3) := by decide +kernel
theorem dX7_give_5 : decode cX7_give 5 = .ok (.ifCond .eq 28, 3) := by decide +kernel
theorem dX7_give_8 : decode cX7_give 8 = .ok (.aload_n 0, 1) := by decide +kernel
theorem dX7_give_9 : decode cX7_give 9 = .ok (.iload_n 2, 1) := by decide +kernel
theorem dX7_give_10 : decode cX7_give 10 = .ok (.invokevirtual 210, 3) := by decide +kernel
theorem dX7_give_13 : decode cX7_give 13 = .ok (.ifCond .eq 20, 3) := by decide +kernel
theorem dX7_give_16 : decode cX7_give 16 = .ok (.iload_n 1, 1) := by decide +kernel
theorem dX7_give_17 : decode cX7_give 17 = .ok (.iload_n 2, 1) := by decide +kernel
theorem dX7_give_18 : decode cX7_give 18 = .ok (.if_icmp .eq 15, 3) := by decide +kernel
theorem dX7_give_21 : decode cX7_give 21 = .ok (.iload_n 3, 1) := by decide +kernel
theorem dX7_give_22 : decode cX7_give 22 = .ok (.i2l, 1) := by decide +kernel
theorem dX7_give_23 : decode cX7_give 23 = .ok (.lconst 0, 1) := by decide +kernel
theorem dX7_give_24 : decode cX7_give 24 = .ok (.ldc2_w 222, 3) := by decide +kernel
theorem dX7_give_27 : decode cX7_give 27 = .ok (.invokestatic 110, 3) := by decide +kernel
theorem dX7_give_30 : decode cX7_give 30 = .ok (.ifCond .ne 5, 3) := by decide +kernel
theorem dX7_give_33 : decode cX7_give 33 = .ok (.iconst (-1), 1) := by decide +kernel
theorem dX7_give_34 : decode cX7_give 34 = .ok (.ireturn, 1) := by decide +kernel
theorem dX7_give_35 : decode cX7_give 35 = .ok (.aload_n 0, 1) := by decide +kernel
theorem dX7_give_36 : decode cX7_give 36 = .ok (.getfield 7, 3) := by decide +kernel
theorem dX7_give_39 : decode cX7_give 39 = .ok (.iconst 4, 1) := by decide +kernel
theorem dX7_give_40 : decode cX7_give 40 = .ok (.iload_n 1, 1) := by decide +kernel
theorem dX7_give_41 : decode cX7_give 41 = .ok (.imul, 1) := by decide +kernel
theorem dX7_give_42 : decode cX7_give 42 = .ok (.iconst 1, 1) := by decide +kernel
theorem dX7_give_43 : decode cX7_give 43 = .ok (.iadd, 1) := by decide +kernel
theorem dX7_give_44 : decode cX7_give 44 = .ok (.iaload, 1) := by decide +kernel
theorem dX7_give_45 : decode cX7_give 45 = .ok (.iload_n 3, 1) := by decide +kernel
theorem dX7_give_46 : decode cX7_give 46 = .ok (.if_icmp .ge 6, 3) := by decide +kernel
theorem dX7_give_49 : decode cX7_give 49 = .ok (.bipush (-2), 2) := by decide +kernel
theorem dX7_give_51 : decode cX7_give 51 = .ok (.ireturn, 1) := by decide +kernel
theorem dX7_give_52 : decode cX7_give 52 = .ok (.aload_n 0, 1) := by decide +kernel
theorem dX7_give_53 : decode cX7_give 53 = .ok (.getfield 7, 3) := by decide +kernel
theorem dX7_give_56 : decode cX7_give 56 = .ok (.iconst 4, 1) := by decide +kernel
theorem dX7_give_57 : decode cX7_give 57 = .ok (.iload_n 2, 1) := by decide +kernel
theorem dX7_give_58 : decode cX7_give 58 = .ok (.imul, 1) := by decide +kernel
theorem dX7_give_59 : decode cX7_give 59 = .ok (.iconst 1, 1) := by decide +kernel
theorem dX7_give_60 : decode cX7_give 60 = .ok (.iadd, 1) := by decide +kernel
theorem dX7_give_61 : decode cX7_give 61 = .ok (.iaload, 1) := by decide +kernel
theorem dX7_give_62 : decode cX7_give 62 = .ok (.iload_n 3, 1) := by decide +kernel
theorem dX7_give_63 : decode cX7_give 63 = .ok (.iadd, 1) := by decide +kernel
theorem dX7_give_64 : decode cX7_give 64 = .ok (.sipush 999, 3) := by decide +kernel
theorem dX7_give_67 : decode cX7_give 67 = .ok (.if_icmp .le 6, 3) := by decide +kernel
theorem dX7_give_70 : decode cX7_give 70 = .ok (.bipush (-3), 2) := by decide +kernel
theorem dX7_give_72 : decode cX7_give 72 = .ok (.ireturn, 1) := by decide +kernel
theorem dX7_give_73 : decode cX7_give 73 = .ok (.aload_n 0, 1) := by decide +kernel
theorem dX7_give_74 : decode cX7_give 74 = .ok (.getfield 7, 3) := by decide +kernel
theorem dX7_give_77 : decode cX7_give 77 = .ok (.iconst 4, 1) := by decide +kernel
theorem dX7_give_78 : decode cX7_give 78 = .ok (.iload_n 1, 1) := by decide +kernel
theorem dX7_give_79 : decode cX7_give 79 = .ok (.imul, 1) := by decide +kernel
theorem dX7_give_80 : decode cX7_give 80 = .ok (.iconst 1, 1) := by decide +kernel
theorem dX7_give_81 : decode cX7_give 81 = .ok (.iadd, 1) := by decide +kernel
theorem dX7_give_82 : decode cX7_give 82 = .ok (.dup2, 1) := by decide +kernel
theorem dX7_give_83 : decode cX7_give 83 = .ok (.iaload, 1) := by decide +kernel
theorem dX7_give_84 : decode cX7_give 84 = .ok (.iload_n 3, 1) := by decide +kernel
theorem dX7_give_85 : decode cX7_give 85 = .ok (.isub, 1) := by decide +kernel
theorem dX7_give_86 : decode cX7_give 86 = .ok (.iastore, 1) := by decide +kernel
theorem dX7_give_87 : decode cX7_give 87 = .ok (.aload_n 0, 1) := by decide +kernel
theorem dX7_give_88 : decode cX7_give 88 = .ok (.getfield 7, 3) := by decide +kernel
theorem dX7_give_91 : decode cX7_give 91 = .ok (.iconst 4, 1) := by decide +kernel
theorem dX7_give_92 : decode cX7_give 92 = .ok (.iload_n 2, 1) := by decide +kernel
theorem dX7_give_93 : decode cX7_give 93 = .ok (.imul, 1) := by decide +kernel
theorem dX7_give_94 : decode cX7_give 94 = .ok (.iconst 1, 1) := by decide +kernel
theorem dX7_give_95 : decode cX7_give 95 = .ok (.iadd, 1) := by decide +kernel
theorem dX7_give_96 : decode cX7_give 96 = .ok (.dup2, 1) := by decide +kernel
theorem dX7_give_97 : decode cX7_give 97 = .ok (.iaload, 1) := by decide +kernel
theorem dX7_give_98 : decode cX7_give 98 = .ok (.iload_n 3, 1) := by decide +kernel
theorem dX7_give_99 : decode cX7_give 99 = .ok (.iadd, 1) := by decide +kernel
theorem dX7_give_100 : decode cX7_give 100 = .ok (.iastore, 1) := by decide +kernel
theorem dX7_give_101 : decode cX7_give 101 = .ok (.aload_n 0, 1) := by decide +kernel
theorem dX7_give_102 : decode cX7_give 102 = .ok (.getfield 7, 3) := by decide +kernel
theorem dX7_give_105 : decode cX7_give 105 = .ok (.iconst 4, 1) := by decide +kernel
theorem dX7_give_106 : decode cX7_give 106 = .ok (.iload_n 1, 1) := by decide +kernel
theorem dX7_give_107 : decode cX7_give 107 = .ok (.imul, 1) := by decide +kernel
theorem dX7_give_108 : decode cX7_give 108 = .ok (.iconst 1, 1) := by decide +kernel
theorem dX7_give_109 : decode cX7_give 109 = .ok (.iadd, 1) := by decide +kernel
theorem dX7_give_110 : decode cX7_give 110 = .ok (.iaload, 1) := by decide +kernel
theorem dX7_give_111 : decode cX7_give 111 = .ok (.ireturn, 1) := by decide +kernel
set_option maxRecDepth 20000 in
theorem ggX7_draw_X7_isOne : GoodIn wsX7_draw wsX7_isOne := goodIn_r _ [7, 8, 9, 10, 6, 11, 12, 13, 14, 15, 16, 17, 18, 19, 20, 21, 22, 23, 24, 25, 26, 27, 28, 29, 30, 31, 32, 33, 34, 35, 36, 37, 38, 39, 40, 41, 42, 43, 44, 45, 46, 47, 48, 49, 50] (by decide +kernel) (by decide +kernel)
set_option maxRecDepth 20000 in
theorem gX7_draw_X7_isOne : GoodIn wsX7_draw (wsV RX7 210 RX7 yX7_isOne wsX7_isOne) := goodIn_app (goodIn_of _ (by decide +kernel)) ggX7_draw_X7_isOne
set_option maxRecDepth 20000 in
theorem ggX7_draw_X7_in : GoodIn wsX7_draw wsX7_in := goodIn_r _ [11] (by decide +kernel) (by decide +kernel)
set_option maxRecDepth 20000 in
theorem gX7_draw_X7_in : GoodIn wsX7_draw (va_wsS RX7 110 yX7_in wsX7_in) := goodIn_app (goodIn_of _ (by decide +kernel)) ggX7_draw_X7_in
theorem dX7_draw_0 : decode cX7_draw 0 = .ok (.aload_n 0, 1) := by decide +kernel
theorem dX7_draw_1 : decode cX7_draw 1 = .ok (.iload_n 1, 1) := by decide +kernel
theorem dX7_draw_2 : decode cX7_draw 2 = .ok (.invokevirtual 210, 3) := by decide +kernel
theorem dX7_draw_5 : decode cX7_draw 5 = .ok (.ifCond .eq 15, 3) := by decide +kernel
theorem dX7_draw_8 : decode cX7_draw 8 = .ok (.iload_n 2, 1) := by decide +kernel
theorem dX7_draw_9 : decode cX7_draw 9 = .ok (.i2l, 1) := by decide +kernel
theorem dX7_draw_10 : decode cX7_draw 10 = .ok (.lconst 0, 1) := by decide +kernel
theorem dX7_draw_11 : decode cX7_draw 11 = .ok (.ldc2_w 222, 3) := by decide +kernel
theorem dX7_draw_14 : decode cX7_draw 14 = .ok (.invokestatic 110, 3) := by decide +kernel
theorem dX7_draw_17 : decode cX7_draw 17 = .ok (.ifCond .ne 5, 3) := by decide +kernel
theorem dX7_draw_20 : decode cX7_draw 20 = .ok (.iconst (-1), 1) := by decide +kernel
theorem dX7_draw_21 : decode cX7_draw 21 = .ok (.ireturn, 1) := by decide +kernel
theorem dX7_draw_22 : decode cX7_draw 22 = .ok (.aload_n 0, 1) := by decide +kernel
theorem dX7_draw_23 : decode cX7_draw 23 = .ok (.getfield 7, 3) := by decide +kernel
theorem dX7_draw_26 : decode cX7_draw 26 = .ok (.iconst 4, 1) := by decide +kernel
theorem dX7_draw_27 : decode cX7_draw 27 = .ok (.iload_n 1, 1) := by decide +kernel
theorem dX7_draw_28 : decode cX7_draw 28 = .ok (.imul, 1) := by decide +kernel
theorem dX7_draw_29 : decode cX7_draw 29 = .ok (.iconst 2, 1) := by decide +kernel
theorem dX7_draw_30 : decode cX7_draw 30 = .ok (.iadd, 1) := by decide +kernel
theorem dX7_draw_31 : decode cX7_draw 31 = .ok (.iaload, 1) := by decide +kernel
theorem dX7_draw_32 : decode cX7_draw 32 = .ok (.iload_n 2, 1) := by decide +kernel
theorem dX7_draw_33 : decode cX7_draw 33 = .ok (.if_icmp .lt 14, 3) := by decide +kernel
theorem dX7_draw_36 : decode cX7_draw 36 = .ok (.aload_n 0, 1) := by decide +kernel
theorem dX7_draw_37 : decode cX7_draw 37 = .ok (.getfield 7, 3) := by decide +kernel
theorem dX7_draw_40 : decode cX7_draw 40 = .ok (.bipush 24, 2) := by decide +kernel
theorem dX7_draw_42 : decode cX7_draw 42 = .ok (.iaload, 1) := by decide +kernel
theorem dX7_draw_43 : decode cX7_draw 43 = .ok (.iload_n 2, 1) := by decide +kernel
theorem dX7_draw_44 : decode cX7_draw 44 = .ok (.if_icmp .ge 6, 3) := by decide +kernel
theorem dX7_draw_47 : decode cX7_draw 47 = .ok (.bipush (-2), 2) := by decide +kernel
theorem dX7_draw_49 : decode cX7_draw 49 = .ok (.ireturn, 1) := by decide +kernel
theorem dX7_draw_50 : decode cX7_draw 50 = .ok (.aload_n 0, 1) := by decide +kernel
theorem dX7_draw_51 : decode cX7_draw 51 = .ok (.getfield 7, 3) := by decide +kernel
theorem dX7_draw_54 : decode cX7_draw 54 = .ok (.iconst 4, 1) := by decide +kernel
theorem dX7_draw_55 : decode cX7_draw 55 = .ok (.iload_n 1, 1) := by decide +kernel
theorem dX7_draw_56 : decode cX7_draw 56 = .ok (.imul, 1) := by decide +kernel
theorem dX7_draw_57 : decode cX7_draw 57 = .ok (.iconst 1, 1) := by decide +kernel
theorem dX7_draw_58 : decode cX7_draw 58 = .ok (.iadd, 1) := by decide +kernel
theorem dX7_draw_59 : decode cX7_draw 59 = .ok (.iaload, 1) := by decide +kernel
theorem dX7_draw_60 : decode cX7_draw 60 = .ok (.iload_n 2, 1) := by decide +kernel
theorem dX7_draw_61 : decode cX7_draw 61 = .ok (.iadd, 1) := by decide +kernel
theorem dX7_draw_62 : decode cX7_draw 62 = .ok (.sipush 999, 3) := by decide +kernel
theorem dX7_draw_65 : decode cX7_draw 65 = .ok (.if_icmp .le 6, 3) := by decide +kernel
theorem dX7_draw_68 : decode cX7_draw 68 = .ok (.bipush (-3), 2) := by decide +kernel
theorem dX7_draw_70 : decode cX7_draw 70 = .ok (.ireturn, 1) := by decide +kernel
theorem dX7_draw_71 : decode cX7_draw 71 = .ok (.aload_n 0, 1) := by decide +kernel
theorem dX7_draw_72 : decode cX7_draw 72 = .ok (.getfield 7, 3) := by decide +kernel
theorem dX7_draw_75 : decode cX7_draw 75 = .ok (.iconst 4, 1) := by decide +kernel
theorem dX7_draw_76 : decode cX7_draw 76 = .ok (.iload_n 1, 1) := by decide +kernel
theorem dX7_draw_77 : decode cX7_draw 77 = .ok (.imul, 1) := by decide +kernel
theorem dX7_draw_78 : decode cX7_draw 78 = .ok (.iconst 2, 1) := by decide +kernel
theorem dX7_draw_79 : decode cX7_draw 79 = .ok (.iadd, 1) := by decide +kernel
theorem dX7_draw_80 : decode cX7_draw 80 = .ok (.dup2, 1) := by decide +kernel
theorem dX7_draw_81 : decode cX7_draw 81 = .ok (.iaload, 1) := by decide +kernel
theorem dX7_draw_82 : decode cX7_draw 82 = .ok (.iload_n 2, 1) := by decide +kernel
theorem dX7_draw_83 : decode cX7_draw 83 = .ok (.isub, 1) := by decide +kernel
theorem dX7_draw_84 : decode cX7_draw 84 = .ok (.iastore, 1) := by decide +kernel
theorem dX7_draw_85 : decode cX7_draw 85 = .ok (.aload_n 0, 1) := by decide +kernel
theorem dX7_draw_86 : decode cX7_draw 86 = .ok (.getfield 7, 3) := by decide +kernel
theorem dX7_draw_89 : decode cX7_draw 89 = .ok (.iconst 4, 1) := by decide +kernel
theorem dX7_draw_90 : decode cX7_draw 90 = .ok (.iload_n 1, 1) := by decide +kernel
theorem dX7_draw_91 : decode cX7_draw 91 = .ok (.imul, 1) := by decide +kernel
theorem dX7_draw_92 : decode cX7_draw 92 = .ok (.iconst 1, 1) := by decide +kernel
theorem dX7_draw_93 : decode cX7_draw 93 = .ok (.iadd, 1) := by decide +kernel
theorem dX7_draw_94 : decode cX7_draw 94 = .ok (.dup2, 1) := by decide +kernel
theorem dX7_draw_95 : decode cX7_draw 95 = .ok (.iaload, 1) := by decide +kernel
theorem dX7_draw_96 : decode cX7_draw 96 = .ok (.iload_n 2, 1) := by decide +kernel
theorem dX7_draw_97 : decode cX7_draw 97 = .ok (.iadd, 1) := by decide +kernel
theorem dX7_draw_98 : decode cX7_draw 98 = .ok (.iastore, 1) := by decide +kernel
theorem dX7_draw_99 : decode cX7_draw 99 = .ok (.aload_n 0, 1) := by decide +kernel
theorem dX7_draw_100 : decode cX7_draw 100 = .ok (.getfield 7, 3) := by decide +kernel
theorem dX7_draw_103 : decode cX7_draw 103 = .ok (.bipush 24, 2) := by decide +kernel
theorem dX7_draw_105 : decode cX7_draw 105 = .ok (.dup2, 1) := by decide +kernel
theorem dX7_draw_106 : decode cX7_draw 106 = .ok (.iaload, 1) := by decide +kernel
theorem dX7_draw_107 : decode cX7_draw 107 = .ok (.iload_n 2, 1) := by decide +kernel
theorem dX7_draw_108 : decode cX7_draw 108 = .ok (.isub, 1) := by decide +kernel
theorem dX7_draw_109 : decode cX7_draw 109 = .ok (.iastore, 1) := by decide +kernel
theorem dX7_draw_110 : decode cX7_draw 110 = .ok (.aload_n 0, 1) := by decide +kernel
theorem dX7_draw_111 : decode cX7_draw 111 = .ok (.getfield 7, 3) := by decide +kernel
theorem dX7_draw_114 : decode cX7_draw 114 = .ok (.bipush 24, 2) := by decide +kernel
theorem dX7_draw_116 : decode cX7_draw 116 = .ok (.iaload, 1) := by decide +kernel
theorem dX7_draw_117 : decode cX7_draw 117 = .ok (.ireturn, 1) := by decide +kernel
set_option maxRecDepth 20000 in
theorem ggX7_rumoured_X7_flag : GoodIn wsX7_rumoured wsX7_flag := goodIn_r _ [8] (by decide +kernel) (by decide +kernel)
set_option maxRecDepth 20000 in
theorem gX7_rumoured_X7_flag : GoodIn wsX7_rumoured (va_wsS RX7 224 yX7_flag wsX7_flag) := goodIn_app (goodIn_of _ (by decide +kernel)) ggX7_rumoured_X7_flag
theorem dX7_rumoured_0 : decode cX7_rumoured 0 = .ok (.iconst 0, 1) := by decide +kernel
theorem dX7_rumoured_1 : decode cX7_rumoured 1 = .ok (.istore_n 2, 1) := by decide +kernel
theorem dX7_rumoured_2 : decode cX7_rumoured 2 = .ok (.iconst 0, 1) := by decide +kernel
theorem dX7_rumoured_3 : decode cX7_rumoured 3 = .ok (.istore_n 3, 1) := by decide +kernel
theorem dX7_rumoured_4 : decode cX7_rumoured 4 = .ok (.iload_n 3, 1) := by decide +kernel
theorem dX7_rumoured_5 : decode cX7_rumoured 5 = .ok (.aload_n 0, 1) := by decide +kernel
theorem dX7_rumoured_6 : decode cX7_rumoured 6 = .ok (.getfield 102, 3) := by decide +kernel
theorem dX7_rumoured_9 : decode cX7_rumoured 9 = .ok (.if_icmp .ge 92, 3) := by decide +kernel
theorem dX7_rumoured_12 : decode cX7_rumoured 12 = .ok (.aload_n 0, 1) := by decide +kernel
theorem dX7_rumoured_13 : decode cX7_rumoured 13 = .ok (.getfield 20, 3) := by decide +kernel
theorem dX7_rumoured_16 : decode cX7_rumoured 16 = .ok (.iload_n 3, 1) := by decide +kernel
theorem dX7_rumoured_17 : decode cX7_rumoured 17 = .ok (.iaload, 1) := by decide +kernel
theorem dX7_rumoured_18 : decode cX7_rumoured 18 = .ok (.iload_n 1, 1) := by decide +kernel
theorem dX7_rumoured_19 : decode cX7_rumoured 19 = .ok (.if_icmp .ne 37, 3) := by decide +kernel
theorem dX7_rumoured_22 : decode cX7_rumoured 22 = .ok (.aload_n 0, 1) := by decide +kernel
theorem dX7_rumoured_23 : decode cX7_rumoured 23 = .ok (.getfield 23, 3) := by decide +kernel
theorem dX7_rumoured_26 : decode cX7_rumoured 26 = .ok (.iload_n 3, 1) := by decide +kernel
theorem dX7_rumoured_27 : decode cX7_rumoured 27 = .ok (.iaload, 1) := by decide +kernel
theorem dX7_rumoured_28 : decode cX7_rumoured 28 = .ok (.aload_n 0, 1) := by decide +kernel
theorem dX7_rumoured_29 : decode cX7_rumoured 29 = .ok (.getfield 13, 3) := by decide +kernel
theorem dX7_rumoured_32 : decode cX7_rumoured 32 = .ok (.bipush 25, 2) := by decide +kernel
theorem dX7_rumoured_34 : decode cX7_rumoured 34 = .ok (.iaload, 1) := by decide +kernel
theorem dX7_rumoured_35 : decode cX7_rumoured 35 = .ok (.if_icmp .lt 21, 3) := by decide +kernel
theorem dX7_rumoured_38 : decode cX7_rumoured 38 = .ok (.aload_n 0, 1) := by decide +kernel
theorem dX7_rumoured_39 : decode cX7_rumoured 39 = .ok (.getfield 13, 3) := by decide +kernel
theorem dX7_rumoured_42 : decode cX7_rumoured 42 = .ok (.bipush 16, 2) := by decide +kernel
theorem dX7_rumoured_44 : decode cX7_rumoured 44 = .ok (.iload_n 3, 1) := by decide +kernel
theorem dX7_rumoured_45 : decode cX7_rumoured 45 = .ok (.iadd, 1) := by decide +kernel
theorem dX7_rumoured_46 : decode cX7_rumoured 46 = .ok (.iaload, 1) := by decide +kernel
theorem dX7_rumoured_47 : decode cX7_rumoured 47 = .ok (.bipush 9, 2) := by decide +kernel
theorem dX7_rumoured_49 : decode cX7_rumoured 49 = .ok (.if_icmp .eq 7, 3) := by decide +kernel
theorem dX7_rumoured_52 : decode cX7_rumoured 52 = .ok (.iconst 1, 1) := by decide +kernel
theorem dX7_rumoured_53 : decode cX7_rumoured 53 = .ok (.goto 4, 3) := by decide +kernel
theorem dX7_rumoured_56 : decode cX7_rumoured 56 = .ok (.iconst 0, 1) := by decide +kernel
theorem dX7_rumoured_57 : decode cX7_rumoured 57 = .ok (.istore 4, 2) := by decide +kernel
theorem dX7_rumoured_59 : decode cX7_rumoured 59 = .ok (.iload_n 2, 1) := by decide +kernel
theorem dX7_rumoured_60 : decode cX7_rumoured 60 = .ok (.iload 4, 2) := by decide +kernel
theorem dX7_rumoured_62 : decode cX7_rumoured 62 = .ok (.invokestatic 224, 3) := by decide +kernel
theorem dX7_rumoured_65 : decode cX7_rumoured 65 = .ok (.iadd, 1) := by decide +kernel
theorem dX7_rumoured_66 : decode cX7_rumoured 66 = .ok (.istore_n 2, 1) := by decide +kernel
theorem dX7_rumoured_67 : decode cX7_rumoured 67 = .ok (.aload_n 0, 1) := by decide +kernel
theorem dX7_rumoured_68 : decode cX7_rumoured 68 = .ok (.getfield 13, 3) := by decide +kernel
theorem dX7_rumoured_71 : decode cX7_rumoured 71 = .ok (.bipush 16, 2) := by decide +kernel
theorem dX7_rumoured_73 : decode cX7_rumoured 73 = .ok (.iload_n 3, 1) := by decide +kernel
theorem dX7_rumoured_74 : decode cX7_rumoured 74 = .ok (.iadd, 1) := by decide +kernel
theorem dX7_rumoured_75 : decode cX7_rumoured 75 = .ok (.iload 4, 2) := by decide +kernel
theorem dX7_rumoured_77 : decode cX7_rumoured 77 = .ok (.ifCond .eq 8, 3) := by decide +kernel
theorem dX7_rumoured_80 : decode cX7_rumoured 80 = .ok (.bipush 9, 2) := by decide +kernel
theorem dX7_rumoured_82 : decode cX7_rumoured 82 = .ok (.goto 12, 3) := by decide +kernel
theorem dX7_rumoured_85 : decode cX7_rumoured 85 = .ok (.aload_n 0, 1) := by decide +kernel
theorem dX7_rumoured_86 : decode cX7_rumoured 86 = .ok (.getfield 13, 3) := by decide +kernel
theorem dX7_rumoured_89 : decode cX7_rumoured 89 = .ok (.bipush 16, 2) := by decide +kernel
theorem dX7_rumoured_91 : decode cX7_rumoured 91 = .ok (.iload_n 3, 1) := by decide +kernel
theorem dX7_rumoured_92 : decode cX7_rumoured 92 = .ok (.iadd, 1) := by decide +kernel
theorem dX7_rumoured_93 : decode cX7_rumoured 93 = .ok (.iaload, 1) := by decide +kernel
theorem dX7_rumoured_94 : decode cX7_rumoured 94 = .ok (.iastore, 1) := by decide +kernel
theorem dX7_rumoured_95 : decode cX7_rumoured 95 = .ok (.iinc 3 1, 3) := by decide +kernel
theorem dX7_rumoured_98 : decode cX7_rumoured 98 = .ok (.goto (-94), 3) := by decide +kernel
theorem dX7_rumoured_101 : decode cX7_rumoured 101 = .ok (.iload_n 2, 1) := by decide +kernel
theorem dX7_rumoured_102 : decode cX7_rumoured 102 = .ok (.ireturn, 1) := by decide +kernel
theorem dX7_settles_0 : decode cX7_settles 0 = .ok (.iconst 0, 1) := by decide +kernel
theorem dX7_settles_1 : decode cX7_settles 1 = .ok (.istore_n 1, 1) := by decide +kernel
theorem dX7_settles_2 : decode cX7_settles 2 = .ok (.iload_n 1, 1) := by decide +kernel
theorem dX7_settles_3 : decode cX7_settles 3 = .ok (.bipush 45, 2) := by decide +kernel
theorem dX7_settles_5 : decode cX7_settles 5 = .ok (.if_icmp .ge 21, 3) := by decide +kernel
theorem dX7_settles_8 : decode cX7_settles 8 = .ok (.aload_n 0, 1) := by decide +kernel
theorem dX7_settles_9 : decode cX7_settles 9 = .ok (.getfield 7, 3) := by decide +kernel
theorem dX7_settles_12 : decode cX7_settles 12 = .ok (.iload_n 1, 1) := by decide +kernel
theorem dX7_settles_13 : decode cX7_settles 13 = .ok (.aload_n 0, 1) := by decide +kernel
theorem dX7_settles_14 : decode cX7_settles 14 = .ok (.getfield 13, 3) := by decide +kernel
theorem dX7_settles_17 : decode cX7_settles 17 = .ok (.iload_n 1, 1) := by decide +kernel
theorem dX7_settles_18 : decode cX7_settles 18 = .ok (.iaload, 1) := by decide +kernel
theorem dX7_settles_19 : decode cX7_settles 19 = .ok (.iastore, 1) := by decide +kernel
theorem dX7_settles_20 : decode cX7_settles 20 = .ok (.iinc 1 1, 3) := by decide +kernel
theorem dX7_settles_23 : decode cX7_settles 23 = .ok (.goto (-21), 3) := by decide +kernel
theorem dX7_settles_26 : decode cX7_settles 26 = .ok (.return_, 1) := by decide +kernel
set_option maxRecDepth 20000 in
theorem ggX7_rumour_X7_isOne : GoodIn wsX7_rumour wsX7_isOne := goodIn_r _ [5, 6, 7, 8, 4, 9, 30, 31, 32, 33, 34, 35, 36, 37, 38, 39, 40, 41, 42, 43, 44, 45, 46, 47, 48, 49, 50, 51, 52, 53, 54, 55, 56, 57, 58, 59, 60, 61, 62, 63, 64, 65, 66, 67, 68] (by decide +kernel) (by decide +kernel)
set_option maxRecDepth 20000 in
theorem gX7_rumour_X7_isOne : GoodIn wsX7_rumour (wsV RX7 210 RX7 yX7_isOne wsX7_isOne) := goodIn_app (goodIn_of _ (by decide +kernel)) ggX7_rumour_X7_isOne
set_option maxRecDepth 20000 in
theorem ggX7_rumour_X7_starts : GoodIn wsX7_rumour wsX7_starts := goodIn_r _ [13, 14, 15, 30, 31, 32, 33, 34, 35, 36, 37, 38, 39, 40, 41, 42, 43, 44, 45, 46, 47, 48, 49, 50, 51, 52, 53, 54, 55, 56, 57, 58, 59, 60, 61, 62, 63, 64, 65, 66, 67, 68] (by decide +kernel) (by decide +kernel)
set_option maxRecDepth 20000 in
theorem gX7_rumour_X7_starts : GoodIn wsX7_rumour (wsV RX7 217 RX7 yX7_starts wsX7_starts) := goodIn_app (goodIn_of _ (by decide +kernel)) ggX7_rumour_X7_starts
set_option maxRecDepth 20000 in
theorem ggX7_rumour_X7_rumoured : GoodIn wsX7_rumour wsX7_rumoured := goodIn_r _ [19, 20, 21, 22, 14, 23, 24, 4, 25, 30, 31, 32, 33, 34, 35, 36, 37, 38, 39, 40, 41, 42, 43, 44, 45, 46, 47, 48, 49, 50, 51, 52, 53, 54, 55, 56, 57, 58, 59, 60, 61, 62, 63, 64, 65, 66, 67, 68] (by decide +kernel) (by decide +kernel)
set_option maxRecDepth 20000 in
theorem gX7_rumour_X7_rumoured : GoodIn wsX7_rumour (wsV RX7 228 RX7 yX7_rumoured wsX7_rumoured) := goodIn_app (goodIn_of _ (by decide +kernel)) ggX7_rumour_X7_rumoured
set_option maxRecDepth 20000 in
theorem ggX7_rumour_X7_settles : GoodIn wsX7_rumour wsX7_settles := goodIn_r _ [29, 15, 14, 30, 31, 32, 33, 34, 35, 36, 37, 38, 39, 40, 41, 42, 43, 44, 45, 46, 47, 48, 49, 50, 51, 52, 53, 54, 55, 56, 57, 58, 59, 60, 61, 62, 63, 64, 65, 66, 67, 68] (by decide +kernel) (by decide +kernel)
set_option maxRecDepth 20000 in
theorem gX7_rumour_X7_settles : GoodIn wsX7_rumour (wsV RX7 231 RX7 yX7_settles wsX7_settles) := goodIn_app (goodIn_of _ (by decide +kernel)) ggX7_rumour_X7_settles
theorem dX7_rumour_0 : decode cX7_rumour 0 = .ok (.aload_n 0, 1) := by decide +kernel
theorem dX7_rumour_1 : decode cX7_rumour 1 = .ok (.iload_n 1, 1) := by decide +kernel
theorem dX7_rumour_2 : decode cX7_rumour 2 = .ok (.invokevirtual 210, 3) := by decide +kernel
theorem dX7_rumour_5 : decode cX7_rumour 5 = .ok (.ifCond .ne 5, 3) := by decide +kernel
theorem dX7_rumour_8 : decode cX7_rumour 8 = .ok (.iconst (-1), 1) := by decide +kernel
theorem dX7_rumour_9 : decode cX7_rumour 9 = .ok (.ireturn, 1) := by decide +kernel
theorem dX7_rumour_10 : decode cX7_rumour 10 = .ok (.aload_n 0, 1) := by decide +kernel
theorem dX7_rumour_11 : decode cX7_rumour 11 = .ok (.invokevirtual 217, 3) := by decide +kernel
theorem dX7_rumour_14 : decode cX7_rumour 14 = .ok (.aload_n 0, 1) := by decide +kernel
theorem dX7_rumour_15 : decode cX7_rumour 15 = .ok (.iload_n 1, 1) := by decide +kernel
theorem dX7_rumour_16 : decode cX7_rumour 16 = .ok (.invokevirtual 228, 3) := by decide +kernel
theorem dX7_rumour_19 : decode cX7_rumour 19 = .ok (.istore_n 2, 1) := by decide +kernel
theorem dX7_rumour_20 : decode cX7_rumour 20 = .ok (.aload_n 0, 1) := by decide +kernel
theorem dX7_rumour_21 : decode cX7_rumour 21 = .ok (.invokevirtual 231, 3) := by decide +kernel
theorem dX7_rumour_24 : decode cX7_rumour 24 = .ok (.iload_n 2, 1) := by decide +kernel
theorem dX7_rumour_25 : decode cX7_rumour 25 = .ok (.ireturn, 1) := by decide +kernel
set_option maxRecDepth 20000 in
theorem ggX7_law_X7_isPart : GoodIn wsX7_law wsX7_isPart := goodIn_r _ [6, 7, 8, 5, 9] (by decide +kernel) (by decide +kernel)
set_option maxRecDepth 20000 in
theorem gX7_law_X7_isPart : GoodIn wsX7_law (va_wsS RX7 234 yX7_isPart wsX7_isPart) := goodIn_app (goodIn_of _ (by decide +kernel)) ggX7_law_X7_isPart
set_option maxRecDepth 20000 in
theorem ggX7_law_X7_in : GoodIn wsX7_law wsX7_in := goodIn_r _ [9] (by decide +kernel) (by decide +kernel)
set_option maxRecDepth 20000 in
theorem gX7_law_X7_in : GoodIn wsX7_law (va_wsS RX7 110 yX7_in wsX7_in) := goodIn_app (goodIn_of _ (by decide +kernel)) ggX7_law_X7_in
set_option maxRecDepth 20000 in
theorem ggX7_law_X7_becomes : GoodIn wsX7_law wsX7_becomes := goodIn_r _ [13, 14, 15, 16, 17, 18, 19, 20, 21, 22, 23, 24, 25, 26, 27, 28, 29, 30, 31, 32, 33, 34, 35, 36, 37, 38, 39, 40, 41, 42, 43, 44, 45, 46, 47, 48, 49, 50, 51, 52, 53] (by decide +kernel) (by decide +kernel)
set_option maxRecDepth 20000 in
theorem gX7_law_X7_becomes : GoodIn wsX7_law (wsV RX7 239 RX7 yX7_becomes wsX7_becomes) := goodIn_app (goodIn_of _ (by decide +kernel)) ggX7_law_X7_becomes
theorem dX7_law_0 : decode cX7_law 0 = .ok (.iload_n 1, 1) := by decide +kernel
theorem dX7_law_1 : decode cX7_law 1 = .ok (.invokestatic 234, 3) := by decide +kernel
theorem dX7_law_4 : decode cX7_law 4 = .ok (.ifCond .eq 25, 3) := by decide +kernel
theorem dX7_law_7 : decode cX7_law 7 = .ok (.iload_n 2, 1) := by decide +kernel
theorem dX7_law_8 : decode cX7_law 8 = .ok (.i2l, 1) := by decide +kernel
theorem dX7_law_9 : decode cX7_law 9 = .ok (.lconst 0, 1) := by decide +kernel
theorem dX7_law_10 : decode cX7_law 10 = .ok (.iload_n 1, 1) := by decide +kernel
theorem dX7_law_11 : decode cX7_law 11 = .ok (.ifCond .ne 9, 3) := by decide +kernel
theorem dX7_law_14 : decode cX7_law 14 = .ok (.ldc2_w 237, 3) := by decide +kernel
theorem dX7_law_17 : decode cX7_law 17 = .ok (.goto 6, 3) := by decide +kernel
theorem dX7_law_20 : decode cX7_law 20 = .ok (.ldc2_w 222, 3) := by decide +kernel
theorem dX7_law_23 : decode cX7_law 23 = .ok (.invokestatic 110, 3) := by decide +kernel
theorem dX7_law_26 : decode cX7_law 26 = .ok (.ifCond .ne 5, 3) := by decide +kernel
theorem dX7_law_29 : decode cX7_law 29 = .ok (.iconst (-1), 1) := by decide +kernel
theorem dX7_law_30 : decode cX7_law 30 = .ok (.ireturn, 1) := by decide +kernel
theorem dX7_law_31 : decode cX7_law 31 = .ok (.aload_n 0, 1) := by decide +kernel
theorem dX7_law_32 : decode cX7_law 32 = .ok (.iload_n 1, 1) := by decide +kernel
theorem dX7_law_33 : decode cX7_law 33 = .ok (.ifCond .ne 8, 3) := by decide +kernel
theorem dX7_law_36 : decode cX7_law 36 = .ok (.bipush 23, 2) := by decide +kernel
theorem dX7_law_38 : decode cX7_law 38 = .ok (.goto 5, 3) := by decide +kernel
theorem dX7_law_41 : decode cX7_law 41 = .ok (.bipush 24, 2) := by decide +kernel
theorem dX7_law_43 : decode cX7_law 43 = .ok (.iload_n 2, 1) := by decide +kernel
theorem dX7_law_44 : decode cX7_law 44 = .ok (.invokevirtual 239, 3) := by decide +kernel
theorem dX7_law_47 : decode cX7_law 47 = .ok (.ireturn, 1) := by decide +kernel
set_option maxRecDepth 20000 in
theorem ggX7_teach_X7_isOne : GoodIn wsX7_teach wsX7_isOne := goodIn_r _ [6, 7, 8, 9, 5, 10, 16, 17, 18, 19, 20, 21, 22, 23, 24, 25, 26, 27, 28, 29, 30, 31, 32, 33, 34, 35, 36, 37, 38, 39, 40, 41, 42, 43, 44, 45, 46, 47, 48, 49, 50, 51, 52, 53, 54] (by decide +kernel) (by decide +kernel)
set_option maxRecDepth 20000 in
theorem gX7_teach_X7_isOne : GoodIn wsX7_teach (wsV RX7 210 RX7 yX7_isOne wsX7_isOne) := goodIn_app (goodIn_of _ (by decide +kernel)) ggX7_teach_X7_isOne
set_option maxRecDepth 20000 in
theorem ggX7_teach_X7_in : GoodIn wsX7_teach wsX7_in := goodIn_r _ [10] (by decide +kernel) (by decide +kernel)
set_option maxRecDepth 20000 in
theorem gX7_teach_X7_in : GoodIn wsX7_teach (va_wsS RX7 110 yX7_in wsX7_in) := goodIn_app (goodIn_of _ (by decide +kernel)) ggX7_teach_X7_in
set_option maxRecDepth 20000 in
theorem ggX7_teach_X7_becomes : GoodIn wsX7_teach wsX7_becomes := goodIn_r _ [14, 15, 16, 17, 18, 19, 20, 21, 22, 23, 24, 25, 26, 27, 28, 29, 30, 31, 32, 33, 34, 35, 36, 37, 38, 39, 40, 41, 42, 43, 44, 45, 46, 47, 48, 49, 50, 51, 52, 53, 54] (by decide +kernel) (by decide +kernel)
set_option maxRecDepth 20000 in
theorem gX7_teach_X7_becomes : GoodIn wsX7_teach (wsV RX7 239 RX7 yX7_becomes wsX7_becomes) := goodIn_app (goodIn_of _ (by decide +kernel)) ggX7_teach_X7_becomes
theorem dX7_teach_0 : decode cX7_teach 0 = .ok (.aload_n 0, 1) := by decide +kernel
theorem dX7_teach_1 : decode cX7_teach 1 = .ok (.iload_n 1, 1) := by decide +kernel
theorem dX7_teach_2 : decode cX7_teach 2 = .ok (.invokevirtual 210, 3) := by decide +kernel
theorem dX7_teach_5 : decode cX7_teach 5 = .ok (.ifCond .eq 28, 3) := by decide +kernel
theorem dX7_teach_8 : decode cX7_teach 8 = .ok (.iload_n 2, 1) := by decide +kernel
theorem dX7_teach_9 : decode cX7_teach 9 = .ok (.i2l, 1) := by decide +kernel
theorem dX7_teach_10 : decode cX7_teach 10 = .ok (.lconst 0, 1) := by decide +kernel
theorem dX7_teach_11 : decode cX7_teach 11 = .ok (.ldc2_w 173, 3) := by decide +kernel
theorem dX7_teach_14 : decode cX7_teach 14 = .ok (.invokestatic 110, 3) := by decide +kernel
theorem dX7_teach_17 : decode cX7_teach 17 = .ok (.ifCond .eq 16, 3) := by decide +kernel
theorem dX7_teach_20 : decode cX7_teach 20 = .ok (.aload_n 0, 1) := by decide +kernel
theorem dX7_teach_21 : decode cX7_teach 21 = .ok (.iconst 4, 1) := by decide +kernel
theorem dX7_teach_22 : decode cX7_teach 22 = .ok (.iload_n 1, 1) := by decide +kernel
theorem dX7_teach_23 : decode cX7_teach 23 = .ok (.imul, 1) := by decide +kernel
theorem dX7_teach_24 : decode cX7_teach 24 = .ok (.iconst 0, 1) := by decide +kernel
theorem dX7_teach_25 : decode cX7_teach 25 = .ok (.iadd, 1) := by decide +kernel
theorem dX7_teach_26 : decode cX7_teach 26 = .ok (.iload_n 2, 1) := by decide +kernel
theorem dX7_teach_27 : decode cX7_teach 27 = .ok (.invokevirtual 239, 3) := by decide +kernel
theorem dX7_teach_30 : decode cX7_teach 30 = .ok (.goto 4, 3) := by decide +kernel
theorem dX7_teach_33 : decode cX7_teach 33 = .ok (.iconst (-1), 1) := by decide +kernel
theorem dX7_teach_34 : decode cX7_teach 34 = .ok (.ireturn, 1) := by decide +kernel
set_option maxRecDepth 20000 in
theorem ggX7_go_X7_in : GoodIn wsX7_go wsX7_in := goodIn_r _ [6] (by decide +kernel) (by decide +kernel)
set_option maxRecDepth 20000 in
theorem gX7_go_X7_in : GoodIn wsX7_go (va_wsS RX7 110 yX7_in wsX7_in) := goodIn_app (goodIn_of _ (by decide +kernel)) ggX7_go_X7_in
set_option maxRecDepth 20000 in
theorem ggX7_go_X7_starts : GoodIn wsX7_go wsX7_starts := goodIn_r _ [10, 11, 2, 61, 62, 63, 64, 65, 66, 67, 68, 69, 70, 71, 72, 73, 74, 75, 76, 77, 78, 79, 80, 81, 82, 83, 84, 85, 86, 87, 88, 89, 90, 91, 92, 93, 94, 95, 96, 97, 98, 99] (by decide +kernel) (by decide +kernel)
set_option maxRecDepth 20000 in
theorem gX7_go_X7_starts : GoodIn wsX7_go (wsV RX7 217 RX7 yX7_starts wsX7_starts) := goodIn_app (goodIn_of _ (by decide +kernel)) ggX7_go_X7_starts
set_option maxRecDepth 20000 in
theorem ggX7_go_X7_brazenIn : GoodIn wsX7_go wsX7_brazenIn := goodIn_r _ [15, 16, 17, 18, 5, 19, 20, 21, 22, 23, 11, 24, 25, 26, 27, 28, 29, 30, 31, 32, 33, 34, 35, 36, 37, 38, 39, 40, 41, 42, 43, 44, 45, 46, 47, 48, 49, 50, 51, 52, 53, 54, 55, 56, 2, 61, 62, 63, 64, 65, 66, 67, 68, 69, 70, 71, 72, 73, 74, 75, 76, 77, 78, 79, 80, 81, 82, 83, 84, 85, 86, 87, 88, 89, 90, 91, 92, 93, 94, 95, 96, 97, 98, 99] (by decide +kernel) (by decide +kernel)
set_option maxRecDepth 20000 in
theorem gX7_go_X7_brazenIn : GoodIn wsX7_go (wsV RX7 244 RX7 yX7_brazenIn wsX7_brazenIn) := goodIn_app (goodIn_of _ (by decide +kernel)) ggX7_go_X7_brazenIn
set_option maxRecDepth 20000 in
theorem ggX7_go_X7_settles : GoodIn wsX7_go wsX7_settles := goodIn_r _ [60, 2, 11, 61, 62, 63, 64, 65, 66, 67, 68, 69, 70, 71, 72, 73, 74, 75, 76, 77, 78, 79, 80, 81, 82, 83, 84, 85, 86, 87, 88, 89, 90, 91, 92, 93, 94, 95, 96, 97, 98, 99] (by decide +kernel) (by decide +kernel)
set_option maxRecDepth 20000 in
theorem gX7_go_X7_settles : GoodIn wsX7_go (wsV RX7 231 RX7 yX7_settles wsX7_settles) := goodIn_app (goodIn_of _ (by decide +kernel)) ggX7_go_X7_settles
theorem dX7_go_0 : decode cX7_go 0 = .ok (.iload_n 1, 1) := by decide +kernel
theorem dX7_go_1 : decode cX7_go 1 = .ok (.i2l, 1) := by decide +kernel
theorem dX7_go_2 : decode cX7_go 2 = .ok (.lconst 0, 1) := by decide +kernel
theorem dX7_go_3 : decode cX7_go 3 = .ok (.ldc2_w 242, 3) := by decide +kernel
theorem dX7_go_6 : decode cX7_go 6 = .ok (.invokestatic 110, 3) := by decide +kernel
theorem dX7_go_9 : decode cX7_go 9 = .ok (.ifCond .ne 5, 3) := by decide +kernel
theorem dX7_go_12 : decode cX7_go 12 = .ok (.iconst (-1), 1) := by decide +kernel
theorem dX7_go_13 : decode cX7_go 13 = .ok (.ireturn, 1) := by decide +kernel
theorem dX7_go_14 : decode cX7_go 14 = .ok (.aload_n 0, 1) := by decide +kernel
theorem dX7_go_15 : decode cX7_go 15 = .ok (.getfield 7, 3) := by decide +kernel
theorem dX7_go_18 : decode cX7_go 18 = .ok (.bipush 25, 2) := by decide +kernel
theorem dX7_go_20 : decode cX7_go 20 = .ok (.iaload, 1) := by decide +kernel
theorem dX7_go_21 : decode cX7_go 21 = .ok (.iload_n 1, 1) := by decide +kernel
theorem dX7_go_22 : decode cX7_go 22 = .ok (.iadd, 1) := by decide +kernel
theorem dX7_go_23 : decode cX7_go 23 = .ok (.bipush 99, 2) := by decide +kernel
theorem dX7_go_25 : decode cX7_go 25 = .ok (.if_icmp .le 6, 3) := by decide +kernel
theorem dX7_go_28 : decode cX7_go 28 = .ok (.bipush (-3), 2) := by decide +kernel
theorem dX7_go_30 : decode cX7_go 30 = .ok (.ireturn, 1) := by decide +kernel
theorem dX7_go_31 : decode cX7_go 31 = .ok (.aload_n 0, 1) := by decide +kernel
theorem dX7_go_32 : decode cX7_go 32 = .ok (.invokevirtual 217, 3) := by decide +kernel
theorem dX7_go_35 : decode cX7_go 35 = .ok (.aload_n 0, 1) := by decide +kernel
theorem dX7_go_36 : decode cX7_go 36 = .ok (.iload_n 1, 1) := by decide +kernel
theorem dX7_go_37 : decode cX7_go 37 = .ok (.invokevirtual 244, 3) := by decide +kernel
theorem dX7_go_40 : decode cX7_go 40 = .ok (.istore_n 2, 1) := by decide +kernel
theorem dX7_go_41 : decode cX7_go 41 = .ok (.aload_n 0, 1) := by decide +kernel
theorem dX7_go_42 : decode cX7_go 42 = .ok (.invokevirtual 231, 3) := by decide +kernel
theorem dX7_go_45 : decode cX7_go 45 = .ok (.iload_n 2, 1) := by decide +kernel
theorem dX7_go_46 : decode cX7_go 46 = .ok (.ireturn, 1) := by decide +kernel
set_option maxRecDepth 20000 in
theorem ggX7_ahead_X7_isOne : GoodIn wsX7_ahead wsX7_isOne := goodIn_r _ [9, 10, 11, 12, 8, 13, 54, 55, 56, 57, 58, 59, 60, 61, 62, 63, 64, 65, 66, 67, 68, 69, 70, 71, 72, 73, 74, 75, 76, 77, 78, 79, 80, 81, 82, 83, 84, 85, 86, 87, 88, 89, 90, 91, 92] (by decide +kernel) (by decide +kernel)
set_option maxRecDepth 20000 in
theorem gX7_ahead_X7_isOne : GoodIn wsX7_ahead (wsV RX7 210 RX7 yX7_isOne wsX7_isOne) := goodIn_app (goodIn_of _ (by decide +kernel)) ggX7_ahead_X7_isOne
set_option maxRecDepth 20000 in
theorem ggX7_ahead_X7_in : GoodIn wsX7_ahead wsX7_in := goodIn_r _ [13] (by decide +kernel) (by decide +kernel)
set_option maxRecDepth 20000 in
theorem gX7_ahead_X7_in : GoodIn wsX7_ahead (va_wsS RX7 110 yX7_in wsX7_in) := goodIn_app (goodIn_of _ (by decide +kernel)) ggX7_ahead_X7_in
set_option maxRecDepth 20000 in
theorem ggX7_ahead_X7_starts : GoodIn wsX7_ahead wsX7_starts := goodIn_r _ [17, 4, 3, 54, 55, 56, 57, 58, 59, 60, 61, 62, 63, 64, 65, 66, 67, 68, 69, 70, 71, 72, 73, 74, 75, 76, 77, 78, 79, 80, 81, 82, 83, 84, 85, 86, 87, 88, 89, 90, 91, 92] (by decide +kernel) (by decide +kernel)
set_option maxRecDepth 20000 in
theorem gX7_ahead_X7_starts : GoodIn wsX7_ahead (wsV RX7 217 RX7 yX7_starts wsX7_starts) := goodIn_app (goodIn_of _ (by decide +kernel)) ggX7_ahead_X7_starts
set_option maxRecDepth 20000 in
theorem ggX7_ahead_X7_weeksGo : GoodIn wsX7_ahead wsX7_weeksGo := goodIn_r _ [21, 22, 23, 24, 8, 25, 4, 26, 27, 28, 29, 30, 31, 10, 32, 33, 34, 35, 36, 37, 38, 39, 40, 41, 42, 43, 44, 45, 46, 47, 48, 49, 50, 51, 52, 53, 54, 55, 56, 57, 58, 59, 60, 61, 62, 63, 64, 65, 66, 67, 68, 69, 70, 71, 72, 73, 74, 75, 76, 77, 78, 79, 80, 81, 82, 83, 84, 85, 86, 87, 88, 89, 90, 91, 92] (by decide +kernel) (by decide +kernel)
set_option maxRecDepth 20000 in
theorem gX7_ahead_X7_weeksGo : GoodIn wsX7_ahead (wsV RX7 204 RX7 yX7_weeksGo wsX7_weeksGo) := goodIn_app (goodIn_of _ (by decide +kernel)) ggX7_ahead_X7_weeksGo
set_option maxRecDepth 20000 in
theorem ggX7_ahead_X7_of : GoodIn wsX7_ahead wsX7_of := goodIn_r _ [40, 4, 54, 55, 56, 57, 58, 59, 60, 61, 62, 63, 64, 65, 66, 67, 68, 69, 70, 71, 72, 73, 74, 75, 76, 77, 78, 79, 80, 81, 82, 83, 84, 85, 86, 87, 88, 89, 90, 91, 92] (by decide +kernel) (by decide +kernel)
set_option maxRecDepth 20000 in
theorem gX7_ahead_X7_of : GoodIn wsX7_ahead (wsV RX7 182 RX7 yX7_of wsX7_of) := goodIn_app (goodIn_of _ (by decide +kernel)) ggX7_ahead_X7_of
theorem dX7_ahead_0 : decode cX7_ahead 0 = .ok (.aload_n 0, 1) := by decide +kernel
theorem dX7_ahead_1 : decode cX7_ahead 1 = .ok (.iload_n 1, 1) := by decide +kernel
theorem dX7_ahead_2 : decode cX7_ahead 2 = .ok (.invokevirtual 210, 3) := by decide +kernel
theorem dX7_ahead_5 : decode cX7_ahead 5 = .ok (.ifCond .eq 27, 3) := by decide +kernel
theorem dX7_ahead_8 : decode cX7_ahead 8 = .ok (.iload_n 2, 1) := by decide +kernel
theorem dX7_ahead_9 : decode cX7_ahead 9 = .ok (.i2l, 1) := by decide +kernel
theorem dX7_ahead_10 : decode cX7_ahead 10 = .ok (.lconst 0, 1) := by decide +kernel
theorem dX7_ahead_11 : decode cX7_ahead 11 = .ok (.ldc2_w 242, 3) := by decide +kernel
theorem dX7_ahead_14 : decode cX7_ahead 14 = .ok (.invokestatic 110, 3) := by decide +kernel
theorem dX7_ahead_17 : decode cX7_ahead 17 = .ok (.ifCond .eq 15, 3) := by decide +kernel
theorem dX7_ahead_20 : decode cX7_ahead 20 = .ok (.iload_n 3, 1) := by decide +kernel
theorem dX7_ahead_21 : decode cX7_ahead 21 = .ok (.i2l, 1) := by decide +kernel
theorem dX7_ahead_22 : decode cX7_ahead 22 = .ok (.lconst 0, 1) := by decide +kernel
theorem dX7_ahead_23 : decode cX7_ahead 23 = .ok (.ldc2_w 173, 3) := by decide +kernel
theorem dX7_ahead_26 : decode cX7_ahead 26 = .ok (.invokestatic 110, 3) := by decide +kernel
theorem dX7_ahead_29 : decode cX7_ahead 29 = .ok (.ifCond .ne 5, 3) := by decide +kernel
theorem dX7_ahead_32 : decode cX7_ahead 32 = .ok (.iconst (-1), 1) := by decide +kernel
theorem dX7_ahead_33 : decode cX7_ahead 33 = .ok (.ireturn, 1) := by decide +kernel
theorem dX7_ahead_34 : decode cX7_ahead 34 = .ok (.aload_n 0, 1) := by decide +kernel
theorem dX7_ahead_35 : decode cX7_ahead 35 = .ok (.invokevirtual 217, 3) := by decide +kernel
theorem dX7_ahead_38 : decode cX7_ahead 38 = .ok (.aload_n 0, 1) := by decide +kernel
theorem dX7_ahead_39 : decode cX7_ahead 39 = .ok (.iload_n 2, 1) := by decide +kernel
theorem dX7_ahead_40 : decode cX7_ahead 40 = .ok (.invokevirtual 204, 3) := by decide +kernel
theorem dX7_ahead_43 : decode cX7_ahead 43 = .ok (.iload_n 3, 1) := by decide +kernel
theorem dX7_ahead_44 : decode cX7_ahead 44 = .ok (.ifCond .ne 12, 3) := by decide +kernel
theorem dX7_ahead_47 : decode cX7_ahead 47 = .ok (.aload_n 0, 1) := by decide +kernel
theorem dX7_ahead_48 : decode cX7_ahead 48 = .ok (.iload_n 1, 1) := by decide +kernel
theorem dX7_ahead_49 : decode cX7_ahead 49 = .ok (.iconst 1, 1) := by decide +kernel
theorem dX7_ahead_50 : decode cX7_ahead 50 = .ok (.invokevirtual 182, 3) := by decide +kernel
theorem dX7_ahead_53 : decode cX7_ahead 53 = .ok (.goto 49, 3) := by decide +kernel
theorem dX7_ahead_56 : decode cX7_ahead 56 = .ok (.iload_n 3, 1) := by decide +kernel
theorem dX7_ahead_57 : decode cX7_ahead 57 = .ok (.iconst 1, 1) := by decide +kernel
theorem dX7_ahead_58 : decode cX7_ahead 58 = .ok (.if_icmp .ne 12, 3) := by decide +kernel
theorem dX7_ahead_61 : decode cX7_ahead 61 = .ok (.aload_n 0, 1) := by decide +kernel
theorem dX7_ahead_62 : decode cX7_ahead 62 = .ok (.iload_n 1, 1) := by decide +kernel
theorem dX7_ahead_63 : decode cX7_ahead 63 = .ok (.iconst 2, 1) := by decide +kernel
theorem dX7_ahead_64 : decode cX7_ahead 64 = .ok (.invokevirtual 182, 3) := by decide +kernel
theorem dX7_ahead_67 : decode cX7_ahead 67 = .ok (.goto 35, 3) := by decide +kernel
theorem dX7_ahead_70 : decode cX7_ahead 70 = .ok (.iload_n 3, 1) := by decide +kernel
theorem dX7_ahead_71 : decode cX7_ahead 71 = .ok (.iconst 2, 1) := by decide +kernel
theorem dX7_ahead_72 : decode cX7_ahead 72 = .ok (.if_icmp .ne 23, 3) := by decide +kernel
theorem dX7_ahead_75 : decode cX7_ahead 75 = .ok (.aload_n 0, 1) := by decide +kernel
theorem dX7_ahead_76 : decode cX7_ahead 76 = .ok (.iload_n 1, 1) := by decide +kernel
theorem dX7_ahead_77 : decode cX7_ahead 77 = .ok (.iconst 3, 1) := by decide +kernel
theorem dX7_ahead_78 : decode cX7_ahead 78 = .ok (.invokevirtual 182, 3) := by decide +kernel
theorem dX7_ahead_81 : decode cX7_ahead 81 = .ok (.aload_n 0, 1) := by decide +kernel
theorem dX7_ahead_82 : decode cX7_ahead 82 = .ok (.getfield 7, 3) := by decide +kernel
theorem dX7_ahead_85 : decode cX7_ahead 85 = .ok (.iconst 4, 1) := by decide +kernel
theorem dX7_ahead_86 : decode cX7_ahead 86 = .ok (.iload_n 1, 1) := by decide +kernel
theorem dX7_ahead_87 : decode cX7_ahead 87 = .ok (.imul, 1) := by decide +kernel
theorem dX7_ahead_88 : decode cX7_ahead 88 = .ok (.iconst 3, 1) := by decide +kernel
theorem dX7_ahead_89 : decode cX7_ahead 89 = .ok (.iadd, 1) := by decide +kernel
theorem dX7_ahead_90 : decode cX7_ahead 90 = .ok (.iaload, 1) := by decide +kernel
theorem dX7_ahead_91 : decode cX7_ahead 91 = .ok (.isub, 1) := by decide +kernel
theorem dX7_ahead_92 : decode cX7_ahead 92 = .ok (.goto 10, 3) := by decide +kernel
theorem dX7_ahead_95 : decode cX7_ahead 95 = .ok (.aload_n 0, 1) := by decide +kernel
theorem dX7_ahead_96 : decode cX7_ahead 96 = .ok (.getfield 13, 3) := by decide +kernel
theorem dX7_ahead_99 : decode cX7_ahead 99 = .ok (.bipush 24, 2) := by decide +kernel
theorem dX7_ahead_101 : decode cX7_ahead 101 = .ok (.iaload, 1) := by decide +kernel
theorem dX7_ahead_102 : decode cX7_ahead 102 = .ok (.ireturn, 1) := by decide +kernel
set_option maxRecDepth 20000 in
theorem ggX7_first_X7_isOne : GoodIn wsX7_first wsX7_isOne := goodIn_r _ [7, 8, 9, 10, 6, 11, 48, 49, 50, 51, 52, 53, 54, 55, 56, 57, 58, 59, 60, 61, 62, 63, 64, 65, 66, 67, 68, 69, 70, 71, 72, 73, 74, 75, 76, 77, 78, 79, 80, 81, 82, 83, 84, 85, 86] (by decide +kernel) (by decide +kernel)
set_option maxRecDepth 20000 in
theorem gX7_first_X7_isOne : GoodIn wsX7_first (wsV RX7 210 RX7 yX7_isOne wsX7_isOne) := goodIn_app (goodIn_of _ (by decide +kernel)) ggX7_first_X7_isOne
set_option maxRecDepth 20000 in
theorem ggX7_first_X7_starts : GoodIn wsX7_first wsX7_starts := goodIn_r _ [15, 2, 16, 48, 49, 50, 51, 52, 53, 54, 55, 56, 57, 58, 59, 60, 61, 62, 63, 64, 65, 66, 67, 68, 69, 70, 71, 72, 73, 74, 75, 76, 77, 78, 79, 80, 81, 82, 83, 84, 85, 86] (by decide +kernel) (by decide +kernel)
set_option maxRecDepth 20000 in
theorem gX7_first_X7_starts : GoodIn wsX7_first (wsV RX7 217 RX7 yX7_starts wsX7_starts) := goodIn_app (goodIn_of _ (by decide +kernel)) ggX7_first_X7_starts
set_option maxRecDepth 20000 in
theorem ggX7_first_X7_weekGoes : GoodIn wsX7_first wsX7_weekGoes := goodIn_r _ [20, 2, 1, 21, 22, 23, 24, 25, 8, 26, 27, 28, 6, 29, 30, 31, 32, 33, 34, 35, 36, 37, 38, 39, 40, 41, 42, 43, 44, 45, 46, 47, 48, 49, 50, 51, 52, 53, 54, 55, 56, 57, 58, 59, 60, 61, 62, 63, 64, 65, 66, 67, 68, 69, 70, 71, 72, 73, 74, 75, 76, 77, 78, 79, 80, 81, 82, 83, 84, 85, 86] (by decide +kernel) (by decide +kernel)
set_option maxRecDepth 20000 in
theorem gX7_first_X7_weekGoes : GoodIn wsX7_first (wsV RX7 201 RX7 yX7_weekGoes wsX7_weekGoes) := goodIn_app (goodIn_of _ (by decide +kernel)) ggX7_first_X7_weekGoes
theorem dX7_first_0 : decode cX7_first 0 = .ok (.aload_n 0, 1) := by decide +kernel
theorem dX7_first_1 : decode cX7_first 1 = .ok (.iload_n 1, 1) := by decide +kernel
theorem dX7_first_2 : decode cX7_first 2 = .ok (.invokevirtual 210, 3) := by decide +kernel
theorem dX7_first_5 : decode cX7_first 5 = .ok (.ifCond .ne 5, 3) := by decide +kernel
theorem dX7_first_8 : decode cX7_first 8 = .ok (.iconst (-1), 1) := by decide +kernel
theorem dX7_first_9 : decode cX7_first 9 = .ok (.ireturn, 1) := by decide +kernel
theorem dX7_first_10 : decode cX7_first 10 = .ok (.aload_n 0, 1) := by decide +kernel
theorem dX7_first_11 : decode cX7_first 11 = .ok (.invokevirtual 217, 3) := by decide +kernel
theorem dX7_first_14 : decode cX7_first 14 = .ok (.iconst 0, 1) := by decide +kernel
theorem dX7_first_15 : decode cX7_first 15 = .ok (.istore_n 2, 1) := by decide +kernel
theorem dX7_first_16 : decode cX7_first 16 = .ok (.iload_n 2, 1) := by decide +kernel
theorem dX7_first_17 : decode cX7_first 17 = .ok (.bipush 20, 2) := by decide +kernel
theorem dX7_first_19 : decode cX7_first 19 = .ok (.if_icmp .ge 35, 3) := by decide +kernel
theorem dX7_first_22 : decode cX7_first 22 = .ok (.aload_n 0, 1) := by decide +kernel
theorem dX7_first_23 : decode cX7_first 23 = .ok (.invokevirtual 201, 3) := by decide +kernel
theorem dX7_first_26 : decode cX7_first 26 = .ok (.aload_n 0, 1) := by decide +kernel
theorem dX7_first_27 : decode cX7_first 27 = .ok (.getfield 192, 3) := by decide +kernel
theorem dX7_first_30 : decode cX7_first 30 = .ok (.iload_n 1, 1) := by decide +kernel
theorem dX7_first_31 : decode cX7_first 31 = .ok (.ishr, 1) := by decide +kernel
theorem dX7_first_32 : decode cX7_first 32 = .ok (.iconst 1, 1) := by decide +kernel
theorem dX7_first_33 : decode cX7_first 33 = .ok (.iand, 1) := by decide +kernel
theorem dX7_first_34 : decode cX7_first 34 = .ok (.iconst 1, 1) := by decide +kernel
theorem dX7_first_35 : decode cX7_first 35 = .ok (.if_icmp .ne 13, 3) := by decide +kernel
theorem dX7_first_38 : decode cX7_first 38 = .ok (.aload_n 0, 1) := by decide +kernel
theorem dX7_first_39 : decode cX7_first 39 = .ok (.getfield 13, 3) := by decide +kernel
theorem dX7_first_42 : decode cX7_first 42 = .ok (.bipush 25, 2) := by decide +kernel
theorem dX7_first_44 : decode cX7_first 44 = .ok (.iaload, 1) := by decide +kernel
theorem dX7_first_45 : decode cX7_first 45 = .ok (.iconst 1, 1) := by decide +kernel
theorem dX7_first_46 : decode cX7_first 46 = .ok (.isub, 1) := by decide +kernel
theorem dX7_first_47 : decode cX7_first 47 = .ok (.ireturn, 1) := by decide +kernel
theorem dX7_first_48 : decode cX7_first 48 = .ok (.iinc 2 1, 3) := by decide +kernel
theorem dX7_first_51 : decode cX7_first 51 = .ok (.goto (-35), 3) := by decide +kernel
theorem dX7_first_54 : decode cX7_first 54 = .ok (.bipush (-4), 2) := by decide +kernel
theorem dX7_first_56 : decode cX7_first 56 = .ok (.ireturn, 1) := by decide +kernel
set_option maxRecDepth 20000 in
theorem ggX7_modest_X7_starts : GoodIn wsX7_modest wsX7_starts := goodIn_r _ [6, 7, 8, 44, 45, 46, 47, 48, 49, 50, 51, 52, 53, 54, 55, 56, 57, 58, 59, 60, 61, 62, 63, 64, 65, 66, 67, 68, 69, 70, 71, 72, 73, 74, 75, 76, 77, 78, 79, 80, 81, 82] (by decide +kernel) (by decide +kernel)
set_option maxRecDepth 20000 in
theorem gX7_modest_X7_starts : GoodIn wsX7_modest (wsV RX7 217 RX7 yX7_starts wsX7_starts) := goodIn_app (goodIn_of _ (by decide +kernel)) ggX7_modest_X7_starts
set_option maxRecDepth 20000 in
theorem ggX7_modest_X7_weekGoes : GoodIn wsX7_modest wsX7_weekGoes := goodIn_r _ [12, 7, 1, 13, 14, 15, 16, 17, 18, 19, 20, 21, 5, 22, 23, 24, 25, 26, 27, 28, 29, 30, 31, 32, 33, 34, 35, 36, 37, 38, 39, 40, 44, 45, 46, 47, 48, 49, 50, 51, 52, 53, 54, 55, 56, 57, 58, 59, 60, 61, 62, 63, 64, 65, 66, 67, 68, 69, 70, 71, 72, 73, 74, 75, 76, 77, 78, 79, 80, 81, 82] (by decide +kernel) (by decide +kernel)
set_option maxRecDepth 20000 in
theorem gX7_modest_X7_weekGoes : GoodIn wsX7_modest (wsV RX7 201 RX7 yX7_weekGoes wsX7_weekGoes) := goodIn_app (goodIn_of _ (by decide +kernel)) ggX7_modest_X7_weekGoes
set_option maxRecDepth 20000 in
theorem ggX7_modest_X7_flag : GoodIn wsX7_modest wsX7_flag := goodIn_r _ [43] (by decide +kernel) (by decide +kernel)
set_option maxRecDepth 20000 in
theorem gX7_modest_X7_flag : GoodIn wsX7_modest (va_wsS RX7 224 yX7_flag wsX7_flag) := goodIn_app (goodIn_of _ (by decide +kernel)) ggX7_modest_X7_flag
theorem dX7_modest_0 : decode cX7_modest 0 = .ok (.iconst 0, 1) := by decide +kernel
theorem dX7_modest_1 : decode cX7_modest 1 = .ok (.istore_n 1, 1) := by decide +kernel
theorem dX7_modest_2 : decode cX7_modest 2 = .ok (.aload_n 0, 1) := by decide +kernel
theorem dX7_modest_3 : decode cX7_modest 3 = .ok (.invokevirtual 217, 3) := by decide +kernel
theorem dX7_modest_6 : decode cX7_modest 6 = .ok (.iconst 0, 1) := by decide +kernel
theorem dX7_modest_7 : decode cX7_modest 7 = .ok (.istore_n 2, 1) := by decide +kernel
theorem dX7_modest_8 : decode cX7_modest 8 = .ok (.iload_n 2, 1) := by decide +kernel
theorem dX7_modest_9 : decode cX7_modest 9 = .ok (.bipush 10, 2) := by decide +kernel
theorem dX7_modest_11 : decode cX7_modest 11 = .ok (.if_icmp .ge 31, 3) := by decide +kernel
theorem dX7_modest_14 : decode cX7_modest 14 = .ok (.aload_n 0, 1) := by decide +kernel
theorem dX7_modest_15 : decode cX7_modest 15 = .ok (.invokevirtual 201, 3) := by decide +kernel
theorem dX7_modest_18 : decode cX7_modest 18 = .ok (.iload_n 1, 1) := by decide +kernel
theorem dX7_modest_19 : decode cX7_modest 19 = .ok (.aload_n 0, 1) := by decide +kernel
theorem dX7_modest_20 : decode cX7_modest 20 = .ok (.getfield 192, 3) := by decide +kernel
theorem dX7_modest_23 : decode cX7_modest 23 = .ok (.ifCond .ne 7, 3) := by decide +kernel
theorem dX7_modest_26 : decode cX7_modest 26 = .ok (.iconst 1, 1) := by decide +kernel
theorem dX7_modest_27 : decode cX7_modest 27 = .ok (.goto 4, 3) := by decide +kernel
theorem dX7_modest_30 : decode cX7_modest 30 = .ok (.iconst 0, 1) := by decide +kernel
theorem dX7_modest_31 : decode cX7_modest 31 = .ok (.invokestatic 224, 3) := by decide +kernel
theorem dX7_modest_34 : decode cX7_modest 34 = .ok (.iadd, 1) := by decide +kernel
theorem dX7_modest_35 : decode cX7_modest 35 = .ok (.istore_n 1, 1) := by decide +kernel
theorem dX7_modest_36 : decode cX7_modest 36 = .ok (.iinc 2 1, 3) := by decide +kernel
theorem dX7_modest_39 : decode cX7_modest 39 = .ok (.goto (-31), 3) := by decide +kernel
theorem dX7_modest_42 : decode cX7_modest 42 = .ok (.iload_n 1, 1) := by decide +kernel
theorem dX7_modest_43 : decode cX7_modest 43 = .ok (.ireturn, 1) := by decide +kernel
theorem dX7_isPlan_0 : decode cX7_isPlan 0 = .ok (.iconst 1, 1) := by decide +kernel
theorem dX7_isPlan_1 : decode cX7_isPlan 1 = .ok (.istore_n 2, 1) := by decide +kernel
theorem dX7_isPlan_2 : decode cX7_isPlan 2 = .ok (.iconst 0, 1) := by decide +kernel
theorem dX7_isPlan_3 : decode cX7_isPlan 3 = .ok (.istore_n 3, 1) := by decide +kernel
theorem dX7_isPlan_4 : decode cX7_isPlan 4 = .ok (.iload_n 3, 1) := by decide +kernel
theorem dX7_isPlan_5 : decode cX7_isPlan 5 = .ok (.aload_n 0, 1) := by decide +kernel
theorem dX7_isPlan_6 : decode cX7_isPlan 6 = .ok (.getfield 102, 3) := by decide +kernel
theorem dX7_isPlan_9 : decode cX7_isPlan 9 = .ok (.if_icmp .ge 54, 3) := by decide +kernel
theorem dX7_isPlan_12 : decode cX7_isPlan 12 = .ok (.iload_n 2, 1) := by decide +kernel
theorem dX7_isPlan_13 : decode cX7_isPlan 13 = .ok (.ifCond .eq 42, 3) := by decide +kernel
theorem dX7_isPlan_16 : decode cX7_isPlan 16 = .ok (.aload_n 0, 1) := by decide +kernel
theorem dX7_isPlan_17 : decode cX7_isPlan 17 = .ok (.getfield 23, 3) := by decide +kernel
theorem dX7_isPlan_20 : decode cX7_isPlan 20 = .ok (.iload_n 3, 1) := by decide +kernel
theorem dX7_isPlan_21 : decode cX7_isPlan 21 = .ok (.iaload, 1) := by decide +kernel
theorem dX7_isPlan_22 : decode cX7_isPlan 22 = .ok (.aload_n 0, 1) := by decide +kernel
theorem dX7_isPlan_23 : decode cX7_isPlan 23 = .ok (.getfield 7, 3) := by decide +kernel
theorem dX7_isPlan_26 : decode cX7_isPlan 26 = .ok (.bipush 25, 2) := by decide +kernel
theorem dX7_isPlan_28 : decode cX7_isPlan 28 = .ok (.iaload, 1) := by decide +kernel
theorem dX7_isPlan_29 : decode cX7_isPlan 29 = .ok (.if_icmp .ge 22, 3) := by decide +kernel
theorem dX7_isPlan_32 : decode cX7_isPlan 32 = .ok (.iload_n 1, 1) := by decide +kernel
theorem dX7_isPlan_33 : decode cX7_isPlan 33 = .ok (.iload_n 3, 1) := by decide +kernel
theorem dX7_isPlan_34 : decode cX7_isPlan 34 = .ok (.ishr, 1) := by decide +kernel
theorem dX7_isPlan_35 : decode cX7_isPlan 35 = .ok (.iconst 1, 1) := by decide +kernel
theorem dX7_isPlan_36 : decode cX7_isPlan 36 = .ok (.iand, 1) := by decide +kernel
theorem dX7_isPlan_37 : decode cX7_isPlan 37 = .ok (.aload_n 0, 1) := by decide +kernel
theorem dX7_isPlan_38 : decode cX7_isPlan 38 = .ok (.getfield 7, 3) := by decide +kernel
theorem dX7_isPlan_41 : decode cX7_isPlan 41 = .ok (.bipush 22, 2) := by decide +kernel
theorem dX7_isPlan_43 : decode cX7_isPlan 43 = .ok (.iaload, 1) := by decide +kernel
theorem dX7_isPlan_44 : decode cX7_isPlan 44 = .ok (.iload_n 3, 1) := by decide +kernel
theorem dX7_isPlan_45 : decode cX7_isPlan 45 = .ok (.ishr, 1) := by decide +kernel
theorem dX7_isPlan_46 : decode cX7_isPlan 46 = .ok (.iconst 1, 1) := by decide +kernel
theorem dX7_isPlan_47 : decode cX7_isPlan 47 = .ok (.iand, 1) := by decide +kernel
theorem dX7_isPlan_48 : decode cX7_isPlan 48 = .ok (.if_icmp .ne 7, 3) := by decide +kernel
theorem dX7_isPlan_51 : decode cX7_isPlan 51 = .ok (.iconst 1, 1) := by decide +kernel
theorem dX7_isPlan_52 : decode cX7_isPlan 52 = .ok (.goto 4, 3) := by decide +kernel
theorem dX7_isPlan_55 : decode cX7_isPlan 55 = .ok (.iconst 0, 1) := by decide +kernel
theorem dX7_isPlan_56 : decode cX7_isPlan 56 = .ok (.istore_n 2, 1) := by decide +kernel
theorem dX7_isPlan_57 : decode cX7_isPlan 57 = .ok (.iinc 3 1, 3) := by decide +kernel
theorem dX7_isPlan_60 : decode cX7_isPlan 60 = .ok (.goto (-56), 3) := by decide +kernel
theorem dX7_isPlan_63 : decode cX7_isPlan 63 = .ok (.iload_n 2, 1) := by decide +kernel
theorem dX7_isPlan_64 : decode cX7_isPlan 64 = .ok (.ireturn, 1) := by decide +kernel
set_option maxRecDepth 20000 in
theorem ggX7_startsBy_X7_starts : GoodIn wsX7_startsBy wsX7_starts := goodIn_r _ [6, 1, 7, 8, 9, 10, 11, 12, 13, 14, 15, 16, 17, 18, 19, 20, 21, 22, 23, 24, 25, 26, 27, 28, 29, 30, 31, 32, 33, 34, 35, 36, 37, 38, 39, 40, 41, 42, 43, 44, 45, 46] (by decide +kernel) (by decide +kernel)
set_option maxRecDepth 20000 in
theorem gX7_startsBy_X7_starts : GoodIn wsX7_startsBy (wsV RX7 217 RX7 yX7_starts wsX7_starts) := goodIn_app (goodIn_of _ (by decide +kernel)) ggX7_startsBy_X7_starts
theorem dX7_startsBy_0 : decode cX7_startsBy 0 = .ok (.aload_n 0, 1) := by decide +kernel
theorem dX7_startsBy_1 : decode cX7_startsBy 1 = .ok (.invokevirtual 217, 3) := by decide +kernel
theorem dX7_startsBy_4 : decode cX7_startsBy 4 = .ok (.aload_n 0, 1) := by decide +kernel
theorem dX7_startsBy_5 : decode cX7_startsBy 5 = .ok (.getfield 13, 3) := by decide +kernel
theorem dX7_startsBy_8 : decode cX7_startsBy 8 = .ok (.bipush 22, 2) := by decide +kernel
theorem dX7_startsBy_10 : decode cX7_startsBy 10 = .ok (.iload_n 1, 1) := by decide +kernel
theorem dX7_startsBy_11 : decode cX7_startsBy 11 = .ok (.iastore, 1) := by decide +kernel
theorem dX7_startsBy_12 : decode cX7_startsBy 12 = .ok (.return_, 1) := by decide +kernel
set_option maxRecDepth 20000 in
theorem ggX7_plan_X7_in : GoodIn wsX7_plan wsX7_in := goodIn_r _ [5] (by decide +kernel) (by decide +kernel)
set_option maxRecDepth 20000 in
theorem gX7_plan_X7_in : GoodIn wsX7_plan (va_wsS RX7 110 yX7_in wsX7_in) := goodIn_app (goodIn_of _ (by decide +kernel)) ggX7_plan_X7_in
set_option maxRecDepth 20000 in
theorem ggX7_plan_X7_isPlan : GoodIn wsX7_plan wsX7_isPlan := goodIn_r _ [9, 1, 10, 11, 68, 69, 70, 71, 72, 73, 74, 75, 76, 77, 78, 79, 80, 81, 82, 83, 84, 85, 86, 87, 88, 89, 90, 91, 92, 93, 94, 95, 96, 97, 98, 99, 100, 101, 102, 103, 104, 105, 106] (by decide +kernel) (by decide +kernel)
set_option maxRecDepth 20000 in
theorem gX7_plan_X7_isPlan : GoodIn wsX7_plan (wsV RX7 247 RX7 yX7_isPlan wsX7_isPlan) := goodIn_app (goodIn_of _ (by decide +kernel)) ggX7_plan_X7_isPlan
set_option maxRecDepth 20000 in
theorem ggX7_plan_X7_startsBy : GoodIn wsX7_plan wsX7_startsBy := goodIn_r _ [15, 16, 17, 18, 19, 4, 20, 11, 68, 69, 70, 71, 72, 73, 74, 75, 76, 77, 78, 79, 80, 81, 82, 83, 84, 85, 86, 87, 88, 89, 90, 91, 92, 93, 94, 95, 96, 97, 98, 99, 100, 101, 102, 103, 104, 105, 106] (by decide +kernel) (by decide +kernel)
set_option maxRecDepth 20000 in
theorem gX7_plan_X7_startsBy : GoodIn wsX7_plan (wsV RX7 250 RX7 yX7_startsBy wsX7_startsBy) := goodIn_app (goodIn_of _ (by decide +kernel)) ggX7_plan_X7_startsBy
set_option maxRecDepth 20000 in
theorem ggX7_plan_X7_weeksLeft : GoodIn wsX7_plan wsX7_weeksLeft := goodIn_r _ [24, 11, 68, 69, 70, 71, 72, 73, 74, 75, 76, 77, 78, 79, 80, 81, 82, 83, 84, 85, 86, 87, 88, 89, 90, 91, 92, 93, 94, 95, 96, 97, 98, 99, 100, 101, 102, 103, 104, 105, 106] (by decide +kernel) (by decide +kernel)
set_option maxRecDepth 20000 in
theorem gX7_plan_X7_weeksLeft : GoodIn wsX7_plan (wsV RX7 253 RX7 yX7_weeksLeft wsX7_weeksLeft) := goodIn_app (goodIn_of _ (by decide +kernel)) ggX7_plan_X7_weeksLeft
set_option maxRecDepth 20000 in
theorem ggX7_plan_X7_brazenIn : GoodIn wsX7_plan wsX7_brazenIn := goodIn_r _ [28, 29, 30, 31, 4, 32, 33, 34, 35, 36, 16, 37, 1, 10, 38, 39, 40, 41, 42, 43, 44, 45, 46, 47, 48, 49, 50, 51, 52, 53, 54, 55, 56, 57, 58, 59, 60, 61, 62, 63, 64, 65, 66, 67, 11, 68, 69, 70, 71, 72, 73, 74, 75, 76, 77, 78, 79, 80, 81, 82, 83, 84, 85, 86, 87, 88, 89, 90, 91, 92, 93, 94, 95, 96, 97, 98, 99, 100, 101, 102, 103, 104, 105, 106] (by decide +kernel) (by decide +kernel)
set_option maxRecDepth 20000 in
theorem gX7_plan_X7_brazenIn : GoodIn wsX7_plan (wsV RX7 244 RX7 yX7_brazenIn wsX7_brazenIn) := goodIn_app (goodIn_of _ (by decide +kernel)) ggX7_plan_X7_brazenIn
theorem dX7_plan_0 : decode cX7_plan 0 = .ok (.iload_n 1, 1) := by decide +kernel
theorem dX7_plan_1 : decode cX7_plan 1 = .ok (.i2l, 1) := by decide +kernel
theorem dX7_plan_2 : decode cX7_plan 2 = .ok (.lconst 0, 1) := by decide +kernel
theorem dX7_plan_3 : decode cX7_plan 3 = .ok (.iconst 1, 1) := by decide +kernel
theorem dX7_plan_4 : decode cX7_plan 4 = .ok (.aload_n 0, 1) := by decide +kernel
theorem dX7_plan_5 : decode cX7_plan 5 = .ok (.getfield 102, 3) := by decide +kernel
theorem dX7_plan_8 : decode cX7_plan 8 = .ok (.ishl, 1) := by decide +kernel
theorem dX7_plan_9 : decode cX7_plan 9 = .ok (.iconst 1, 1) := by decide +kernel
theorem dX7_plan_10 : decode cX7_plan 10 = .ok (.isub, 1) := by decide +kernel
theorem dX7_plan_11 : decode cX7_plan 11 = .ok (.i2l, 1) := by decide +kernel
theorem dX7_plan_12 : decode cX7_plan 12 = .ok (.invokestatic 110, 3) := by decide +kernel
theorem dX7_plan_15 : decode cX7_plan 15 = .ok (.ifCond .ne 5, 3) := by decide +kernel
theorem dX7_plan_18 : decode cX7_plan 18 = .ok (.iconst (-1), 1) := by decide +kernel
theorem dX7_plan_19 : decode cX7_plan 19 = .ok (.ireturn, 1) := by decide +kernel
theorem dX7_plan_20 : decode cX7_plan 20 = .ok (.aload_n 0, 1) := by decide +kernel
theorem dX7_plan_21 : decode cX7_plan 21 = .ok (.iload_n 1, 1) := by decide +kernel
theorem dX7_plan_22 : decode cX7_plan 22 = .ok (.invokevirtual 247, 3) := by decide +kernel
theorem dX7_plan_25 : decode cX7_plan 25 = .ok (.ifCond .ne 6, 3) := by decide +kernel
theorem dX7_plan_28 : decode cX7_plan 28 = .ok (.bipush (-2), 2) := by decide +kernel
theorem dX7_plan_30 : decode cX7_plan 30 = .ok (.ireturn, 1) := by decide +kernel
theorem dX7_plan_31 : decode cX7_plan 31 = .ok (.aload_n 0, 1) := by decide +kernel
theorem dX7_plan_32 : decode cX7_plan 32 = .ok (.iload_n 1, 1) := by decide +kernel
theorem dX7_plan_33 : decode cX7_plan 33 = .ok (.invokevirtual 250, 3) := by decide +kernel
theorem dX7_plan_36 : decode cX7_plan 36 = .ok (.aload_n 0, 1) := by decide +kernel
theorem dX7_plan_37 : decode cX7_plan 37 = .ok (.aload_n 0, 1) := by decide +kernel
theorem dX7_plan_38 : decode cX7_plan 38 = .ok (.invokevirtual 253, 3) := by decide +kernel
theorem dX7_plan_41 : decode cX7_plan 41 = .ok (.invokevirtual 244, 3) := by decide +kernel
theorem dX7_plan_44 : decode cX7_plan 44 = .ok (.ireturn, 1) := by decide +kernel
theorem dX7_bitsOf_0 : decode cX7_bitsOf 0 = .ok (.iconst 0, 1) := by decide +kernel
theorem dX7_bitsOf_1 : decode cX7_bitsOf 1 = .ok (.istore_n 1, 1) := by decide +kernel
theorem dX7_bitsOf_2 : decode cX7_bitsOf 2 = .ok (.iconst 0, 1) := by decide +kernel
theorem dX7_bitsOf_3 : decode cX7_bitsOf 3 = .ok (.istore_n 2, 1) := by decide +kernel
theorem dX7_bitsOf_4 : decode cX7_bitsOf 4 = .ok (.iload_n 2, 1) := by decide +kernel
theorem dX7_bitsOf_5 : decode cX7_bitsOf 5 = .ok (.bipush 6, 2) := by decide +kernel
theorem dX7_bitsOf_7 : decode cX7_bitsOf 7 = .ok (.if_icmp .ge 17, 3) := by decide +kernel
theorem dX7_bitsOf_10 : decode cX7_bitsOf 10 = .ok (.iload_n 1, 1) := by decide +kernel
theorem dX7_bitsOf_11 : decode cX7_bitsOf 11 = .ok (.iload_n 0, 1) := by decide +kernel
theorem dX7_bitsOf_12 : decode cX7_bitsOf 12 = .ok (.iload_n 2, 1) := by decide +kernel
theorem dX7_bitsOf_13 : decode cX7_bitsOf 13 = .ok (.ishr, 1) := by decide +kernel
theorem dX7_bitsOf_14 : decode cX7_bitsOf 14 = .ok (.iconst 1, 1) := by decide +kernel
theorem dX7_bitsOf_15 : decode cX7_bitsOf 15 = .ok (.iand, 1) := by decide +kernel
theorem dX7_bitsOf_16 : decode cX7_bitsOf 16 = .ok (.iadd, 1) := by decide +kernel
theorem dX7_bitsOf_17 : decode cX7_bitsOf 17 = .ok (.istore_n 1, 1) := by decide +kernel
theorem dX7_bitsOf_18 : decode cX7_bitsOf 18 = .ok (.iinc 2 1, 3) := by decide +kernel
theorem dX7_bitsOf_21 : decode cX7_bitsOf 21 = .ok (.goto (-17), 3) := by decide +kernel
theorem dX7_bitsOf_24 : decode cX7_bitsOf 24 = .ok (.iload_n 1, 1) := by decide +kernel
theorem dX7_bitsOf_25 : decode cX7_bitsOf 25 = .ok (.ireturn, 1) := by decide +kernel
set_option maxRecDepth 20000 in
theorem ggX7_best_X7_isPart : GoodIn wsX7_best wsX7_isPart := goodIn_r _ [6, 7, 8, 5, 9] (by decide +kernel) (by decide +kernel)
set_option maxRecDepth 20000 in
theorem gX7_best_X7_isPart : GoodIn wsX7_best (va_wsS RX7 234 yX7_isPart wsX7_isPart) := goodIn_app (goodIn_of _ (by decide +kernel)) ggX7_best_X7_isPart
set_option maxRecDepth 20000 in
theorem ggX7_best_X7_isPlan : GoodIn wsX7_best wsX7_isPlan := goodIn_r _ [13, 2, 14, 15, 75, 76, 77, 78, 79, 80, 81, 82, 83, 84, 85, 86, 87, 88, 89, 90, 91, 92, 93, 94, 95, 96, 97, 98, 99, 100, 101, 102, 103, 104, 105, 106, 107, 108, 109, 110, 111, 112, 113] (by decide +kernel) (by decide +kernel)
set_option maxRecDepth 20000 in
theorem gX7_best_X7_isPlan : GoodIn wsX7_best (wsV RX7 247 RX7 yX7_isPlan wsX7_isPlan) := goodIn_app (goodIn_of _ (by decide +kernel)) ggX7_best_X7_isPlan
set_option maxRecDepth 20000 in
theorem ggX7_best_X7_startsBy : GoodIn wsX7_best wsX7_startsBy := goodIn_r _ [19, 20, 21, 22, 23, 5, 24, 15, 75, 76, 77, 78, 79, 80, 81, 82, 83, 84, 85, 86, 87, 88, 89, 90, 91, 92, 93, 94, 95, 96, 97, 98, 99, 100, 101, 102, 103, 104, 105, 106, 107, 108, 109, 110, 111, 112, 113] (by decide +kernel) (by decide +kernel)
set_option maxRecDepth 20000 in
theorem gX7_best_X7_startsBy : GoodIn wsX7_best (wsV RX7 250 RX7 yX7_startsBy wsX7_startsBy) := goodIn_app (goodIn_of _ (by decide +kernel)) ggX7_best_X7_startsBy
set_option maxRecDepth 20000 in
theorem ggX7_best_X7_weeksLeft : GoodIn wsX7_best wsX7_weeksLeft := goodIn_r _ [28, 15, 75, 76, 77, 78, 79, 80, 81, 82, 83, 84, 85, 86, 87, 88, 89, 90, 91, 92, 93, 94, 95, 96, 97, 98, 99, 100, 101, 102, 103, 104, 105, 106, 107, 108, 109, 110, 111, 112, 113] (by decide +kernel) (by decide +kernel)
set_option maxRecDepth 20000 in
theorem gX7_best_X7_weeksLeft : GoodIn wsX7_best (wsV RX7 253 RX7 yX7_weeksLeft wsX7_weeksLeft) := goodIn_app (goodIn_of _ (by decide +kernel)) ggX7_best_X7_weeksLeft
set_option maxRecDepth 20000 in
theorem ggX7_best_X7_brazenIn : GoodIn wsX7_best wsX7_brazenIn := goodIn_r _ [32, 33, 34, 35, 5, 36, 37, 38, 39, 40, 20, 41, 2, 14, 42, 43, 44, 45, 46, 47, 48, 49, 50, 51, 52, 53, 54, 55, 56, 57, 58, 59, 60, 61, 62, 63, 64, 65, 66, 67, 68, 69, 70, 71, 15, 75, 76, 77, 78, 79, 80, 81, 82, 83, 84, 85, 86, 87, 88, 89, 90, 91, 92, 93, 94, 95, 96, 97, 98, 99, 100, 101, 102, 103, 104, 105, 106, 107, 108, 109, 110, 111, 112, 113] (by decide +kernel) (by decide +kernel)
set_option maxRecDepth 20000 in
theorem gX7_best_X7_brazenIn : GoodIn wsX7_best (wsV RX7 244 RX7 yX7_brazenIn wsX7_brazenIn) := goodIn_app (goodIn_of _ (by decide +kernel)) ggX7_best_X7_brazenIn
set_option maxRecDepth 20000 in
theorem ggX7_best_X7_bitsOf : GoodIn wsX7_best wsX7_bitsOf := goodIn_r _ [74] (by decide +kernel) (by decide +kernel)
set_option maxRecDepth 20000 in
theorem gX7_best_X7_bitsOf : GoodIn wsX7_best (va_wsS RX7 257 yX7_bitsOf wsX7_bitsOf) := goodIn_app (goodIn_of _ (by decide +kernel)) ggX7_best_X7_bitsOf
theorem dX7_best_0 : decode cX7_best 0 = .ok (.iload_n 1, 1) := by decide +kernel
theorem dX7_best_1 : decode cX7_best 1 = .ok (.invokestatic 234, 3) := by decide +kernel
theorem dX7_best_4 : decode cX7_best 4 = .ok (.ifCond .ne 5, 3) := by decide +kernel
theorem dX7_best_7 : decode cX7_best 7 = .ok (.iconst (-1), 1) := by decide +kernel
theorem dX7_best_8 : decode cX7_best 8 = .ok (.ireturn, 1) := by decide +kernel
theorem dX7_best_9 : decode cX7_best 9 = .ok (.ldc_w 256, 3) := by decide +kernel
theorem dX7_best_12 : decode cX7_best 12 = .ok (.istore_n 2, 1) := by decide +kernel
theorem dX7_best_13 : decode cX7_best 13 = .ok (.iconst 0, 1) := by decide +kernel
theorem dX7_best_14 : decode cX7_best 14 = .ok (.istore_n 3, 1) := by decide +kernel
theorem dX7_best_15 : decode cX7_best 15 = .ok (.iconst 0, 1) := by decide +kernel
theorem dX7_best_16 : decode cX7_best 16 = .ok (.istore 4, 2) := by decide +kernel
theorem dX7_best_18 : decode cX7_best 18 = .ok (.iload 4, 2) := by decide +kernel
theorem dX7_best_20 : decode cX7_best 20 = .ok (.iconst 1, 1) := by decide +kernel
theorem dX7_best_21 : decode cX7_best 21 = .ok (.aload_n 0, 1) := by decide +kernel
theorem dX7_best_22 : decode cX7_best 22 = .ok (.getfield 102, 3) := by decide +kernel
theorem dX7_best_25 : decode cX7_best 25 = .ok (.ishl, 1) := by decide +kernel
theorem dX7_best_26 : decode cX7_best 26 = .ok (.if_icmp .ge 69, 3) := by decide +kernel
theorem dX7_best_29 : decode cX7_best 29 = .ok (.aload_n 0, 1) := by decide +kernel
theorem dX7_best_30 : decode cX7_best 30 = .ok (.iload 4, 2) := by decide +kernel
theorem dX7_best_32 : decode cX7_best 32 = .ok (.invokevirtual 247, 3) := by decide +kernel
theorem dX7_best_35 : decode cX7_best 35 = .ok (.ifCond .eq 54, 3) := by decide +kernel
theorem dX7_best_38 : decode cX7_best 38 = .ok (.aload_n 0, 1) := by decide +kernel
theorem dX7_best_39 : decode cX7_best 39 = .ok (.iload 4, 2) := by decide +kernel
theorem dX7_best_41 : decode cX7_best 41 = .ok (.invokevirtual 250, 3) := by decide +kernel
theorem dX7_best_44 : decode cX7_best 44 = .ok (.bipush 10, 2) := by decide +kernel
theorem dX7_best_46 : decode cX7_best 46 = .ok (.aload_n 0, 1) := by decide +kernel
theorem dX7_best_47 : decode cX7_best 47 = .ok (.aload_n 0, 1) := by decide +kernel
theorem dX7_best_48 : decode cX7_best 48 = .ok (.invokevirtual 253, 3) := by decide +kernel
theorem dX7_best_51 : decode cX7_best 51 = .ok (.invokevirtual 244, 3) := by decide +kernel
theorem dX7_best_54 : decode cX7_best 54 = .ok (.imul, 1) := by decide +kernel
theorem dX7_best_55 : decode cX7_best 55 = .ok (.iload 4, 2) := by decide +kernel
theorem dX7_best_57 : decode cX7_best 57 = .ok (.invokestatic 257, 3) := by decide +kernel
theorem dX7_best_60 : decode cX7_best 60 = .ok (.iadd, 1) := by decide +kernel
theorem dX7_best_61 : decode cX7_best 61 = .ok (.istore 5, 2) := by decide +kernel
theorem dX7_best_63 : decode cX7_best 63 = .ok (.iload 5, 2) := by decide +kernel
theorem dX7_best_65 : decode cX7_best 65 = .ok (.iload_n 2, 1) := by decide +kernel
theorem dX7_best_66 : decode cX7_best 66 = .ok (.if_icmp .ge 8, 3) := by decide +kernel
theorem dX7_best_69 : decode cX7_best 69 = .ok (.iload 4, 2) := by decide +kernel
theorem dX7_best_71 : decode cX7_best 71 = .ok (.goto 4, 3) := by decide +kernel
theorem dX7_best_74 : decode cX7_best 74 = .ok (.iload_n 3, 1) := by decide +kernel
theorem dX7_best_75 : decode cX7_best 75 = .ok (.istore_n 3, 1) := by decide +kernel
theorem dX7_best_76 : decode cX7_best 76 = .ok (.iload 5, 2) := by decide +kernel
theorem dX7_best_78 : decode cX7_best 78 = .ok (.iload_n 2, 1) := by decide +kernel
theorem dX7_best_79 : decode cX7_best 79 = .ok (.if_icmp .ge 8, 3) := by decide +kernel
theorem dX7_best_82 : decode cX7_best 82 = .ok (.iload 5, 2) := by decide +kernel
theorem dX7_best_84 : decode cX7_best 84 = .ok (.goto 4, 3) := by decide +kernel
theorem dX7_best_87 : decode cX7_best 87 = .ok (.iload_n 2, 1) := by decide +kernel
theorem dX7_best_88 : decode cX7_best 88 = .ok (.istore_n 2, 1) := by decide +kernel
theorem dX7_best_89 : decode cX7_best 89 = .ok (.iinc 4 1, 3) := by decide +kernel
theorem dX7_best_92 : decode cX7_best 92 = .ok (.goto (-74), 3) := by decide +kernel
theorem dX7_best_95 : decode cX7_best 95 = .ok (.iload_n 1, 1) := by decide +kernel
theorem dX7_best_96 : decode cX7_best 96 = .ok (.ifCond .ne 7, 3) := by decide +kernel
theorem dX7_best_99 : decode cX7_best 99 = .ok (.iload_n 3, 1) := by decide +kernel
theorem dX7_best_100 : decode cX7_best 100 = .ok (.goto 7, 3) := by decide +kernel
