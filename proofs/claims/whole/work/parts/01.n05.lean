theorem dX3_readLine_38 : decode cX3_readLine 38 = .ok (.iload_n 2, 1) := by decide +kernel
theorem dX3_readLine_39 : decode cX3_readLine 39 = .ok (.invokevirtual 93, 3) := by decide +kernel
theorem dX3_readLine_42 : decode cX3_readLine 42 = .ok (.return_, 1) := by decide +kernel
theorem dX3_readLine_43 : decode cX3_readLine 43 = .ok (.iconst 0, 1) := by decide +kernel
theorem dX3_readLine_44 : decode cX3_readLine 44 = .ok (.istore_n 3, 1) := by decide +kernel
theorem dX3_readLine_45 : decode cX3_readLine 45 = .ok (.iload_n 3, 1) := by decide +kernel
theorem dX3_readLine_46 : decode cX3_readLine 46 = .ok (.getstatic 105, 3) := by decide +kernel
theorem dX3_readLine_49 : decode cX3_readLine 49 = .ok (.iload_n 1, 1) := by decide +kernel
theorem dX3_readLine_50 : decode cX3_readLine 50 = .ok (.iaload, 1) := by decide +kernel
theorem dX3_readLine_51 : decode cX3_readLine 51 = .ok (.if_icmp .ge 35, 3) := by decide +kernel
theorem dX3_readLine_54 : decode cX3_readLine 54 = .ok (.aload_n 0, 1) := by decide +kernel
theorem dX3_readLine_55 : decode cX3_readLine 55 = .ok (.getfield 43, 3) := by decide +kernel
theorem dX3_readLine_58 : decode cX3_readLine 58 = .ok (.ifCond .ne 28, 3) := by decide +kernel
theorem dX3_readLine_61 : decode cX3_readLine 61 = .ok (.aload_n 0, 1) := by decide +kernel
theorem dX3_readLine_62 : decode cX3_readLine 62 = .ok (.getfield 29, 3) := by decide +kernel
theorem dX3_readLine_65 : decode cX3_readLine 65 = .ok (.iload_n 3, 1) := by decide +kernel
theorem dX3_readLine_66 : decode cX3_readLine 66 = .ok (.aload_n 0, 1) := by decide +kernel
theorem dX3_readLine_67 : decode cX3_readLine 67 = .ok (.getstatic 108, 3) := by decide +kernel
theorem dX3_readLine_70 : decode cX3_readLine 70 = .ok (.iload_n 1, 1) := by decide +kernel
theorem dX3_readLine_71 : decode cX3_readLine 71 = .ok (.iconst 4, 1) := by decide +kernel
theorem dX3_readLine_72 : decode cX3_readLine 72 = .ok (.imul, 1) := by decide +kernel
theorem dX3_readLine_73 : decode cX3_readLine 73 = .ok (.iload_n 3, 1) := by decide +kernel
theorem dX3_readLine_74 : decode cX3_readLine 74 = .ok (.iadd, 1) := by decide +kernel
theorem dX3_readLine_75 : decode cX3_readLine 75 = .ok (.iaload, 1) := by decide +kernel
theorem dX3_readLine_76 : decode cX3_readLine 76 = .ok (.invokevirtual 111, 3) := by decide +kernel
theorem dX3_readLine_79 : decode cX3_readLine 79 = .ok (.iastore, 1) := by decide +kernel
theorem dX3_readLine_80 : decode cX3_readLine 80 = .ok (.iinc 3 1, 3) := by decide +kernel
theorem dX3_readLine_83 : decode cX3_readLine 83 = .ok (.goto (-38), 3) := by decide +kernel
theorem dX3_readLine_86 : decode cX3_readLine 86 = .ok (.aload_n 0, 1) := by decide +kernel
theorem dX3_readLine_87 : decode cX3_readLine 87 = .ok (.getfield 43, 3) := by decide +kernel
theorem dX3_readLine_90 : decode cX3_readLine 90 = .ok (.ifCond .ne 8, 3) := by decide +kernel
theorem dX3_readLine_93 : decode cX3_readLine 93 = .ok (.aload_n 0, 1) := by decide +kernel
theorem dX3_readLine_94 : decode cX3_readLine 94 = .ok (.iconst 2, 1) := by decide +kernel
theorem dX3_readLine_95 : decode cX3_readLine 95 = .ok (.invokevirtual 114, 3) := by decide +kernel
theorem dX3_readLine_98 : decode cX3_readLine 98 = .ok (.aload_n 0, 1) := by decide +kernel
theorem dX3_readLine_99 : decode cX3_readLine 99 = .ok (.getfield 43, 3) := by decide +kernel
theorem dX3_readLine_102 : decode cX3_readLine 102 = .ok (.ifCond .ne 8, 3) := by decide +kernel
theorem dX3_readLine_105 : decode cX3_readLine 105 = .ok (.aload_n 0, 1) := by decide +kernel
theorem dX3_readLine_106 : decode cX3_readLine 106 = .ok (.iload_n 1, 1) := by decide +kernel
theorem dX3_readLine_107 : decode cX3_readLine 107 = .ok (.invokevirtual 117, 3) := by decide +kernel
theorem dX3_readLine_110 : decode cX3_readLine 110 = .ok (.return_, 1) := by decide +kernel
set_option maxRecDepth 20000 in
theorem ggX3_expect_X3_nextToken : GoodIn wsX3_expect wsX3_nextToken := goodIn_r _ [7, 8, 9, 10, 11, 2, 12, 13, 14, 6, 15, 16, 17, 18, 19, 20, 21, 22, 23, 1, 24, 25, 26, 27, 28, 29, 30, 31, 32, 33, 34, 35, 36] (by decide +kernel) (by decide +kernel)
set_option maxRecDepth 20000 in
theorem gX3_expect_X3_nextToken : GoodIn wsX3_expect (wsV RX3 40 RX3 yX3_nextToken wsX3_nextToken) := goodIn_app (goodIn_of _ (by decide +kernel)) ggX3_expect_X3_nextToken
set_option maxRecDepth 20000 in
theorem ggX3_expect_X3_refuse : GoodIn wsX3_expect wsX3_refuse := goodIn_r _ [23, 1, 11, 24, 25, 26, 27, 28, 29, 30, 31, 32, 33, 34, 35, 36] (by decide +kernel) (by decide +kernel)
set_option maxRecDepth 20000 in
theorem gX3_expect_X3_refuse : GoodIn wsX3_expect (wsV RX3 93 RX3 yX3_refuse wsX3_refuse) := goodIn_app (goodIn_of _ (by decide +kernel)) ggX3_expect_X3_refuse
theorem dX3_expect_0 : decode cX3_expect 0 = .ok (.aload_n 0, 1) := by decide +kernel
theorem dX3_expect_1 : decode cX3_expect 1 = .ok (.invokevirtual 40, 3) := by decide +kernel
theorem dX3_expect_4 : decode cX3_expect 4 = .ok (.aload_n 0, 1) := by decide +kernel
theorem dX3_expect_5 : decode cX3_expect 5 = .ok (.getfield 43, 3) := by decide +kernel
theorem dX3_expect_8 : decode cX3_expect 8 = .ok (.ifCond .ne 16, 3) := by decide +kernel
theorem dX3_expect_11 : decode cX3_expect 11 = .ok (.aload_n 0, 1) := by decide +kernel
theorem dX3_expect_12 : decode cX3_expect 12 = .ok (.getfield 46, 3) := by decide +kernel
theorem dX3_expect_15 : decode cX3_expect 15 = .ok (.iload_n 1, 1) := by decide +kernel
theorem dX3_expect_16 : decode cX3_expect 16 = .ok (.if_icmp .eq 8, 3) := by decide +kernel
theorem dX3_expect_19 : decode cX3_expect 19 = .ok (.aload_n 0, 1) := by decide +kernel
theorem dX3_expect_20 : decode cX3_expect 20 = .ok (.iconst 2, 1) := by decide +kernel
theorem dX3_expect_21 : decode cX3_expect 21 = .ok (.invokevirtual 93, 3) := by decide +kernel
theorem dX3_expect_24 : decode cX3_expect 24 = .ok (.return_, 1) := by decide +kernel
set_option maxRecDepth 20000 in
theorem ggX3_readNumber_X3_expect : GoodIn wsX3_readNumber wsX3_expect := goodIn_r _ [9, 1, 10, 11, 12, 13, 8, 14, 3, 15, 4, 2, 16, 17, 18, 19, 20, 21, 22, 23, 24, 25, 26, 27, 28, 29, 30, 31, 32, 33, 34, 35, 36, 37, 38, 39, 40] (by decide +kernel) (by decide +kernel)
set_option maxRecDepth 20000 in
theorem gX3_readNumber_X3_expect : GoodIn wsX3_readNumber (wsV RX3 114 RX3 yX3_expect wsX3_expect) := goodIn_app (goodIn_of _ (by decide +kernel)) ggX3_readNumber_X3_expect
set_option maxRecDepth 20000 in
theorem ggX3_readNumber_X3_refuse : GoodIn wsX3_readNumber wsX3_refuse := goodIn_r _ [27, 1, 2, 28, 29, 30, 31, 32, 33, 34, 35, 36, 37, 38, 39, 40] (by decide +kernel) (by decide +kernel)
set_option maxRecDepth 20000 in
theorem gX3_readNumber_X3_refuse : GoodIn wsX3_readNumber (wsV RX3 93 RX3 yX3_refuse wsX3_refuse) := goodIn_app (goodIn_of _ (by decide +kernel)) ggX3_readNumber_X3_refuse
theorem dX3_readNumber_0 : decode cX3_readNumber 0 = .ok (.aload_n 0, 1) := by decide +kernel
theorem dX3_readNumber_1 : decode cX3_readNumber 1 = .ok (.iconst 1, 1) := by decide +kernel
theorem dX3_readNumber_2 : decode cX3_readNumber 2 = .ok (.invokevirtual 114, 3) := by decide +kernel
theorem dX3_readNumber_5 : decode cX3_readNumber 5 = .ok (.aload_n 0, 1) := by decide +kernel
theorem dX3_readNumber_6 : decode cX3_readNumber 6 = .ok (.getfield 43, 3) := by decide +kernel
theorem dX3_readNumber_9 : decode cX3_readNumber 9 = .ok (.ifCond .eq 5, 3) := by decide +kernel
theorem dX3_readNumber_12 : decode cX3_readNumber 12 = .ok (.iconst 0, 1) := by decide +kernel
theorem dX3_readNumber_13 : decode cX3_readNumber 13 = .ok (.ireturn, 1) := by decide +kernel
theorem dX3_readNumber_14 : decode cX3_readNumber 14 = .ok (.iconst 0, 1) := by decide +kernel
theorem dX3_readNumber_15 : decode cX3_readNumber 15 = .ok (.istore_n 2, 1) := by decide +kernel
theorem dX3_readNumber_16 : decode cX3_readNumber 16 = .ok (.aload_n 0, 1) := by decide +kernel
theorem dX3_readNumber_17 : decode cX3_readNumber 17 = .ok (.getfield 84, 3) := by decide +kernel
theorem dX3_readNumber_20 : decode cX3_readNumber 20 = .ok (.istore_n 3, 1) := by decide +kernel
theorem dX3_readNumber_21 : decode cX3_readNumber 21 = .ok (.iload_n 3, 1) := by decide +kernel
theorem dX3_readNumber_22 : decode cX3_readNumber 22 = .ok (.aload_n 0, 1) := by decide +kernel
theorem dX3_readNumber_23 : decode cX3_readNumber 23 = .ok (.getfield 74, 3) := by decide +kernel
theorem dX3_readNumber_26 : decode cX3_readNumber 26 = .ok (.if_icmp .ge 24, 3) := by decide +kernel
theorem dX3_readNumber_29 : decode cX3_readNumber 29 = .ok (.iload_n 2, 1) := by decide +kernel
theorem dX3_readNumber_30 : decode cX3_readNumber 30 = .ok (.bipush 10, 2) := by decide +kernel
theorem dX3_readNumber_32 : decode cX3_readNumber 32 = .ok (.imul, 1) := by decide +kernel
theorem dX3_readNumber_33 : decode cX3_readNumber 33 = .ok (.aload_n 0, 1) := by decide +kernel
theorem dX3_readNumber_34 : decode cX3_readNumber 34 = .ok (.getfield 25, 3) := by decide +kernel
theorem dX3_readNumber_37 : decode cX3_readNumber 37 = .ok (.iload_n 3, 1) := by decide +kernel
theorem dX3_readNumber_38 : decode cX3_readNumber 38 = .ok (.baload, 1) := by decide +kernel
theorem dX3_readNumber_39 : decode cX3_readNumber 39 = .ok (.iadd, 1) := by decide +kernel
theorem dX3_readNumber_40 : decode cX3_readNumber 40 = .ok (.bipush 48, 2) := by decide +kernel
theorem dX3_readNumber_42 : decode cX3_readNumber 42 = .ok (.isub, 1) := by decide +kernel
theorem dX3_readNumber_43 : decode cX3_readNumber 43 = .ok (.istore_n 2, 1) := by decide +kernel
theorem dX3_readNumber_44 : decode cX3_readNumber 44 = .ok (.iinc 3 1, 3) := by decide +kernel
theorem dX3_readNumber_47 : decode cX3_readNumber 47 = .ok (.goto (-26), 3) := by decide +kernel
theorem dX3_readNumber_50 : decode cX3_readNumber 50 = .ok (.iload_n 2, 1) := by decide +kernel
theorem dX3_readNumber_51 : decode cX3_readNumber 51 = .ok (.iload_n 1, 1) := by decide +kernel
theorem dX3_readNumber_52 : decode cX3_readNumber 52 = .ok (.if_icmp .le 8, 3) := by decide +kernel
theorem dX3_readNumber_55 : decode cX3_readNumber 55 = .ok (.aload_n 0, 1) := by decide +kernel
theorem dX3_readNumber_56 : decode cX3_readNumber 56 = .ok (.iconst 3, 1) := by decide +kernel
theorem dX3_readNumber_57 : decode cX3_readNumber 57 = .ok (.invokevirtual 93, 3) := by decide +kernel
theorem dX3_readNumber_60 : decode cX3_readNumber 60 = .ok (.iload_n 2, 1) := by decide +kernel
theorem dX3_readNumber_61 : decode cX3_readNumber 61 = .ok (.ireturn, 1) := by decide +kernel
set_option maxRecDepth 20000 in
theorem ggX3_wordRead_X3_isWord : GoodIn wsX3_wordRead wsX3_isWord := goodIn_r _ [5, 6, 7, 8, 9, 10, 11, 12, 13, 14, 15, 16, 17, 18, 19, 20, 21, 22, 23, 24, 25, 26, 27, 28, 29, 30, 31, 32, 33, 34, 35, 36, 37, 38, 39, 40, 41, 42, 43, 44, 45, 46, 47, 48, 49, 50, 51, 52, 53, 54, 55, 56, 57, 58, 59, 60, 61, 62, 63, 64, 65, 66, 67, 68, 69] (by decide +kernel) (by decide +kernel)
set_option maxRecDepth 20000 in
theorem gX3_wordRead_X3_isWord : GoodIn wsX3_wordRead (wsV RX3 122 RX3 yX3_isWord wsX3_isWord) := goodIn_app (goodIn_of _ (by decide +kernel)) ggX3_wordRead_X3_isWord
theorem dX3_wordRead_0 : decode cX3_wordRead 0 = .ok (.aload_n 0, 1) := by decide +kernel
theorem dX3_wordRead_1 : decode cX3_wordRead 1 = .ok (.ldc 120, 2) := by decide +kernel
theorem dX3_wordRead_3 : decode cX3_wordRead 3 = .ok (.invokevirtual 122, 3) := by decide +kernel
theorem dX3_wordRead_6 : decode cX3_wordRead 6 = .ok (.ifCond .eq 5, 3) := by decide +kernel
theorem dX3_wordRead_9 : decode cX3_wordRead 9 = .ok (.iconst 0, 1) := by decide +kernel
theorem dX3_wordRead_10 : decode cX3_wordRead 10 = .ok (.ireturn, 1) := by decide +kernel
theorem dX3_wordRead_11 : decode cX3_wordRead 11 = .ok (.aload_n 0, 1) := by decide +kernel
theorem dX3_wordRead_12 : decode cX3_wordRead 12 = .ok (.ldc 126, 2) := by decide +kernel
theorem dX3_wordRead_14 : decode cX3_wordRead 14 = .ok (.invokevirtual 122, 3) := by decide +kernel
theorem dX3_wordRead_17 : decode cX3_wordRead 17 = .ok (.ifCond .eq 5, 3) := by decide +kernel
theorem dX3_wordRead_20 : decode cX3_wordRead 20 = .ok (.iconst 1, 1) := by decide +kernel
theorem dX3_wordRead_21 : decode cX3_wordRead 21 = .ok (.ireturn, 1) := by decide +kernel
theorem dX3_wordRead_22 : decode cX3_wordRead 22 = .ok (.aload_n 0, 1) := by decide +kernel
theorem dX3_wordRead_23 : decode cX3_wordRead 23 = .ok (.ldc 128, 2) := by decide +kernel
theorem dX3_wordRead_25 : decode cX3_wordRead 25 = .ok (.invokevirtual 122, 3) := by decide +kernel
theorem dX3_wordRead_28 : decode cX3_wordRead 28 = .ok (.ifCond .eq 5, 3) := by decide +kernel
theorem dX3_wordRead_31 : decode cX3_wordRead 31 = .ok (.iconst 2, 1) := by decide +kernel
theorem dX3_wordRead_32 : decode cX3_wordRead 32 = .ok (.ireturn, 1) := by decide +kernel
theorem dX3_wordRead_33 : decode cX3_wordRead 33 = .ok (.aload_n 0, 1) := by decide +kernel
theorem dX3_wordRead_34 : decode cX3_wordRead 34 = .ok (.ldc 130, 2) := by decide +kernel
theorem dX3_wordRead_36 : decode cX3_wordRead 36 = .ok (.invokevirtual 122, 3) := by decide +kernel
theorem dX3_wordRead_39 : decode cX3_wordRead 39 = .ok (.ifCond .eq 5, 3) := by decide +kernel
theorem dX3_wordRead_42 : decode cX3_wordRead 42 = .ok (.iconst 3, 1) := by decide +kernel
theorem dX3_wordRead_43 : decode cX3_wordRead 43 = .ok (.ireturn, 1) := by decide +kernel
theorem dX3_wordRead_44 : decode cX3_wordRead 44 = .ok (.aload_n 0, 1) := by decide +kernel
theorem dX3_wordRead_45 : decode cX3_wordRead 45 = .ok (.ldc 132, 2) := by decide +kernel
theorem dX3_wordRead_47 : decode cX3_wordRead 47 = .ok (.invokevirtual 122, 3) := by decide +kernel
theorem dX3_wordRead_50 : decode cX3_wordRead 50 = .ok (.ifCond .eq 5, 3) := by decide +kernel
theorem dX3_wordRead_53 : decode cX3_wordRead 53 = .ok (.iconst 4, 1) := by decide +kernel
theorem dX3_wordRead_54 : decode cX3_wordRead 54 = .ok (.ireturn, 1) := by decide +kernel
theorem dX3_wordRead_55 : decode cX3_wordRead 55 = .ok (.aload_n 0, 1) := by decide +kernel
theorem dX3_wordRead_56 : decode cX3_wordRead 56 = .ok (.ldc 134, 2) := by decide +kernel
theorem dX3_wordRead_58 : decode cX3_wordRead 58 = .ok (.invokevirtual 122, 3) := by decide +kernel
theorem dX3_wordRead_61 : decode cX3_wordRead 61 = .ok (.ifCond .eq 5, 3) := by decide +kernel
theorem dX3_wordRead_64 : decode cX3_wordRead 64 = .ok (.iconst 5, 1) := by decide +kernel
theorem dX3_wordRead_65 : decode cX3_wordRead 65 = .ok (.ireturn, 1) := by decide +kernel
theorem dX3_wordRead_66 : decode cX3_wordRead 66 = .ok (.aload_n 0, 1) := by decide +kernel
theorem dX3_wordRead_67 : decode cX3_wordRead 67 = .ok (.ldc 136, 2) := by decide +kernel
theorem dX3_wordRead_69 : decode cX3_wordRead 69 = .ok (.invokevirtual 122, 3) := by decide +kernel
theorem dX3_wordRead_72 : decode cX3_wordRead 72 = .ok (.ifCond .eq 6, 3) := by decide +kernel
theorem dX3_wordRead_75 : decode cX3_wordRead 75 = .ok (.bipush 6, 2) := by decide +kernel
theorem dX3_wordRead_77 : decode cX3_wordRead 77 = .ok (.ireturn, 1) := by decide +kernel
theorem dX3_wordRead_78 : decode cX3_wordRead 78 = .ok (.aload_n 0, 1) := by decide +kernel
theorem dX3_wordRead_79 : decode cX3_wordRead 79 = .ok (.ldc 137, 2) := by decide +kernel
theorem dX3_wordRead_81 : decode cX3_wordRead 81 = .ok (.invokevirtual 122, 3) := by decide +kernel
theorem dX3_wordRead_84 : decode cX3_wordRead 84 = .ok (.ifCond .eq 8, 3) := by decide +kernel
theorem dX3_wordRead_87 : decode cX3_wordRead 87 = .ok (.bipush 7, 2) := by decide +kernel
theorem dX3_wordRead_89 : decode cX3_wordRead 89 = .ok (.goto 4, 3) := by decide +kernel
theorem dX3_wordRead_92 : decode cX3_wordRead 92 = .ok (.iconst (-1), 1) := by decide +kernel
theorem dX3_wordRead_93 : decode cX3_wordRead 93 = .ok (.ireturn, 1) := by decide +kernel
set_option maxRecDepth 20000 in
theorem ggX3_isWord_J0_length_8abf5 : GoodIn wsX3_isWord wsJ0_length_8abf5 := goodIn_r _ [8, 9, 10, 11, 12, 7, 13, 14, 15] (by decide +kernel) (by decide +kernel)
set_option maxRecDepth 20000 in
theorem gX3_isWord_J0_length_8abf5 : GoodIn wsX3_isWord (wsV RX3 138 RJ0 yJ0_length_8abf5 wsJ0_length_8abf5) := goodIn_app (goodIn_of _ (by decide +kernel)) ggX3_isWord_J0_length_8abf5
set_option maxRecDepth 20000 in
theorem ggX3_isWord_J0_charAt_5068e : GoodIn wsX3_isWord wsJ0_charAt_5068e := goodIn_r _ [19, 9, 20, 21, 22, 7, 23, 14, 15, 24, 25, 26, 27, 28, 29, 30, 31, 32, 33, 34, 35, 36, 37, 38, 39, 40, 41, 42, 43, 44, 45, 46, 47, 48, 49, 50, 51, 52] (by decide +kernel) (by decide +kernel)
set_option maxRecDepth 20000 in
theorem gX3_isWord_J0_charAt_5068e : GoodIn wsX3_isWord (wsV RX3 142 RJ0 yJ0_charAt_5068e wsJ0_charAt_5068e) := goodIn_app (goodIn_of _ (by decide +kernel)) ggX3_isWord_J0_charAt_5068e
theorem dX3_isWord_0 : decode cX3_isWord 0 = .ok (.aload_n 1, 1) := by decide +kernel
theorem dX3_isWord_1 : decode cX3_isWord 1 = .ok (.invokevirtual 138, 3) := by decide +kernel
theorem dX3_isWord_4 : decode cX3_isWord 4 = .ok (.aload_n 0, 1) := by decide +kernel
theorem dX3_isWord_5 : decode cX3_isWord 5 = .ok (.getfield 74, 3) := by decide +kernel
theorem dX3_isWord_8 : decode cX3_isWord 8 = .ok (.aload_n 0, 1) := by decide +kernel
theorem dX3_isWord_9 : decode cX3_isWord 9 = .ok (.getfield 84, 3) := by decide +kernel
theorem dX3_isWord_12 : decode cX3_isWord 12 = .ok (.isub, 1) := by decide +kernel
theorem dX3_isWord_13 : decode cX3_isWord 13 = .ok (.if_icmp .eq 5, 3) := by decide +kernel
theorem dX3_isWord_16 : decode cX3_isWord 16 = .ok (.iconst 0, 1) := by decide +kernel
theorem dX3_isWord_17 : decode cX3_isWord 17 = .ok (.ireturn, 1) := by decide +kernel
theorem dX3_isWord_18 : decode cX3_isWord 18 = .ok (.iconst 0, 1) := by decide +kernel
theorem dX3_isWord_19 : decode cX3_isWord 19 = .ok (.istore_n 2, 1) := by decide +kernel
theorem dX3_isWord_20 : decode cX3_isWord 20 = .ok (.iload_n 2, 1) := by decide +kernel
theorem dX3_isWord_21 : decode cX3_isWord 21 = .ok (.aload_n 1, 1) := by decide +kernel
theorem dX3_isWord_22 : decode cX3_isWord 22 = .ok (.invokevirtual 138, 3) := by decide +kernel
theorem dX3_isWord_25 : decode cX3_isWord 25 = .ok (.if_icmp .ge 30, 3) := by decide +kernel
theorem dX3_isWord_28 : decode cX3_isWord 28 = .ok (.aload_n 0, 1) := by decide +kernel
theorem dX3_isWord_29 : decode cX3_isWord 29 = .ok (.getfield 25, 3) := by decide +kernel
theorem dX3_isWord_32 : decode cX3_isWord 32 = .ok (.aload_n 0, 1) := by decide +kernel
theorem dX3_isWord_33 : decode cX3_isWord 33 = .ok (.getfield 84, 3) := by decide +kernel
theorem dX3_isWord_36 : decode cX3_isWord 36 = .ok (.iload_n 2, 1) := by decide +kernel
theorem dX3_isWord_37 : decode cX3_isWord 37 = .ok (.iadd, 1) := by decide +kernel
theorem dX3_isWord_38 : decode cX3_isWord 38 = .ok (.baload, 1) := by decide +kernel
theorem dX3_isWord_39 : decode cX3_isWord 39 = .ok (.aload_n 1, 1) := by decide +kernel
theorem dX3_isWord_40 : decode cX3_isWord 40 = .ok (.iload_n 2, 1) := by decide +kernel
theorem dX3_isWord_41 : decode cX3_isWord 41 = .ok (.invokevirtual 142, 3) := by decide +kernel
theorem dX3_isWord_44 : decode cX3_isWord 44 = .ok (.if_icmp .eq 5, 3) := by decide +kernel
theorem dX3_isWord_47 : decode cX3_isWord 47 = .ok (.iconst 0, 1) := by decide +kernel
theorem dX3_isWord_48 : decode cX3_isWord 48 = .ok (.ireturn, 1) := by decide +kernel
theorem dX3_isWord_49 : decode cX3_isWord 49 = .ok (.iinc 2 1, 3) := by decide +kernel
theorem dX3_isWord_52 : decode cX3_isWord 52 = .ok (.goto (-32), 3) := by decide +kernel
theorem dX3_isWord_55 : decode cX3_isWord 55 = .ok (.iconst 1, 1) := by decide +kernel
theorem dX3_isWord_56 : decode cX3_isWord 56 = .ok (.ireturn, 1) := by decide +kernel
theorem dX3_faultOfWord_0 : decode cX3_faultOfWord 0 = .ok (.iload_n 1, 1) := by decide +kernel
theorem dX3_faultOfWord_1 : decode cX3_faultOfWord 1 = .ok (.tableswitch 93 4 7 #[57, 75, 31, 44], 31) := by decide +kernel
theorem dX3_faultOfWord_32 : decode cX3_faultOfWord 32 = .ok (.aload_n 0, 1) := by decide +kernel
theorem dX3_faultOfWord_33 : decode cX3_faultOfWord 33 = .ok (.getfield 77, 3) := by decide +kernel
theorem dX3_faultOfWord_36 : decode cX3_faultOfWord 36 = .ok (.ifCond .eq 7, 3) := by decide +kernel
theorem dX3_faultOfWord_39 : decode cX3_faultOfWord 39 = .ok (.iconst 4, 1) := by decide +kernel
theorem dX3_faultOfWord_40 : decode cX3_faultOfWord 40 = .ok (.goto 4, 3) := by decide +kernel
theorem dX3_faultOfWord_43 : decode cX3_faultOfWord 43 = .ok (.iconst 0, 1) := by decide +kernel
theorem dX3_faultOfWord_44 : decode cX3_faultOfWord 44 = .ok (.ireturn, 1) := by decide +kernel
theorem dX3_faultOfWord_45 : decode cX3_faultOfWord 45 = .ok (.aload_n 0, 1) := by decide +kernel
theorem dX3_faultOfWord_46 : decode cX3_faultOfWord 46 = .ok (.getfield 81, 3) := by decide +kernel
theorem dX3_faultOfWord_49 : decode cX3_faultOfWord 49 = .ok (.ifCond .eq 7, 3) := by decide +kernel
theorem dX3_faultOfWord_52 : decode cX3_faultOfWord 52 = .ok (.iconst 4, 1) := by decide +kernel
theorem dX3_faultOfWord_53 : decode cX3_faultOfWord 53 = .ok (.goto 4, 3) := by decide +kernel
theorem dX3_faultOfWord_56 : decode cX3_faultOfWord 56 = .ok (.iconst 0, 1) := by decide +kernel
theorem dX3_faultOfWord_57 : decode cX3_faultOfWord 57 = .ok (.ireturn, 1) := by decide +kernel
theorem dX3_faultOfWord_58 : decode cX3_faultOfWord 58 = .ok (.aload_n 0, 1) := by decide +kernel
theorem dX3_faultOfWord_59 : decode cX3_faultOfWord 59 = .ok (.getfield 12, 3) := by decide +kernel
theorem dX3_faultOfWord_62 : decode cX3_faultOfWord 62 = .ok (.getfield 62, 3) := by decide +kernel
theorem dX3_faultOfWord_65 : decode cX3_faultOfWord 65 = .ok (.bipush 6, 2) := by decide +kernel
theorem dX3_faultOfWord_67 : decode cX3_faultOfWord 67 = .ok (.if_icmp .lt 7, 3) := by decide +kernel
theorem dX3_faultOfWord_70 : decode cX3_faultOfWord 70 = .ok (.iconst 5, 1) := by decide +kernel
theorem dX3_faultOfWord_71 : decode cX3_faultOfWord 71 = .ok (.goto 4, 3) := by decide +kernel
theorem dX3_faultOfWord_74 : decode cX3_faultOfWord 74 = .ok (.iconst 0, 1) := by decide +kernel
theorem dX3_faultOfWord_75 : decode cX3_faultOfWord 75 = .ok (.ireturn, 1) := by decide +kernel
theorem dX3_faultOfWord_76 : decode cX3_faultOfWord 76 = .ok (.aload_n 0, 1) := by decide +kernel
theorem dX3_faultOfWord_77 : decode cX3_faultOfWord 77 = .ok (.getfield 12, 3) := by decide +kernel
theorem dX3_faultOfWord_80 : decode cX3_faultOfWord 80 = .ok (.getfield 65, 3) := by decide +kernel
theorem dX3_faultOfWord_83 : decode cX3_faultOfWord 83 = .ok (.bipush 6, 2) := by decide +kernel
theorem dX3_faultOfWord_85 : decode cX3_faultOfWord 85 = .ok (.if_icmp .lt 7, 3) := by decide +kernel
theorem dX3_faultOfWord_88 : decode cX3_faultOfWord 88 = .ok (.iconst 5, 1) := by decide +kernel
theorem dX3_faultOfWord_89 : decode cX3_faultOfWord 89 = .ok (.goto 4, 3) := by decide +kernel
theorem dX3_faultOfWord_92 : decode cX3_faultOfWord 92 = .ok (.iconst 0, 1) := by decide +kernel
theorem dX3_faultOfWord_93 : decode cX3_faultOfWord 93 = .ok (.ireturn, 1) := by decide +kernel
theorem dX3_faultOfWord_94 : decode cX3_faultOfWord 94 = .ok (.aload_n 0, 1) := by decide +kernel
theorem dX3_faultOfWord_95 : decode cX3_faultOfWord 95 = .ok (.getfield 21, 3) := by decide +kernel
theorem dX3_faultOfWord_98 : decode cX3_faultOfWord 98 = .ok (.getfield 52, 3) := by decide +kernel
theorem dX3_faultOfWord_101 : decode cX3_faultOfWord 101 = .ok (.iconst 4, 1) := by decide +kernel
theorem dX3_faultOfWord_102 : decode cX3_faultOfWord 102 = .ok (.if_icmp .lt 7, 3) := by decide +kernel
theorem dX3_faultOfWord_105 : decode cX3_faultOfWord 105 = .ok (.iconst 5, 1) := by decide +kernel
theorem dX3_faultOfWord_106 : decode cX3_faultOfWord 106 = .ok (.goto 4, 3) := by decide +kernel
theorem dX3_faultOfWord_109 : decode cX3_faultOfWord 109 = .ok (.iconst 0, 1) := by decide +kernel
theorem dX3_faultOfWord_110 : decode cX3_faultOfWord 110 = .ok (.ireturn, 1) := by decide +kernel
set_option maxRecDepth 20000 in
theorem ggX3_tell_X3_tellTrip : GoodIn wsX3_tell wsX3_tellTrip := goodIn_r _ [14, 15, 16, 17, 2, 18, 19, 1, 20, 29, 30, 31, 32, 33, 34, 35, 36, 37, 38, 39, 40, 52, 53, 54, 55, 56, 57, 58, 59, 41, 42, 43, 44, 45, 46, 47, 48, 49, 50, 51] (by decide +kernel) (by decide +kernel)
set_option maxRecDepth 20000 in
theorem gX3_tell_X3_tellTrip : GoodIn wsX3_tell (wsV RX3 146 RX3 yX3_tellTrip wsX3_tellTrip) := goodIn_app (goodIn_of _ (by decide +kernel)) ggX3_tell_X3_tellTrip
set_option maxRecDepth 20000 in
theorem ggX3_tell_X3_tellAsked : GoodIn wsX3_tell wsX3_tellAsked := goodIn_r _ [24, 15, 25, 26, 2, 27, 28, 29, 30, 31, 32, 33, 34, 35, 36, 37, 38, 39, 40, 52, 53, 54, 55, 56, 57, 58, 59] (by decide +kernel) (by decide +kernel)
set_option maxRecDepth 20000 in
theorem gX3_tell_X3_tellAsked : GoodIn wsX3_tell (wsV RX3 149 RX3 yX3_tellAsked wsX3_tellAsked) := goodIn_app (goodIn_of _ (by decide +kernel)) ggX3_tell_X3_tellAsked
theorem dX3_tell_0 : decode cX3_tell 0 = .ok (.iload_n 1, 1) := by decide +kernel
theorem dX3_tell_1 : decode cX3_tell 1 = .ok (.tableswitch 87 4 7 #[31, 38, 45, 66], 31) := by decide +kernel
theorem dX3_tell_32 : decode cX3_tell 32 = .ok (.aload_n 0, 1) := by decide +kernel
theorem dX3_tell_33 : decode cX3_tell 33 = .ok (.invokevirtual 146, 3) := by decide +kernel
theorem dX3_tell_36 : decode cX3_tell 36 = .ok (.goto 102, 3) := by decide +kernel
theorem dX3_tell_39 : decode cX3_tell 39 = .ok (.aload_n 0, 1) := by decide +kernel
theorem dX3_tell_40 : decode cX3_tell 40 = .ok (.invokevirtual 149, 3) := by decide +kernel
theorem dX3_tell_43 : decode cX3_tell 43 = .ok (.goto 95, 3) := by decide +kernel
theorem dX3_tell_46 : decode cX3_tell 46 = .ok (.aload_n 0, 1) := by decide +kernel
theorem dX3_tell_47 : decode cX3_tell 47 = .ok (.getfield 21, 3) := by decide +kernel
theorem dX3_tell_50 : decode cX3_tell 50 = .ok (.aload_n 0, 1) := by decide +kernel
theorem dX3_tell_51 : decode cX3_tell 51 = .ok (.getfield 29, 3) := by decide +kernel
theorem dX3_tell_54 : decode cX3_tell 54 = .ok (.iconst 0, 1) := by decide +kernel
theorem dX3_tell_55 : decode cX3_tell 55 = .ok (.iaload, 1) := by decide +kernel
theorem dX3_tell_56 : decode cX3_tell 56 = .ok (.putfield 68, 3) := by decide +kernel
theorem dX3_tell_59 : decode cX3_tell 59 = .ok (.aload_n 0, 1) := by decide +kernel
theorem dX3_tell_60 : decode cX3_tell 60 = .ok (.iconst 1, 1) := by decide +kernel
theorem dX3_tell_61 : decode cX3_tell 61 = .ok (.putfield 77, 3) := by decide +kernel
theorem dX3_tell_64 : decode cX3_tell 64 = .ok (.goto 74, 3) := by decide +kernel
theorem dX3_tell_67 : decode cX3_tell 67 = .ok (.aload_n 0, 1) := by decide +kernel
theorem dX3_tell_68 : decode cX3_tell 68 = .ok (.getfield 21, 3) := by decide +kernel
theorem dX3_tell_71 : decode cX3_tell 71 = .ok (.aload_n 0, 1) := by decide +kernel
theorem dX3_tell_72 : decode cX3_tell 72 = .ok (.getfield 29, 3) := by decide +kernel
theorem dX3_tell_75 : decode cX3_tell 75 = .ok (.iconst 0, 1) := by decide +kernel
theorem dX3_tell_76 : decode cX3_tell 76 = .ok (.iaload, 1) := by decide +kernel
theorem dX3_tell_77 : decode cX3_tell 77 = .ok (.putfield 71, 3) := by decide +kernel
theorem dX3_tell_80 : decode cX3_tell 80 = .ok (.aload_n 0, 1) := by decide +kernel
theorem dX3_tell_81 : decode cX3_tell 81 = .ok (.iconst 1, 1) := by decide +kernel
theorem dX3_tell_82 : decode cX3_tell 82 = .ok (.putfield 81, 3) := by decide +kernel
theorem dX3_tell_85 : decode cX3_tell 85 = .ok (.goto 53, 3) := by decide +kernel
theorem dX3_tell_88 : decode cX3_tell 88 = .ok (.aload_n 0, 1) := by decide +kernel
theorem dX3_tell_89 : decode cX3_tell 89 = .ok (.getfield 21, 3) := by decide +kernel
theorem dX3_tell_92 : decode cX3_tell 92 = .ok (.getfield 152, 3) := by decide +kernel
theorem dX3_tell_95 : decode cX3_tell 95 = .ok (.aload_n 0, 1) := by decide +kernel
theorem dX3_tell_96 : decode cX3_tell 96 = .ok (.getfield 21, 3) := by decide +kernel
theorem dX3_tell_99 : decode cX3_tell 99 = .ok (.getfield 52, 3) := by decide +kernel
theorem dX3_tell_102 : decode cX3_tell 102 = .ok (.iload_n 1, 1) := by decide +kernel
theorem dX3_tell_103 : decode cX3_tell 103 = .ok (.iastore, 1) := by decide +kernel
theorem dX3_tell_104 : decode cX3_tell 104 = .ok (.aload_n 0, 1) := by decide +kernel
theorem dX3_tell_105 : decode cX3_tell 105 = .ok (.getfield 21, 3) := by decide +kernel
theorem dX3_tell_108 : decode cX3_tell 108 = .ok (.getfield 155, 3) := by decide +kernel
theorem dX3_tell_111 : decode cX3_tell 111 = .ok (.aload_n 0, 1) := by decide +kernel
theorem dX3_tell_112 : decode cX3_tell 112 = .ok (.getfield 21, 3) := by decide +kernel
theorem dX3_tell_115 : decode cX3_tell 115 = .ok (.getfield 52, 3) := by decide +kernel
theorem dX3_tell_118 : decode cX3_tell 118 = .ok (.aload_n 0, 1) := by decide +kernel
theorem dX3_tell_119 : decode cX3_tell 119 = .ok (.getfield 29, 3) := by decide +kernel
theorem dX3_tell_122 : decode cX3_tell 122 = .ok (.iconst 0, 1) := by decide +kernel
theorem dX3_tell_123 : decode cX3_tell 123 = .ok (.iaload, 1) := by decide +kernel
theorem dX3_tell_124 : decode cX3_tell 124 = .ok (.iastore, 1) := by decide +kernel
theorem dX3_tell_125 : decode cX3_tell 125 = .ok (.aload_n 0, 1) := by decide +kernel
theorem dX3_tell_126 : decode cX3_tell 126 = .ok (.getfield 21, 3) := by decide +kernel
theorem dX3_tell_129 : decode cX3_tell 129 = .ok (.dup, 1) := by decide +kernel
theorem dX3_tell_130 : decode cX3_tell 130 = .ok (.getfield 52, 3) := by decide +kernel
theorem dX3_tell_133 : decode cX3_tell 133 = .ok (.iconst 1, 1) := by decide +kernel
theorem dX3_tell_134 : decode cX3_tell 134 = .ok (.iadd, 1) := by decide +kernel
theorem dX3_tell_135 : decode cX3_tell 135 = .ok (.putfield 52, 3) := by decide +kernel
theorem dX3_tell_138 : decode cX3_tell 138 = .ok (.return_, 1) := by decide +kernel
theorem dX3_tellTrip_0 : decode cX3_tellTrip 0 = .ok (.aload_n 0, 1) := by decide +kernel
theorem dX3_tellTrip_1 : decode cX3_tellTrip 1 = .ok (.getfield 12, 3) := by decide +kernel
theorem dX3_tellTrip_4 : decode cX3_tellTrip 4 = .ok (.getfield 62, 3) := by decide +kernel
theorem dX3_tellTrip_7 : decode cX3_tellTrip 7 = .ok (.istore_n 1, 1) := by decide +kernel
theorem dX3_tellTrip_8 : decode cX3_tellTrip 8 = .ok (.aload_n 0, 1) := by decide +kernel
theorem dX3_tellTrip_9 : decode cX3_tellTrip 9 = .ok (.getfield 12, 3) := by decide +kernel
theorem dX3_tellTrip_12 : decode cX3_tellTrip 12 = .ok (.getfield 158, 3) := by decide +kernel
theorem dX3_tellTrip_15 : decode cX3_tellTrip 15 = .ok (.iload_n 1, 1) := by decide +kernel
theorem dX3_tellTrip_16 : decode cX3_tellTrip 16 = .ok (.aload_n 0, 1) := by decide +kernel
theorem dX3_tellTrip_17 : decode cX3_tellTrip 17 = .ok (.getfield 29, 3) := by decide +kernel
theorem dX3_tellTrip_20 : decode cX3_tellTrip 20 = .ok (.iconst 0, 1) := by decide +kernel
theorem dX3_tellTrip_21 : decode cX3_tellTrip 21 = .ok (.iaload, 1) := by decide +kernel
theorem dX3_tellTrip_22 : decode cX3_tellTrip 22 = .ok (.iastore, 1) := by decide +kernel
theorem dX3_tellTrip_23 : decode cX3_tellTrip 23 = .ok (.aload_n 0, 1) := by decide +kernel
theorem dX3_tellTrip_24 : decode cX3_tellTrip 24 = .ok (.getfield 12, 3) := by decide +kernel
theorem dX3_tellTrip_27 : decode cX3_tellTrip 27 = .ok (.getfield 161, 3) := by decide +kernel
theorem dX3_tellTrip_30 : decode cX3_tellTrip 30 = .ok (.iload_n 1, 1) := by decide +kernel
theorem dX3_tellTrip_31 : decode cX3_tellTrip 31 = .ok (.aload_n 0, 1) := by decide +kernel
theorem dX3_tellTrip_32 : decode cX3_tellTrip 32 = .ok (.getfield 29, 3) := by decide +kernel
theorem dX3_tellTrip_35 : decode cX3_tellTrip 35 = .ok (.iconst 1, 1) := by decide +kernel
theorem dX3_tellTrip_36 : decode cX3_tellTrip 36 = .ok (.iaload, 1) := by decide +kernel
theorem dX3_tellTrip_37 : decode cX3_tellTrip 37 = .ok (.iastore, 1) := by decide +kernel
theorem dX3_tellTrip_38 : decode cX3_tellTrip 38 = .ok (.aload_n 0, 1) := by decide +kernel
theorem dX3_tellTrip_39 : decode cX3_tellTrip 39 = .ok (.getfield 12, 3) := by decide +kernel
theorem dX3_tellTrip_42 : decode cX3_tellTrip 42 = .ok (.getfield 164, 3) := by decide +kernel
theorem dX3_tellTrip_45 : decode cX3_tellTrip 45 = .ok (.iload_n 1, 1) := by decide +kernel
theorem dX3_tellTrip_46 : decode cX3_tellTrip 46 = .ok (.aload_n 0, 1) := by decide +kernel
theorem dX3_tellTrip_47 : decode cX3_tellTrip 47 = .ok (.getfield 29, 3) := by decide +kernel
theorem dX3_tellTrip_50 : decode cX3_tellTrip 50 = .ok (.iconst 2, 1) := by decide +kernel
theorem dX3_tellTrip_51 : decode cX3_tellTrip 51 = .ok (.iaload, 1) := by decide +kernel
theorem dX3_tellTrip_52 : decode cX3_tellTrip 52 = .ok (.iastore, 1) := by decide +kernel
theorem dX3_tellTrip_53 : decode cX3_tellTrip 53 = .ok (.aload_n 0, 1) := by decide +kernel
theorem dX3_tellTrip_54 : decode cX3_tellTrip 54 = .ok (.getfield 21, 3) := by decide +kernel
theorem dX3_tellTrip_57 : decode cX3_tellTrip 57 = .ok (.getfield 167, 3) := by decide +kernel
theorem dX3_tellTrip_60 : decode cX3_tellTrip 60 = .ok (.iload_n 1, 1) := by decide +kernel
theorem dX3_tellTrip_61 : decode cX3_tellTrip 61 = .ok (.aload_n 0, 1) := by decide +kernel
theorem dX3_tellTrip_62 : decode cX3_tellTrip 62 = .ok (.getfield 29, 3) := by decide +kernel
theorem dX3_tellTrip_65 : decode cX3_tellTrip 65 = .ok (.iconst 3, 1) := by decide +kernel
theorem dX3_tellTrip_66 : decode cX3_tellTrip 66 = .ok (.iaload, 1) := by decide +kernel
theorem dX3_tellTrip_67 : decode cX3_tellTrip 67 = .ok (.iastore, 1) := by decide +kernel
theorem dX3_tellTrip_68 : decode cX3_tellTrip 68 = .ok (.aload_n 0, 1) := by decide +kernel
theorem dX3_tellTrip_69 : decode cX3_tellTrip 69 = .ok (.getfield 12, 3) := by decide +kernel
theorem dX3_tellTrip_72 : decode cX3_tellTrip 72 = .ok (.dup, 1) := by decide +kernel
theorem dX3_tellTrip_73 : decode cX3_tellTrip 73 = .ok (.getfield 62, 3) := by decide +kernel
theorem dX3_tellTrip_76 : decode cX3_tellTrip 76 = .ok (.iconst 1, 1) := by decide +kernel
theorem dX3_tellTrip_77 : decode cX3_tellTrip 77 = .ok (.iadd, 1) := by decide +kernel
theorem dX3_tellTrip_78 : decode cX3_tellTrip 78 = .ok (.putfield 62, 3) := by decide +kernel
theorem dX3_tellTrip_81 : decode cX3_tellTrip 81 = .ok (.return_, 1) := by decide +kernel
theorem dX3_tellAsked_0 : decode cX3_tellAsked 0 = .ok (.aload_n 0, 1) := by decide +kernel
theorem dX3_tellAsked_1 : decode cX3_tellAsked 1 = .ok (.getfield 12, 3) := by decide +kernel
theorem dX3_tellAsked_4 : decode cX3_tellAsked 4 = .ok (.getfield 65, 3) := by decide +kernel
theorem dX3_tellAsked_7 : decode cX3_tellAsked 7 = .ok (.istore_n 1, 1) := by decide +kernel
theorem dX3_tellAsked_8 : decode cX3_tellAsked 8 = .ok (.aload_n 0, 1) := by decide +kernel
theorem dX3_tellAsked_9 : decode cX3_tellAsked 9 = .ok (.getfield 12, 3) := by decide +kernel
theorem dX3_tellAsked_12 : decode cX3_tellAsked 12 = .ok (.getfield 170, 3) := by decide +kernel
theorem dX3_tellAsked_15 : decode cX3_tellAsked 15 = .ok (.iload_n 1, 1) := by decide +kernel
theorem dX3_tellAsked_16 : decode cX3_tellAsked 16 = .ok (.aload_n 0, 1) := by decide +kernel
theorem dX3_tellAsked_17 : decode cX3_tellAsked 17 = .ok (.getfield 29, 3) := by decide +kernel
theorem dX3_tellAsked_20 : decode cX3_tellAsked 20 = .ok (.iconst 0, 1) := by decide +kernel
theorem dX3_tellAsked_21 : decode cX3_tellAsked 21 = .ok (.iaload, 1) := by decide +kernel
theorem dX3_tellAsked_22 : decode cX3_tellAsked 22 = .ok (.iastore, 1) := by decide +kernel
theorem dX3_tellAsked_23 : decode cX3_tellAsked 23 = .ok (.aload_n 0, 1) := by decide +kernel
theorem dX3_tellAsked_24 : decode cX3_tellAsked 24 = .ok (.getfield 12, 3) := by decide +kernel
theorem dX3_tellAsked_27 : decode cX3_tellAsked 27 = .ok (.getfield 173, 3) := by decide +kernel
theorem dX3_tellAsked_30 : decode cX3_tellAsked 30 = .ok (.iload_n 1, 1) := by decide +kernel
theorem dX3_tellAsked_31 : decode cX3_tellAsked 31 = .ok (.aload_n 0, 1) := by decide +kernel
theorem dX3_tellAsked_32 : decode cX3_tellAsked 32 = .ok (.getfield 29, 3) := by decide +kernel
theorem dX3_tellAsked_35 : decode cX3_tellAsked 35 = .ok (.iconst 1, 1) := by decide +kernel
theorem dX3_tellAsked_36 : decode cX3_tellAsked 36 = .ok (.iaload, 1) := by decide +kernel
theorem dX3_tellAsked_37 : decode cX3_tellAsked 37 = .ok (.iastore, 1) := by decide +kernel
theorem dX3_tellAsked_38 : decode cX3_tellAsked 38 = .ok (.aload_n 0, 1) := by decide +kernel
theorem dX3_tellAsked_39 : decode cX3_tellAsked 39 = .ok (.getfield 12, 3) := by decide +kernel
theorem dX3_tellAsked_42 : decode cX3_tellAsked 42 = .ok (.getfield 176, 3) := by decide +kernel
theorem dX3_tellAsked_45 : decode cX3_tellAsked 45 = .ok (.iload_n 1, 1) := by decide +kernel
theorem dX3_tellAsked_46 : decode cX3_tellAsked 46 = .ok (.aload_n 0, 1) := by decide +kernel
theorem dX3_tellAsked_47 : decode cX3_tellAsked 47 = .ok (.getfield 29, 3) := by decide +kernel
theorem dX3_tellAsked_50 : decode cX3_tellAsked 50 = .ok (.iconst 2, 1) := by decide +kernel
theorem dX3_tellAsked_51 : decode cX3_tellAsked 51 = .ok (.iaload, 1) := by decide +kernel
theorem dX3_tellAsked_52 : decode cX3_tellAsked 52 = .ok (.iastore, 1) := by decide +kernel
theorem dX3_tellAsked_53 : decode cX3_tellAsked 53 = .ok (.aload_n 0, 1) := by decide +kernel
theorem dX3_tellAsked_54 : decode cX3_tellAsked 54 = .ok (.getfield 12, 3) := by decide +kernel
theorem dX3_tellAsked_57 : decode cX3_tellAsked 57 = .ok (.dup, 1) := by decide +kernel
theorem dX3_tellAsked_58 : decode cX3_tellAsked 58 = .ok (.getfield 65, 3) := by decide +kernel
theorem dX3_tellAsked_61 : decode cX3_tellAsked 61 = .ok (.iconst 1, 1) := by decide +kernel
theorem dX3_tellAsked_62 : decode cX3_tellAsked 62 = .ok (.iadd, 1) := by decide +kernel
theorem dX3_tellAsked_63 : decode cX3_tellAsked 63 = .ok (.putfield 65, 3) := by decide +kernel
theorem dX3_tellAsked_66 : decode cX3_tellAsked 66 = .ok (.return_, 1) := by decide +kernel
theorem dX4_init_0 : decode cX4_init 0 = .ok (.aload_n 0, 1) := by decide +kernel
theorem dX4_init_1 : decode cX4_init 1 = .ok (.invokespecial 3, 3) := by decide +kernel
theorem dX4_init_4 : decode cX4_init 4 = .ok (.aload_n 0, 1) := by decide +kernel
theorem dX4_init_5 : decode cX4_init 5 = .ok (.iconst (-1), 1) := by decide +kernel
theorem dX4_init_6 : decode cX4_init 6 = .ok (.putfield 11, 3) := by decide +kernel
theorem dX4_init_9 : decode cX4_init 9 = .ok (.aload_n 0, 1) := by decide +kernel
theorem dX4_init_10 : decode cX4_init 10 = .ok (.bipush 40, 2) := by decide +kernel
theorem dX4_init_12 : decode cX4_init 12 = .ok (.newarray .int, 2) := by decide +kernel
theorem dX4_init_14 : decode cX4_init 14 = .ok (.putfield 15, 3) := by decide +kernel
theorem dX4_init_17 : decode cX4_init 17 = .ok (.return_, 1) := by decide +kernel
set_option maxRecDepth 20000 in
theorem ggX4_renew_J7_fill_53178 : GoodIn wsX4_renew wsJ7_fill_53178 := goodIn_r _ [7] (by decide +kernel) (by decide +kernel)
set_option maxRecDepth 20000 in
theorem gX4_renew_J7_fill_53178 : GoodIn wsX4_renew (va_wsS RX4 22 yJ7_fill_53178 wsJ7_fill_53178) := goodIn_app (goodIn_of _ (by decide +kernel)) ggX4_renew_J7_fill_53178
theorem dX4_renew_0 : decode cX4_renew 0 = .ok (.aload_n 0, 1) := by decide +kernel
theorem dX4_renew_1 : decode cX4_renew 1 = .ok (.iload_n 1, 1) := by decide +kernel
theorem dX4_renew_2 : decode cX4_renew 2 = .ok (.putfield 11, 3) := by decide +kernel
theorem dX4_renew_5 : decode cX4_renew 5 = .ok (.aload_n 0, 1) := by decide +kernel
theorem dX4_renew_6 : decode cX4_renew 6 = .ok (.iload_n 2, 1) := by decide +kernel
theorem dX4_renew_7 : decode cX4_renew 7 = .ok (.putfield 19, 3) := by decide +kernel
theorem dX4_renew_10 : decode cX4_renew 10 = .ok (.aload_n 0, 1) := by decide +kernel
theorem dX4_renew_11 : decode cX4_renew 11 = .ok (.getfield 15, 3) := by decide +kernel
theorem dX4_renew_14 : decode cX4_renew 14 = .ok (.iconst 0, 1) := by decide +kernel
theorem dX4_renew_15 : decode cX4_renew 15 = .ok (.invokestatic 22, 3) := by decide +kernel
theorem dX4_renew_18 : decode cX4_renew 18 = .ok (.return_, 1) := by decide +kernel
theorem dX4_put_0 : decode cX4_put 0 = .ok (.aload_n 0, 1) := by decide +kernel
theorem dX4_put_1 : decode cX4_put 1 = .ok (.getfield 11, 3) := by decide +kernel
theorem dX4_put_4 : decode cX4_put 4 = .ok (.lookupswitch 50 #[(0, 28), (1, 39)], 28) := by decide +kernel
theorem dX4_put_32 : decode cX4_put 32 = .ok (.aload_n 0, 1) := by decide +kernel
theorem dX4_put_33 : decode cX4_put 33 = .ok (.getfield 15, 3) := by decide +kernel
theorem dX4_put_36 : decode cX4_put 36 = .ok (.iload_n 1, 1) := by decide +kernel
theorem dX4_put_37 : decode cX4_put 37 = .ok (.iload_n 2, 1) := by decide +kernel
theorem dX4_put_38 : decode cX4_put 38 = .ok (.i2b, 1) := by decide +kernel
theorem dX4_put_39 : decode cX4_put 39 = .ok (.iastore, 1) := by decide +kernel
theorem dX4_put_40 : decode cX4_put 40 = .ok (.goto 21, 3) := by decide +kernel
theorem dX4_put_43 : decode cX4_put 43 = .ok (.aload_n 0, 1) := by decide +kernel
theorem dX4_put_44 : decode cX4_put 44 = .ok (.getfield 15, 3) := by decide +kernel
theorem dX4_put_47 : decode cX4_put 47 = .ok (.iload_n 1, 1) := by decide +kernel
theorem dX4_put_48 : decode cX4_put 48 = .ok (.iload_n 2, 1) := by decide +kernel
theorem dX4_put_49 : decode cX4_put 49 = .ok (.i2s, 1) := by decide +kernel
theorem dX4_put_50 : decode cX4_put 50 = .ok (.iastore, 1) := by decide +kernel
theorem dX4_put_51 : decode cX4_put 51 = .ok (.goto 10, 3) := by decide +kernel
theorem dX4_put_54 : decode cX4_put 54 = .ok (.aload_n 0, 1) := by decide +kernel
theorem dX4_put_55 : decode cX4_put 55 = .ok (.getfield 15, 3) := by decide +kernel
theorem dX4_put_58 : decode cX4_put 58 = .ok (.iload_n 1, 1) := by decide +kernel
theorem dX4_put_59 : decode cX4_put 59 = .ok (.iload_n 2, 1) := by decide +kernel
theorem dX4_put_60 : decode cX4_put 60 = .ok (.iastore, 1) := by decide +kernel
theorem dX4_put_61 : decode cX4_put 61 = .ok (.return_, 1) := by decide +kernel
theorem dX4_faultAt_0 : decode cX4_faultAt 0 = .ok (.aload_n 0, 1) := by decide +kernel
theorem dX4_faultAt_1 : decode cX4_faultAt 1 = .ok (.getfield 11, 3) := by decide +kernel
theorem dX4_faultAt_4 : decode cX4_faultAt 4 = .ok (.iconst (-1), 1) := by decide +kernel
theorem dX4_faultAt_5 : decode cX4_faultAt 5 = .ok (.if_icmp .ne 5, 3) := by decide +kernel
theorem dX4_faultAt_8 : decode cX4_faultAt 8 = .ok (.iconst 1, 1) := by decide +kernel
theorem dX4_faultAt_9 : decode cX4_faultAt 9 = .ok (.ireturn, 1) := by decide +kernel
theorem dX4_faultAt_10 : decode cX4_faultAt 10 = .ok (.iload_n 1, 1) := by decide +kernel
theorem dX4_faultAt_11 : decode cX4_faultAt 11 = .ok (.aload_n 0, 1) := by decide +kernel
theorem dX4_faultAt_12 : decode cX4_faultAt 12 = .ok (.getfield 11, 3) := by decide +kernel
theorem dX4_faultAt_15 : decode cX4_faultAt 15 = .ok (.if_icmp .eq 5, 3) := by decide +kernel
theorem dX4_faultAt_18 : decode cX4_faultAt 18 = .ok (.iconst 3, 1) := by decide +kernel
theorem dX4_faultAt_19 : decode cX4_faultAt 19 = .ok (.ireturn, 1) := by decide +kernel
theorem dX4_faultAt_20 : decode cX4_faultAt 20 = .ok (.iload_n 2, 1) := by decide +kernel
theorem dX4_faultAt_21 : decode cX4_faultAt 21 = .ok (.ifCond .lt 11, 3) := by decide +kernel
theorem dX4_faultAt_24 : decode cX4_faultAt 24 = .ok (.iload_n 2, 1) := by decide +kernel
theorem dX4_faultAt_25 : decode cX4_faultAt 25 = .ok (.aload_n 0, 1) := by decide +kernel
theorem dX4_faultAt_26 : decode cX4_faultAt 26 = .ok (.getfield 19, 3) := by decide +kernel
theorem dX4_faultAt_29 : decode cX4_faultAt 29 = .ok (.if_icmp .lt 7, 3) := by decide +kernel
theorem dX4_faultAt_32 : decode cX4_faultAt 32 = .ok (.iconst 2, 1) := by decide +kernel
theorem dX4_faultAt_33 : decode cX4_faultAt 33 = .ok (.goto 4, 3) := by decide +kernel
theorem dX4_faultAt_36 : decode cX4_faultAt 36 = .ok (.iconst 0, 1) := by decide +kernel
theorem dX4_faultAt_37 : decode cX4_faultAt 37 = .ok (.ireturn, 1) := by decide +kernel
set_option maxRecDepth 20000 in
theorem ggX4_faultOfPair_X4_faultAt : GoodIn wsX4_faultOfPair wsX4_faultAt := goodIn_r _ [5, 6, 7, 8, 9, 10] (by decide +kernel) (by decide +kernel)
set_option maxRecDepth 20000 in
theorem gX4_faultOfPair_X4_faultAt : GoodIn wsX4_faultOfPair (wsV RX4 28 RX4 yX4_faultAt wsX4_faultAt) := goodIn_app (goodIn_of _ (by decide +kernel)) ggX4_faultOfPair_X4_faultAt
theorem dX4_faultOfPair_0 : decode cX4_faultOfPair 0 = .ok (.aload_n 0, 1) := by decide +kernel
theorem dX4_faultOfPair_1 : decode cX4_faultOfPair 1 = .ok (.iload_n 1, 1) := by decide +kernel
theorem dX4_faultOfPair_2 : decode cX4_faultOfPair 2 = .ok (.iload_n 2, 1) := by decide +kernel
theorem dX4_faultOfPair_3 : decode cX4_faultOfPair 3 = .ok (.invokevirtual 28, 3) := by decide +kernel
theorem dX4_faultOfPair_6 : decode cX4_faultOfPair 6 = .ok (.istore_n 3, 1) := by decide +kernel
theorem dX4_faultOfPair_7 : decode cX4_faultOfPair 7 = .ok (.iload_n 3, 1) := by decide +kernel
theorem dX4_faultOfPair_8 : decode cX4_faultOfPair 8 = .ok (.ifCond .eq 7, 3) := by decide +kernel
theorem dX4_faultOfPair_11 : decode cX4_faultOfPair 11 = .ok (.iload_n 3, 1) := by decide +kernel
theorem dX4_faultOfPair_12 : decode cX4_faultOfPair 12 = .ok (.goto 11, 3) := by decide +kernel
theorem dX4_faultOfPair_15 : decode cX4_faultOfPair 15 = .ok (.aload_n 0, 1) := by decide +kernel
theorem dX4_faultOfPair_16 : decode cX4_faultOfPair 16 = .ok (.iload_n 1, 1) := by decide +kernel
theorem dX4_faultOfPair_17 : decode cX4_faultOfPair 17 = .ok (.iload_n 2, 1) := by decide +kernel
theorem dX4_faultOfPair_18 : decode cX4_faultOfPair 18 = .ok (.iconst 1, 1) := by decide +kernel
theorem dX4_faultOfPair_19 : decode cX4_faultOfPair 19 = .ok (.iadd, 1) := by decide +kernel
theorem dX4_faultOfPair_20 : decode cX4_faultOfPair 20 = .ok (.invokevirtual 28, 3) := by decide +kernel
theorem dX4_faultOfPair_23 : decode cX4_faultOfPair 23 = .ok (.ireturn, 1) := by decide +kernel
theorem dX5_init_0 : decode cX5_init 0 = .ok (.aload_n 0, 1) := by decide +kernel
theorem dX5_init_1 : decode cX5_init 1 = .ok (.invokespecial 3, 3) := by decide +kernel
theorem dX5_init_4 : decode cX5_init 4 = .ok (.aload_n 0, 1) := by decide +kernel
theorem dX5_init_5 : decode cX5_init 5 = .ok (.bipush 6, 2) := by decide +kernel
theorem dX5_init_7 : decode cX5_init 7 = .ok (.newarray .int, 2) := by decide +kernel
theorem dX5_init_9 : decode cX5_init 9 = .ok (.putfield 9, 3) := by decide +kernel
theorem dX5_init_12 : decode cX5_init 12 = .ok (.aload_n 0, 1) := by decide +kernel
theorem dX5_init_13 : decode cX5_init 13 = .ok (.bipush 6, 2) := by decide +kernel
theorem dX5_init_15 : decode cX5_init 15 = .ok (.newarray .int, 2) := by decide +kernel
theorem dX5_init_17 : decode cX5_init 17 = .ok (.putfield 15, 3) := by decide +kernel
theorem dX5_init_20 : decode cX5_init 20 = .ok (.aload_n 0, 1) := by decide +kernel
theorem dX5_init_21 : decode cX5_init 21 = .ok (.bipush 6, 2) := by decide +kernel
theorem dX5_init_23 : decode cX5_init 23 = .ok (.newarray .int, 2) := by decide +kernel
theorem dX5_init_25 : decode cX5_init 25 = .ok (.putfield 18, 3) := by decide +kernel
theorem dX5_init_28 : decode cX5_init 28 = .ok (.aload_n 0, 1) := by decide +kernel
theorem dX5_init_29 : decode cX5_init 29 = .ok (.bipush 6, 2) := by decide +kernel
theorem dX5_init_31 : decode cX5_init 31 = .ok (.newarray .int, 2) := by decide +kernel
theorem dX5_init_33 : decode cX5_init 33 = .ok (.putfield 21, 3) := by decide +kernel
theorem dX5_init_36 : decode cX5_init 36 = .ok (.aload_n 0, 1) := by decide +kernel
theorem dX5_init_37 : decode cX5_init 37 = .ok (.bipush 6, 2) := by decide +kernel
theorem dX5_init_39 : decode cX5_init 39 = .ok (.newarray .int, 2) := by decide +kernel
theorem dX5_init_41 : decode cX5_init 41 = .ok (.putfield 24, 3) := by decide +kernel
theorem dX5_init_44 : decode cX5_init 44 = .ok (.aload_n 0, 1) := by decide +kernel
theorem dX5_init_45 : decode cX5_init 45 = .ok (.bipush 6, 2) := by decide +kernel
theorem dX5_init_47 : decode cX5_init 47 = .ok (.newarray .int, 2) := by decide +kernel
theorem dX5_init_49 : decode cX5_init 49 = .ok (.putfield 27, 3) := by decide +kernel
theorem dX5_init_52 : decode cX5_init 52 = .ok (.return_, 1) := by decide +kernel
theorem dX5_copyFrom_0 : decode cX5_copyFrom 0 = .ok (.aload_n 0, 1) := by decide +kernel
theorem dX5_copyFrom_1 : decode cX5_copyFrom 1 = .ok (.aload_n 1, 1) := by decide +kernel
theorem dX5_copyFrom_2 : decode cX5_copyFrom 2 = .ok (.getfield 30, 3) := by decide +kernel
theorem dX5_copyFrom_5 : decode cX5_copyFrom 5 = .ok (.putfield 30, 3) := by decide +kernel
theorem dX5_copyFrom_8 : decode cX5_copyFrom 8 = .ok (.aload_n 1, 1) := by decide +kernel
theorem dX5_copyFrom_9 : decode cX5_copyFrom 9 = .ok (.getfield 9, 3) := by decide +kernel
theorem dX5_copyFrom_12 : decode cX5_copyFrom 12 = .ok (.iconst 0, 1) := by decide +kernel
theorem dX5_copyFrom_13 : decode cX5_copyFrom 13 = .ok (.aload_n 0, 1) := by decide +kernel
theorem dX5_copyFrom_14 : decode cX5_copyFrom 14 = .ok (.getfield 9, 3) := by decide +kernel
theorem dX5_copyFrom_17 : decode cX5_copyFrom 17 = .ok (.iconst 0, 1) := by decide +kernel
theorem dX5_copyFrom_18 : decode cX5_copyFrom 18 = .ok (.bipush 6, 2) := by decide +kernel
theorem dX5_copyFrom_20 : decode cX5_copyFrom 20 = .ok (.invokestatic 34, 3) := by decide +kernel
theorem dX5_copyFrom_23 : decode cX5_copyFrom 23 = .ok (.aload_n 1, 1) := by decide +kernel
theorem dX5_copyFrom_24 : decode cX5_copyFrom 24 = .ok (.getfield 15, 3) := by decide +kernel
theorem dX5_copyFrom_27 : decode cX5_copyFrom 27 = .ok (.iconst 0, 1) := by decide +kernel
theorem dX5_copyFrom_28 : decode cX5_copyFrom 28 = .ok (.aload_n 0, 1) := by decide +kernel
theorem dX5_copyFrom_29 : decode cX5_copyFrom 29 = .ok (.getfield 15, 3) := by decide +kernel
theorem dX5_copyFrom_32 : decode cX5_copyFrom 32 = .ok (.iconst 0, 1) := by decide +kernel
theorem dX5_copyFrom_33 : decode cX5_copyFrom 33 = .ok (.bipush 6, 2) := by decide +kernel
theorem dX5_copyFrom_35 : decode cX5_copyFrom 35 = .ok (.invokestatic 34, 3) := by decide +kernel
theorem dX5_copyFrom_38 : decode cX5_copyFrom 38 = .ok (.aload_n 1, 1) := by decide +kernel
theorem dX5_copyFrom_39 : decode cX5_copyFrom 39 = .ok (.getfield 18, 3) := by decide +kernel
theorem dX5_copyFrom_42 : decode cX5_copyFrom 42 = .ok (.iconst 0, 1) := by decide +kernel
theorem dX5_copyFrom_43 : decode cX5_copyFrom 43 = .ok (.aload_n 0, 1) := by decide +kernel
theorem dX5_copyFrom_44 : decode cX5_copyFrom 44 = .ok (.getfield 18, 3) := by decide +kernel
theorem dX5_copyFrom_47 : decode cX5_copyFrom 47 = .ok (.iconst 0, 1) := by decide +kernel
theorem dX5_copyFrom_48 : decode cX5_copyFrom 48 = .ok (.bipush 6, 2) := by decide +kernel
theorem dX5_copyFrom_50 : decode cX5_copyFrom 50 = .ok (.invokestatic 34, 3) := by decide +kernel
theorem dX5_copyFrom_53 : decode cX5_copyFrom 53 = .ok (.aload_n 0, 1) := by decide +kernel
theorem dX5_copyFrom_54 : decode cX5_copyFrom 54 = .ok (.aload_n 1, 1) := by decide +kernel
theorem dX5_copyFrom_55 : decode cX5_copyFrom 55 = .ok (.getfield 40, 3) := by decide +kernel
theorem dX5_copyFrom_58 : decode cX5_copyFrom 58 = .ok (.putfield 40, 3) := by decide +kernel
theorem dX5_copyFrom_61 : decode cX5_copyFrom 61 = .ok (.aload_n 1, 1) := by decide +kernel
theorem dX5_copyFrom_62 : decode cX5_copyFrom 62 = .ok (.getfield 21, 3) := by decide +kernel
theorem dX5_copyFrom_65 : decode cX5_copyFrom 65 = .ok (.iconst 0, 1) := by decide +kernel
theorem dX5_copyFrom_66 : decode cX5_copyFrom 66 = .ok (.aload_n 0, 1) := by decide +kernel
theorem dX5_copyFrom_67 : decode cX5_copyFrom 67 = .ok (.getfield 21, 3) := by decide +kernel
theorem dX5_copyFrom_70 : decode cX5_copyFrom 70 = .ok (.iconst 0, 1) := by decide +kernel
theorem dX5_copyFrom_71 : decode cX5_copyFrom 71 = .ok (.bipush 6, 2) := by decide +kernel
theorem dX5_copyFrom_73 : decode cX5_copyFrom 73 = .ok (.invokestatic 34, 3) := by decide +kernel
theorem dX5_copyFrom_76 : decode cX5_copyFrom 76 = .ok (.aload_n 1, 1) := by decide +kernel
theorem dX5_copyFrom_77 : decode cX5_copyFrom 77 = .ok (.getfield 24, 3) := by decide +kernel
theorem dX5_copyFrom_80 : decode cX5_copyFrom 80 = .ok (.iconst 0, 1) := by decide +kernel
theorem dX5_copyFrom_81 : decode cX5_copyFrom 81 = .ok (.aload_n 0, 1) := by decide +kernel
theorem dX5_copyFrom_82 : decode cX5_copyFrom 82 = .ok (.getfield 24, 3) := by decide +kernel
theorem dX5_copyFrom_85 : decode cX5_copyFrom 85 = .ok (.iconst 0, 1) := by decide +kernel
theorem dX5_copyFrom_86 : decode cX5_copyFrom 86 = .ok (.bipush 6, 2) := by decide +kernel
theorem dX5_copyFrom_88 : decode cX5_copyFrom 88 = .ok (.invokestatic 34, 3) := by decide +kernel
theorem dX5_copyFrom_91 : decode cX5_copyFrom 91 = .ok (.aload_n 1, 1) := by decide +kernel
theorem dX5_copyFrom_92 : decode cX5_copyFrom 92 = .ok (.getfield 27, 3) := by decide +kernel
theorem dX5_copyFrom_95 : decode cX5_copyFrom 95 = .ok (.iconst 0, 1) := by decide +kernel
theorem dX5_copyFrom_96 : decode cX5_copyFrom 96 = .ok (.aload_n 0, 1) := by decide +kernel
theorem dX5_copyFrom_97 : decode cX5_copyFrom 97 = .ok (.getfield 27, 3) := by decide +kernel
theorem dX5_copyFrom_100 : decode cX5_copyFrom 100 = .ok (.iconst 0, 1) := by decide +kernel
theorem dX5_copyFrom_101 : decode cX5_copyFrom 101 = .ok (.bipush 6, 2) := by decide +kernel
theorem dX5_copyFrom_103 : decode cX5_copyFrom 103 = .ok (.invokestatic 34, 3) := by decide +kernel
theorem dX5_copyFrom_106 : decode cX5_copyFrom 106 = .ok (.return_, 1) := by decide +kernel
theorem dX5_knowsAllOf_0 : decode cX5_knowsAllOf 0 = .ok (.iconst 0, 1) := by decide +kernel
theorem dX5_knowsAllOf_1 : decode cX5_knowsAllOf 1 = .ok (.istore_n 2, 1) := by decide +kernel
theorem dX5_knowsAllOf_2 : decode cX5_knowsAllOf 2 = .ok (.iload_n 2, 1) := by decide +kernel
theorem dX5_knowsAllOf_3 : decode cX5_knowsAllOf 3 = .ok (.aload_n 0, 1) := by decide +kernel
theorem dX5_knowsAllOf_4 : decode cX5_knowsAllOf 4 = .ok (.getfield 30, 3) := by decide +kernel
theorem dX5_knowsAllOf_7 : decode cX5_knowsAllOf 7 = .ok (.if_icmp .ge 21, 3) := by decide +kernel
theorem dX5_knowsAllOf_10 : decode cX5_knowsAllOf 10 = .ok (.aload_n 0, 1) := by decide +kernel
theorem dX5_knowsAllOf_11 : decode cX5_knowsAllOf 11 = .ok (.getfield 9, 3) := by decide +kernel
theorem dX5_knowsAllOf_14 : decode cX5_knowsAllOf 14 = .ok (.iload_n 2, 1) := by decide +kernel
theorem dX5_knowsAllOf_15 : decode cX5_knowsAllOf 15 = .ok (.iaload, 1) := by decide +kernel
theorem dX5_knowsAllOf_16 : decode cX5_knowsAllOf 16 = .ok (.iload_n 1, 1) := by decide +kernel
theorem dX5_knowsAllOf_17 : decode cX5_knowsAllOf 17 = .ok (.if_icmp .lt 5, 3) := by decide +kernel
theorem dX5_knowsAllOf_20 : decode cX5_knowsAllOf 20 = .ok (.iconst 0, 1) := by decide +kernel
theorem dX5_knowsAllOf_21 : decode cX5_knowsAllOf 21 = .ok (.ireturn, 1) := by decide +kernel
theorem dX5_knowsAllOf_22 : decode cX5_knowsAllOf 22 = .ok (.iinc 2 1, 3) := by decide +kernel
theorem dX5_knowsAllOf_25 : decode cX5_knowsAllOf 25 = .ok (.goto (-23), 3) := by decide +kernel
theorem dX5_knowsAllOf_28 : decode cX5_knowsAllOf 28 = .ok (.iconst 0, 1) := by decide +kernel
theorem dX5_knowsAllOf_29 : decode cX5_knowsAllOf 29 = .ok (.istore_n 2, 1) := by decide +kernel
theorem dX5_knowsAllOf_30 : decode cX5_knowsAllOf 30 = .ok (.iload_n 2, 1) := by decide +kernel
theorem dX5_knowsAllOf_31 : decode cX5_knowsAllOf 31 = .ok (.aload_n 0, 1) := by decide +kernel
theorem dX5_knowsAllOf_32 : decode cX5_knowsAllOf 32 = .ok (.getfield 40, 3) := by decide +kernel
theorem dX5_knowsAllOf_35 : decode cX5_knowsAllOf 35 = .ok (.if_icmp .ge 21, 3) := by decide +kernel
theorem dX5_knowsAllOf_38 : decode cX5_knowsAllOf 38 = .ok (.aload_n 0, 1) := by decide +kernel
theorem dX5_knowsAllOf_39 : decode cX5_knowsAllOf 39 = .ok (.getfield 21, 3) := by decide +kernel
theorem dX5_knowsAllOf_42 : decode cX5_knowsAllOf 42 = .ok (.iload_n 2, 1) := by decide +kernel
theorem dX5_knowsAllOf_43 : decode cX5_knowsAllOf 43 = .ok (.iaload, 1) := by decide +kernel
theorem dX5_knowsAllOf_44 : decode cX5_knowsAllOf 44 = .ok (.iload_n 1, 1) := by decide +kernel
theorem dX5_knowsAllOf_45 : decode cX5_knowsAllOf 45 = .ok (.if_icmp .lt 5, 3) := by decide +kernel
theorem dX5_knowsAllOf_48 : decode cX5_knowsAllOf 48 = .ok (.iconst 0, 1) := by decide +kernel
theorem dX5_knowsAllOf_49 : decode cX5_knowsAllOf 49 = .ok (.ireturn, 1) := by decide +kernel
theorem dX5_knowsAllOf_50 : decode cX5_knowsAllOf 50 = .ok (.iinc 2 1, 3) := by decide +kernel
theorem dX5_knowsAllOf_53 : decode cX5_knowsAllOf 53 = .ok (.goto (-23), 3) := by decide +kernel
theorem dX5_knowsAllOf_56 : decode cX5_knowsAllOf 56 = .ok (.iconst 1, 1) := by decide +kernel
theorem dX5_knowsAllOf_57 : decode cX5_knowsAllOf 57 = .ok (.ireturn, 1) := by decide +kernel
set_option maxRecDepth 20000 in
theorem ggX6_init_X3_init : GoodIn wsX6_init wsX3_init := goodIn_r _ [32, 33, 2, 3, 34, 9, 10, 35, 36, 13, 14, 37, 38, 39, 21, 40, 41, 42, 43, 44, 45, 46, 47, 48, 49, 50, 51, 52, 53, 54, 55, 56, 57, 58, 59, 99, 100, 101, 102, 103, 104, 105, 106, 78, 79, 80, 81, 82, 83, 84, 85, 86, 87, 88, 89, 107, 108, 109, 110, 111, 112, 113, 114, 115, 116, 117] (by decide +kernel) (by decide +kernel)
set_option maxRecDepth 20000 in
theorem gX6_init_X3_init_n9 : GoodIn wsX6_init (wsX3_init) := ggX6_init_X3_init
set_option maxRecDepth 20000 in
theorem ggX6_init_X5_init : GoodIn wsX6_init wsX5_init := goodIn_r _ [42, 43, 2, 3, 21, 44, 45, 46, 47, 48, 49, 99, 100, 101, 102, 103, 104, 105, 106] (by decide +kernel) (by decide +kernel)
set_option maxRecDepth 20000 in
theorem gX6_init_X5_init_n18 : GoodIn wsX6_init (wsX5_init) := ggX6_init_X5_init
set_option maxRecDepth 20000 in
theorem ggX6_init_X1_init : GoodIn wsX6_init wsX1_init := goodIn_r _ [51, 52, 2, 3, 21, 53, 54, 55, 56, 57, 58, 59, 107, 108, 109, 110, 111, 112, 113, 114, 115, 116, 117] (by decide +kernel) (by decide +kernel)
set_option maxRecDepth 20000 in
theorem gX6_init_X1_init_n25 : GoodIn wsX6_init (wsX1_init) := ggX6_init_X1_init
set_option maxRecDepth 20000 in
theorem ggX6_init_X2_init : GoodIn wsX6_init wsX2_init := goodIn_r _ [61, 62, 2, 3, 21, 63, 64, 65, 118, 119, 120, 121] (by decide +kernel) (by decide +kernel)
set_option maxRecDepth 20000 in
theorem gX6_init_X2_init_n32 : GoodIn wsX6_init (wsX2_init) := ggX6_init_X2_init
set_option maxRecDepth 20000 in
theorem ggX6_init_X0_init : GoodIn wsX6_init wsX0_init := goodIn_r _ [67, 68, 2, 3, 69, 13, 14, 70, 71, 17, 18, 72, 50, 51, 52, 21, 53, 54, 55, 56, 57, 58, 59, 60, 61, 62, 63, 64, 65, 107, 108, 109, 110, 111, 112, 113, 114, 115, 116, 117, 122, 123, 124, 118, 119, 120, 121] (by decide +kernel) (by decide +kernel)
set_option maxRecDepth 20000 in
theorem gX6_init_X0_init_n56 : GoodIn wsX6_init (wsX0_init) := ggX6_init_X0_init
set_option maxRecDepth 20000 in
theorem ggX6_init_X4_init : GoodIn wsX6_init wsX4_init := goodIn_r _ [74, 75, 2, 3, 76, 21, 77, 125, 126, 127] (by decide +kernel) (by decide +kernel)
set_option maxRecDepth 20000 in
theorem gX6_init_X4_init_n57 : GoodIn wsX6_init (wsX4_init) := ggX6_init_X4_init
theorem dX6_init_0 : decode cX6_init 0 = .ok (.aload_n 0, 1) := by decide +kernel
theorem dX6_init_1 : decode cX6_init 1 = .ok (.invokespecial 1, 3) := by decide +kernel
theorem dX6_init_4 : decode cX6_init 4 = .ok (.aload_n 0, 1) := by decide +kernel
theorem dX6_init_5 : decode cX6_init 5 = .ok (.new 7, 3) := by decide +kernel
theorem dX6_init_8 : decode cX6_init 8 = .ok (.dup, 1) := by decide +kernel
theorem dX6_init_9 : decode cX6_init 9 = .ok (.invokespecial 9, 3) := by decide +kernel
theorem dX6_init_12 : decode cX6_init 12 = .ok (.putfield 10, 3) := by decide +kernel
theorem dX6_init_15 : decode cX6_init 15 = .ok (.aload_n 0, 1) := by decide +kernel
theorem dX6_init_16 : decode cX6_init 16 = .ok (.new 16, 3) := by decide +kernel
theorem dX6_init_19 : decode cX6_init 19 = .ok (.dup, 1) := by decide +kernel
theorem dX6_init_20 : decode cX6_init 20 = .ok (.invokespecial 18, 3) := by decide +kernel
theorem dX6_init_23 : decode cX6_init 23 = .ok (.putfield 19, 3) := by decide +kernel
theorem dX6_init_26 : decode cX6_init 26 = .ok (.aload_n 0, 1) := by decide +kernel
theorem dX6_init_27 : decode cX6_init 27 = .ok (.new 23, 3) := by decide +kernel
theorem dX6_init_30 : decode cX6_init 30 = .ok (.dup, 1) := by decide +kernel
theorem dX6_init_31 : decode cX6_init 31 = .ok (.invokespecial 25, 3) := by decide +kernel
theorem dX6_init_34 : decode cX6_init 34 = .ok (.putfield 26, 3) := by decide +kernel
theorem dX6_init_37 : decode cX6_init 37 = .ok (.aload_n 0, 1) := by decide +kernel
theorem dX6_init_38 : decode cX6_init 38 = .ok (.new 30, 3) := by decide +kernel
theorem dX6_init_41 : decode cX6_init 41 = .ok (.dup, 1) := by decide +kernel
theorem dX6_init_42 : decode cX6_init 42 = .ok (.invokespecial 32, 3) := by decide +kernel
theorem dX6_init_45 : decode cX6_init 45 = .ok (.putfield 33, 3) := by decide +kernel
theorem dX6_init_48 : decode cX6_init 48 = .ok (.aload_n 0, 1) := by decide +kernel
theorem dX6_init_49 : decode cX6_init 49 = .ok (.new 23, 3) := by decide +kernel
theorem dX6_init_52 : decode cX6_init 52 = .ok (.dup, 1) := by decide +kernel
theorem dX6_init_53 : decode cX6_init 53 = .ok (.invokespecial 25, 3) := by decide +kernel
theorem dX6_init_56 : decode cX6_init 56 = .ok (.putfield 37, 3) := by decide +kernel
theorem dX6_init_59 : decode cX6_init 59 = .ok (.aload_n 0, 1) := by decide +kernel
theorem dX6_init_60 : decode cX6_init 60 = .ok (.iconst 4, 1) := by decide +kernel
theorem dX6_init_61 : decode cX6_init 61 = .ok (.newarray .int, 2) := by decide +kernel
theorem dX6_init_63 : decode cX6_init 63 = .ok (.putfield 40, 3) := by decide +kernel
theorem dX6_init_66 : decode cX6_init 66 = .ok (.aload_n 0, 1) := by decide +kernel
theorem dX6_init_67 : decode cX6_init 67 = .ok (.iconst 2, 1) := by decide +kernel
theorem dX6_init_68 : decode cX6_init 68 = .ok (.anewarray 44, 3) := by decide +kernel
theorem dX6_init_71 : decode cX6_init 71 = .ok (.putfield 46, 3) := by decide +kernel
theorem dX6_init_74 : decode cX6_init 74 = .ok (.aload_n 0, 1) := by decide +kernel
theorem dX6_init_75 : decode cX6_init 75 = .ok (.iconst 4, 1) := by decide +kernel
theorem dX6_init_76 : decode cX6_init 76 = .ok (.anewarray 50, 3) := by decide +kernel
theorem dX6_init_79 : decode cX6_init 79 = .ok (.putfield 52, 3) := by decide +kernel
theorem dX6_init_82 : decode cX6_init 82 = .ok (.iconst 0, 1) := by decide +kernel
theorem dX6_init_83 : decode cX6_init 83 = .ok (.istore_n 1, 1) := by decide +kernel
theorem dX6_init_84 : decode cX6_init 84 = .ok (.iload_n 1, 1) := by decide +kernel
theorem dX6_init_85 : decode cX6_init 85 = .ok (.iconst 2, 1) := by decide +kernel
theorem dX6_init_86 : decode cX6_init 86 = .ok (.if_icmp .ge 22, 3) := by decide +kernel
theorem dX6_init_89 : decode cX6_init 89 = .ok (.aload_n 0, 1) := by decide +kernel
theorem dX6_init_90 : decode cX6_init 90 = .ok (.getfield 46, 3) := by decide +kernel
theorem dX6_init_93 : decode cX6_init 93 = .ok (.iload_n 1, 1) := by decide +kernel
theorem dX6_init_94 : decode cX6_init 94 = .ok (.new 44, 3) := by decide +kernel
theorem dX6_init_97 : decode cX6_init 97 = .ok (.dup, 1) := by decide +kernel
theorem dX6_init_98 : decode cX6_init 98 = .ok (.invokespecial 56, 3) := by decide +kernel
theorem dX6_init_101 : decode cX6_init 101 = .ok (.aastore, 1) := by decide +kernel
theorem dX6_init_102 : decode cX6_init 102 = .ok (.iinc 1 1, 3) := by decide +kernel
theorem dX6_init_105 : decode cX6_init 105 = .ok (.goto (-21), 3) := by decide +kernel
theorem dX6_init_108 : decode cX6_init 108 = .ok (.iconst 0, 1) := by decide +kernel
theorem dX6_init_109 : decode cX6_init 109 = .ok (.istore_n 1, 1) := by decide +kernel
theorem dX6_init_110 : decode cX6_init 110 = .ok (.iload_n 1, 1) := by decide +kernel
theorem dX6_init_111 : decode cX6_init 111 = .ok (.iconst 4, 1) := by decide +kernel
theorem dX6_init_112 : decode cX6_init 112 = .ok (.if_icmp .ge 22, 3) := by decide +kernel
theorem dX6_init_115 : decode cX6_init 115 = .ok (.aload_n 0, 1) := by decide +kernel
theorem dX6_init_116 : decode cX6_init 116 = .ok (.getfield 52, 3) := by decide +kernel
theorem dX6_init_119 : decode cX6_init 119 = .ok (.iload_n 1, 1) := by decide +kernel
theorem dX6_init_120 : decode cX6_init 120 = .ok (.new 50, 3) := by decide +kernel
theorem dX6_init_123 : decode cX6_init 123 = .ok (.dup, 1) := by decide +kernel
theorem dX6_init_124 : decode cX6_init 124 = .ok (.invokespecial 57, 3) := by decide +kernel
theorem dX6_init_127 : decode cX6_init 127 = .ok (.aastore, 1) := by decide +kernel
theorem dX6_init_128 : decode cX6_init 128 = .ok (.iinc 1 1, 3) := by decide +kernel
theorem dX6_init_131 : decode cX6_init 131 = .ok (.goto (-21), 3) := by decide +kernel
theorem dX6_init_134 : decode cX6_init 134 = .ok (.return_, 1) := by decide +kernel
set_option maxRecDepth 20000 in
theorem ggX6_feed_X6_isWithin : GoodIn wsX6_feed wsX6_isWithin := goodIn_r _ [5] (by decide +kernel) (by decide +kernel)
set_option maxRecDepth 20000 in
theorem gX6_feed_X6_isWithin : GoodIn wsX6_feed (va_wsS RX6 58 yX6_isWithin wsX6_isWithin) := goodIn_app (goodIn_of _ (by decide +kernel)) ggX6_feed_X6_isWithin
set_option maxRecDepth 20000 in
theorem ggX6_feed_X3_append : GoodIn wsX6_feed wsX3_append := goodIn_r _ [10, 11, 12, 22, 23, 24, 25, 26, 27, 28, 29, 30, 31, 32, 33] (by decide +kernel) (by decide +kernel)
set_option maxRecDepth 20000 in
theorem gX6_feed_X3_append : GoodIn wsX6_feed (wsV RX6 62 RX3 yX3_append wsX3_append) := goodIn_app (goodIn_of _ (by decide +kernel)) ggX6_feed_X3_append
theorem dX6_feed_0 : decode cX6_feed 0 = .ok (.iload_n 1, 1) := by decide +kernel
theorem dX6_feed_1 : decode cX6_feed 1 = .ok (.bipush 127, 2) := by decide +kernel
theorem dX6_feed_3 : decode cX6_feed 3 = .ok (.invokestatic 58, 3) := by decide +kernel
theorem dX6_feed_6 : decode cX6_feed 6 = .ok (.ifCond .ne 5, 3) := by decide +kernel
theorem dX6_feed_9 : decode cX6_feed 9 = .ok (.iconst (-1), 1) := by decide +kernel
theorem dX6_feed_10 : decode cX6_feed 10 = .ok (.ireturn, 1) := by decide +kernel
theorem dX6_feed_11 : decode cX6_feed 11 = .ok (.aload_n 0, 1) := by decide +kernel
theorem dX6_feed_12 : decode cX6_feed 12 = .ok (.getfield 10, 3) := by decide +kernel
theorem dX6_feed_15 : decode cX6_feed 15 = .ok (.iload_n 1, 1) := by decide +kernel
theorem dX6_feed_16 : decode cX6_feed 16 = .ok (.invokevirtual 62, 3) := by decide +kernel
theorem dX6_feed_19 : decode cX6_feed 19 = .ok (.ireturn, 1) := by decide +kernel
set_option maxRecDepth 20000 in
theorem ggX6_end_X6_isWithin : GoodIn wsX6_end wsX6_isWithin := goodIn_r _ [6] (by decide +kernel) (by decide +kernel)
set_option maxRecDepth 20000 in
theorem gX6_end_X6_isWithin : GoodIn wsX6_end (va_wsS RX6 58 yX6_isWithin wsX6_isWithin) := goodIn_app (goodIn_of _ (by decide +kernel)) ggX6_end_X6_isWithin
theorem dX6_end_0 : decode cX6_end 0 = .ok (.iload_n 1, 1) := by decide +kernel
theorem dX6_end_1 : decode cX6_end 1 = .ok (.aload_n 0, 1) := by decide +kernel
theorem dX6_end_2 : decode cX6_end 2 = .ok (.getfield 10, 3) := by decide +kernel
theorem dX6_end_5 : decode cX6_end 5 = .ok (.getfield 66, 3) := by decide +kernel
theorem dX6_end_8 : decode cX6_end 8 = .ok (.invokestatic 58, 3) := by decide +kernel
theorem dX6_end_11 : decode cX6_end 11 = .ok (.ifCond .ne 5, 3) := by decide +kernel
theorem dX6_end_14 : decode cX6_end 14 = .ok (.iconst (-1), 1) := by decide +kernel
theorem dX6_end_15 : decode cX6_end 15 = .ok (.ireturn, 1) := by decide +kernel
theorem dX6_end_16 : decode cX6_end 16 = .ok (.aload_n 0, 1) := by decide +kernel
theorem dX6_end_17 : decode cX6_end 17 = .ok (.getfield 10, 3) := by decide +kernel
theorem dX6_end_20 : decode cX6_end 20 = .ok (.getfield 66, 3) := by decide +kernel
theorem dX6_end_23 : decode cX6_end 23 = .ok (.istore_n 2, 1) := by decide +kernel
theorem dX6_end_24 : decode cX6_end 24 = .ok (.aload_n 0, 1) := by decide +kernel
theorem dX6_end_25 : decode cX6_end 25 = .ok (.getfield 10, 3) := by decide +kernel
theorem dX6_end_28 : decode cX6_end 28 = .ok (.iload_n 1, 1) := by decide +kernel
theorem dX6_end_29 : decode cX6_end 29 = .ok (.putfield 66, 3) := by decide +kernel
theorem dX6_end_32 : decode cX6_end 32 = .ok (.iload_n 2, 1) := by decide +kernel
theorem dX6_end_33 : decode cX6_end 33 = .ok (.ireturn, 1) := by decide +kernel
set_option maxRecDepth 20000 in
theorem ggX6_text_X3_readTape : GoodIn wsX6_text wsX3_readTape := goodIn_r _ [15, 16, 17, 18, 19, 20, 21, 22, 23, 24, 25, 14, 26, 27, 28, 29, 30, 31, 32, 33, 34, 35, 36, 37, 38, 39, 40, 41, 42, 43, 44, 45, 46, 47, 48, 49, 50, 51, 52, 53, 54, 55, 56, 57, 58, 59, 60, 61, 62, 63, 64, 65, 66, 67, 68, 69, 70, 71, 72, 73, 74, 75, 76, 77, 78, 79, 80, 81, 82, 83, 84, 85, 86, 87, 88, 89, 90, 91, 92, 93, 94, 95, 96, 97, 98, 99, 100, 101, 102, 103, 104, 105, 106, 107, 108, 109, 110, 111, 112, 113, 114, 115, 116, 117, 118, 119, 120, 121, 122, 123, 124, 125, 126, 127, 128, 129, 130, 131, 132, 133, 134, 135, 136, 137, 138, 139, 140, 141, 142, 143, 144, 145, 146, 147, 148, 149, 150, 151, 152, 153, 154, 155, 156, 157, 196, 197, 198, 199, 200, 201, 202, 203, 204, 205, 206, 207, 215, 216, 217, 218, 219, 220, 221, 222, 223, 224, 225, 226, 227, 228, 229, 230, 231, 232, 233] (by decide +kernel) (by decide +kernel)
set_option maxRecDepth 20000 in
theorem gX6_text_X3_readTape : GoodIn wsX6_text (wsV RX6 70 RX3 yX3_readTape wsX3_readTape) := goodIn_app (goodIn_of _ (by decide +kernel)) ggX6_text_X3_readTape
set_option maxRecDepth 20000 in
theorem ggX6_text_X5_copyFrom : GoodIn wsX6_text wsX5_copyFrom := goodIn_r _ [161, 154, 155, 162, 163, 164, 165, 166, 167, 156, 157, 168, 169, 226, 227, 228, 229, 230, 231, 232, 233] (by decide +kernel) (by decide +kernel)
set_option maxRecDepth 20000 in
theorem gX6_text_X5_copyFrom : GoodIn wsX6_text (wsV RX6 78 RX5 yX5_copyFrom wsX5_copyFrom) := goodIn_app (goodIn_of _ (by decide +kernel)) ggX6_text_X5_copyFrom
set_option maxRecDepth 20000 in
theorem ggX6_text_X1_copyFrom : GoodIn wsX6_text wsX1_copyFrom := goodIn_r _ [174, 175, 176, 177, 163, 164, 165, 178, 179, 180, 181, 182, 183, 184, 185, 186, 215, 216, 217, 218, 219, 220, 221, 222, 223, 224, 225] (by decide +kernel) (by decide +kernel)
set_option maxRecDepth 20000 in
theorem gX6_text_X1_copyFrom : GoodIn wsX6_text (wsV RX6 83 RX1 yX1_copyFrom wsX1_copyFrom) := goodIn_app (goodIn_of _ (by decide +kernel)) ggX6_text_X1_copyFrom
theorem dX6_text_0 : decode cX6_text 0 = .ok (.aload_n 0, 1) := by decide +kernel
theorem dX6_text_1 : decode cX6_text 1 = .ok (.getfield 10, 3) := by decide +kernel
theorem dX6_text_4 : decode cX6_text 4 = .ok (.invokevirtual 70, 3) := by decide +kernel
theorem dX6_text_7 : decode cX6_text 7 = .ok (.istore_n 1, 1) := by decide +kernel
theorem dX6_text_8 : decode cX6_text 8 = .ok (.aload_n 0, 1) := by decide +kernel
theorem dX6_text_9 : decode cX6_text 9 = .ok (.getfield 10, 3) := by decide +kernel
theorem dX6_text_12 : decode cX6_text 12 = .ok (.getfield 74, 3) := by decide +kernel
theorem dX6_text_15 : decode cX6_text 15 = .ok (.ifCond .ne 62, 3) := by decide +kernel
theorem dX6_text_18 : decode cX6_text 18 = .ok (.aload_n 0, 1) := by decide +kernel
theorem dX6_text_19 : decode cX6_text 19 = .ok (.getfield 19, 3) := by decide +kernel
theorem dX6_text_22 : decode cX6_text 22 = .ok (.aload_n 0, 1) := by decide +kernel
theorem dX6_text_23 : decode cX6_text 23 = .ok (.getfield 10, 3) := by decide +kernel
theorem dX6_text_26 : decode cX6_text 26 = .ok (.getfield 77, 3) := by decide +kernel
theorem dX6_text_29 : decode cX6_text 29 = .ok (.invokevirtual 78, 3) := by decide +kernel
theorem dX6_text_32 : decode cX6_text 32 = .ok (.aload_n 0, 1) := by decide +kernel
theorem dX6_text_33 : decode cX6_text 33 = .ok (.getfield 26, 3) := by decide +kernel
theorem dX6_text_36 : decode cX6_text 36 = .ok (.aload_n 0, 1) := by decide +kernel
theorem dX6_text_37 : decode cX6_text 37 = .ok (.getfield 10, 3) := by decide +kernel
theorem dX6_text_40 : decode cX6_text 40 = .ok (.getfield 82, 3) := by decide +kernel
theorem dX6_text_43 : decode cX6_text 43 = .ok (.invokevirtual 83, 3) := by decide +kernel
theorem dX6_text_46 : decode cX6_text 46 = .ok (.aload_n 0, 1) := by decide +kernel
theorem dX6_text_47 : decode cX6_text 47 = .ok (.getfield 33, 3) := by decide +kernel
theorem dX6_text_50 : decode cX6_text 50 = .ok (.iconst 0, 1) := by decide +kernel
theorem dX6_text_51 : decode cX6_text 51 = .ok (.putfield 86, 3) := by decide +kernel
theorem dX6_text_54 : decode cX6_text 54 = .ok (.iconst 0, 1) := by decide +kernel
theorem dX6_text_55 : decode cX6_text 55 = .ok (.istore_n 2, 1) := by decide +kernel
theorem dX6_text_56 : decode cX6_text 56 = .ok (.iload_n 2, 1) := by decide +kernel
theorem dX6_text_57 : decode cX6_text 57 = .ok (.iconst 2, 1) := by decide +kernel
theorem dX6_text_58 : decode cX6_text 58 = .ok (.if_icmp .ge 19, 3) := by decide +kernel
theorem dX6_text_61 : decode cX6_text 61 = .ok (.aload_n 0, 1) := by decide +kernel
theorem dX6_text_62 : decode cX6_text 62 = .ok (.getfield 46, 3) := by decide +kernel
theorem dX6_text_65 : decode cX6_text 65 = .ok (.iload_n 2, 1) := by decide +kernel
theorem dX6_text_66 : decode cX6_text 66 = .ok (.aaload, 1) := by decide +kernel
theorem dX6_text_67 : decode cX6_text 67 = .ok (.iconst 0, 1) := by decide +kernel
theorem dX6_text_68 : decode cX6_text 68 = .ok (.putfield 89, 3) := by decide +kernel
theorem dX6_text_71 : decode cX6_text 71 = .ok (.iinc 2 1, 3) := by decide +kernel
theorem dX6_text_74 : decode cX6_text 74 = .ok (.goto (-18), 3) := by decide +kernel
theorem dX6_text_77 : decode cX6_text 77 = .ok (.iload_n 1, 1) := by decide +kernel
theorem dX6_text_78 : decode cX6_text 78 = .ok (.ireturn, 1) := by decide +kernel
theorem dX6_fault_0 : decode cX6_fault 0 = .ok (.aload_n 0, 1) := by decide +kernel
theorem dX6_fault_1 : decode cX6_fault 1 = .ok (.getfield 10, 3) := by decide +kernel
theorem dX6_fault_4 : decode cX6_fault 4 = .ok (.getfield 74, 3) := by decide +kernel
theorem dX6_fault_7 : decode cX6_fault 7 = .ok (.ireturn, 1) := by decide +kernel
theorem dX6_rule_0 : decode cX6_rule 0 = .ok (.iload_n 1, 1) := by decide +kernel
theorem dX6_rule_1 : decode cX6_rule 1 = .ok (.tableswitch 99 0 6 #[43, 51, 59, 67, 75, 83, 91], 43) := by decide +kernel
theorem dX6_rule_44 : decode cX6_rule 44 = .ok (.aload_n 0, 1) := by decide +kernel
theorem dX6_rule_45 : decode cX6_rule 45 = .ok (.getfield 26, 3) := by decide +kernel
theorem dX6_rule_48 : decode cX6_rule 48 = .ok (.getfield 93, 3) := by decide +kernel
theorem dX6_rule_51 : decode cX6_rule 51 = .ok (.ireturn, 1) := by decide +kernel
theorem dX6_rule_52 : decode cX6_rule 52 = .ok (.aload_n 0, 1) := by decide +kernel
theorem dX6_rule_53 : decode cX6_rule 53 = .ok (.getfield 19, 3) := by decide +kernel
theorem dX6_rule_56 : decode cX6_rule 56 = .ok (.getfield 96, 3) := by decide +kernel
theorem dX6_rule_59 : decode cX6_rule 59 = .ok (.ireturn, 1) := by decide +kernel
theorem dX6_rule_60 : decode cX6_rule 60 = .ok (.aload_n 0, 1) := by decide +kernel
theorem dX6_rule_61 : decode cX6_rule 61 = .ok (.getfield 19, 3) := by decide +kernel
theorem dX6_rule_64 : decode cX6_rule 64 = .ok (.getfield 99, 3) := by decide +kernel
theorem dX6_rule_67 : decode cX6_rule 67 = .ok (.ireturn, 1) := by decide +kernel
theorem dX6_rule_68 : decode cX6_rule 68 = .ok (.aload_n 0, 1) := by decide +kernel
theorem dX6_rule_69 : decode cX6_rule 69 = .ok (.getfield 26, 3) := by decide +kernel
theorem dX6_rule_72 : decode cX6_rule 72 = .ok (.getfield 102, 3) := by decide +kernel
theorem dX6_rule_75 : decode cX6_rule 75 = .ok (.ireturn, 1) := by decide +kernel
theorem dX6_rule_76 : decode cX6_rule 76 = .ok (.aload_n 0, 1) := by decide +kernel
theorem dX6_rule_77 : decode cX6_rule 77 = .ok (.getfield 26, 3) := by decide +kernel
theorem dX6_rule_80 : decode cX6_rule 80 = .ok (.getfield 105, 3) := by decide +kernel
theorem dX6_rule_83 : decode cX6_rule 83 = .ok (.ireturn, 1) := by decide +kernel
theorem dX6_rule_84 : decode cX6_rule 84 = .ok (.aload_n 0, 1) := by decide +kernel
theorem dX6_rule_85 : decode cX6_rule 85 = .ok (.getfield 26, 3) := by decide +kernel
theorem dX6_rule_88 : decode cX6_rule 88 = .ok (.getfield 108, 3) := by decide +kernel
theorem dX6_rule_91 : decode cX6_rule 91 = .ok (.ireturn, 1) := by decide +kernel
theorem dX6_rule_92 : decode cX6_rule 92 = .ok (.aload_n 0, 1) := by decide +kernel
theorem dX6_rule_93 : decode cX6_rule 93 = .ok (.getfield 26, 3) := by decide +kernel
theorem dX6_rule_96 : decode cX6_rule 96 = .ok (.getfield 111, 3) := by decide +kernel
theorem dX6_rule_99 : decode cX6_rule 99 = .ok (.ireturn, 1) := by decide +kernel
theorem dX6_rule_100 : decode cX6_rule 100 = .ok (.iconst (-1), 1) := by decide +kernel
theorem dX6_rule_101 : decode cX6_rule 101 = .ok (.ireturn, 1) := by decide +kernel
set_option maxRecDepth 20000 in
theorem ggX6_one_X6_isOne : GoodIn wsX6_one wsX6_isOne := goodIn_r _ [10, 1, 11, 12, 13, 14, 15, 16, 17, 18, 19, 20, 21, 22, 23, 24, 25, 26, 27, 28, 29, 30, 31] (by decide +kernel) (by decide +kernel)
set_option maxRecDepth 20000 in
theorem gX6_one_X6_isOne : GoodIn wsX6_one (wsV RX6 114 RX6 yX6_isOne wsX6_isOne) := goodIn_app (goodIn_of _ (by decide +kernel)) ggX6_one_X6_isOne
theorem dX6_one_0 : decode cX6_one 0 = .ok (.aload_n 0, 1) := by decide +kernel
theorem dX6_one_1 : decode cX6_one 1 = .ok (.iload_n 1, 1) := by decide +kernel
theorem dX6_one_2 : decode cX6_one 2 = .ok (.invokevirtual 114, 3) := by decide +kernel
theorem dX6_one_5 : decode cX6_one 5 = .ok (.ifCond .ne 5, 3) := by decide +kernel
theorem dX6_one_8 : decode cX6_one 8 = .ok (.iconst (-1), 1) := by decide +kernel
theorem dX6_one_9 : decode cX6_one 9 = .ok (.ireturn, 1) := by decide +kernel
theorem dX6_one_10 : decode cX6_one 10 = .ok (.iload_n 2, 1) := by decide +kernel
theorem dX6_one_11 : decode cX6_one 11 = .ok (.tableswitch 69 0 3 #[29, 39, 49, 59], 29) := by decide +kernel
theorem dX6_one_40 : decode cX6_one 40 = .ok (.aload_n 0, 1) := by decide +kernel
theorem dX6_one_41 : decode cX6_one 41 = .ok (.getfield 26, 3) := by decide +kernel
theorem dX6_one_44 : decode cX6_one 44 = .ok (.getfield 118, 3) := by decide +kernel
theorem dX6_one_47 : decode cX6_one 47 = .ok (.iload_n 1, 1) := by decide +kernel
theorem dX6_one_48 : decode cX6_one 48 = .ok (.iaload, 1) := by decide +kernel
theorem dX6_one_49 : decode cX6_one 49 = .ok (.ireturn, 1) := by decide +kernel
theorem dX6_one_50 : decode cX6_one 50 = .ok (.aload_n 0, 1) := by decide +kernel
theorem dX6_one_51 : decode cX6_one 51 = .ok (.getfield 26, 3) := by decide +kernel
theorem dX6_one_54 : decode cX6_one 54 = .ok (.getfield 121, 3) := by decide +kernel
theorem dX6_one_57 : decode cX6_one 57 = .ok (.iload_n 1, 1) := by decide +kernel
theorem dX6_one_58 : decode cX6_one 58 = .ok (.iaload, 1) := by decide +kernel
theorem dX6_one_59 : decode cX6_one 59 = .ok (.ireturn, 1) := by decide +kernel
theorem dX6_one_60 : decode cX6_one 60 = .ok (.aload_n 0, 1) := by decide +kernel
theorem dX6_one_61 : decode cX6_one 61 = .ok (.getfield 26, 3) := by decide +kernel
theorem dX6_one_64 : decode cX6_one 64 = .ok (.getfield 124, 3) := by decide +kernel
theorem dX6_one_67 : decode cX6_one 67 = .ok (.iload_n 1, 1) := by decide +kernel
theorem dX6_one_68 : decode cX6_one 68 = .ok (.iaload, 1) := by decide +kernel
theorem dX6_one_69 : decode cX6_one 69 = .ok (.ireturn, 1) := by decide +kernel
theorem dX6_one_70 : decode cX6_one 70 = .ok (.aload_n 0, 1) := by decide +kernel
theorem dX6_one_71 : decode cX6_one 71 = .ok (.getfield 26, 3) := by decide +kernel
theorem dX6_one_74 : decode cX6_one 74 = .ok (.getfield 127, 3) := by decide +kernel
theorem dX6_one_77 : decode cX6_one 77 = .ok (.iload_n 1, 1) := by decide +kernel
theorem dX6_one_78 : decode cX6_one 78 = .ok (.iaload, 1) := by decide +kernel
theorem dX6_one_79 : decode cX6_one 79 = .ok (.ireturn, 1) := by decide +kernel
theorem dX6_one_80 : decode cX6_one 80 = .ok (.iconst (-1), 1) := by decide +kernel
theorem dX6_one_81 : decode cX6_one 81 = .ok (.ireturn, 1) := by decide +kernel
set_option maxRecDepth 20000 in
theorem ggX6_trip_X6_isIncident : GoodIn wsX6_trip wsX6_isIncident := goodIn_r _ [11, 1, 12, 27, 28, 29, 30, 31, 32, 33, 34, 35, 36, 37, 38, 39, 40, 41, 42, 43] (by decide +kernel) (by decide +kernel)
set_option maxRecDepth 20000 in
theorem gX6_trip_X6_isIncident : GoodIn wsX6_trip (wsV RX6 130 RX6 yX6_isIncident wsX6_isIncident) := goodIn_app (goodIn_of _ (by decide +kernel)) ggX6_trip_X6_isIncident
set_option maxRecDepth 20000 in
theorem ggX6_trip_X1_isDeposited : GoodIn wsX6_trip wsX1_isDeposited := goodIn_r _ [17, 18, 44, 45, 46, 47, 48, 49, 50, 51, 52, 53, 54] (by decide +kernel) (by decide +kernel)
set_option maxRecDepth 20000 in
theorem gX6_trip_X1_isDeposited : GoodIn wsX6_trip (wsV RX6 145 RX1 yX1_isDeposited wsX1_isDeposited) := goodIn_app (goodIn_of _ (by decide +kernel)) ggX6_trip_X1_isDeposited
set_option maxRecDepth 20000 in
theorem ggX6_trip_X1_blushOf : GoodIn wsX6_trip wsX1_blushOf := goodIn_r _ [22, 23, 24, 25, 26, 36, 37, 38, 39, 40, 41, 42, 43, 44, 45, 46, 47, 48, 49, 50, 51, 52, 53, 54] (by decide +kernel) (by decide +kernel)
set_option maxRecDepth 20000 in
theorem gX6_trip_X1_blushOf : GoodIn wsX6_trip (wsV RX6 148 RX1 yX1_blushOf wsX1_blushOf) := goodIn_app (goodIn_of _ (by decide +kernel)) ggX6_trip_X1_blushOf
theorem dX6_trip_0 : decode cX6_trip 0 = .ok (.aload_n 0, 1) := by decide +kernel
theorem dX6_trip_1 : decode cX6_trip 1 = .ok (.iload_n 1, 1) := by decide +kernel
theorem dX6_trip_2 : decode cX6_trip 2 = .ok (.invokevirtual 130, 3) := by decide +kernel
theorem dX6_trip_5 : decode cX6_trip 5 = .ok (.ifCond .ne 5, 3) := by decide +kernel
theorem dX6_trip_8 : decode cX6_trip 8 = .ok (.iconst (-1), 1) := by decide +kernel
theorem dX6_trip_9 : decode cX6_trip 9 = .ok (.ireturn, 1) := by decide +kernel
theorem dX6_trip_10 : decode cX6_trip 10 = .ok (.iload_n 2, 1) := by decide +kernel
theorem dX6_trip_11 : decode cX6_trip 11 = .ok (.tableswitch 107 0 5 #[37, 47, 57, 67, 77, 94], 37) := by decide +kernel
theorem dX6_trip_48 : decode cX6_trip 48 = .ok (.aload_n 0, 1) := by decide +kernel
theorem dX6_trip_49 : decode cX6_trip 49 = .ok (.getfield 19, 3) := by decide +kernel
theorem dX6_trip_52 : decode cX6_trip 52 = .ok (.getfield 133, 3) := by decide +kernel
theorem dX6_trip_55 : decode cX6_trip 55 = .ok (.iload_n 1, 1) := by decide +kernel
theorem dX6_trip_56 : decode cX6_trip 56 = .ok (.iaload, 1) := by decide +kernel
theorem dX6_trip_57 : decode cX6_trip 57 = .ok (.ireturn, 1) := by decide +kernel
theorem dX6_trip_58 : decode cX6_trip 58 = .ok (.aload_n 0, 1) := by decide +kernel
theorem dX6_trip_59 : decode cX6_trip 59 = .ok (.getfield 19, 3) := by decide +kernel
theorem dX6_trip_62 : decode cX6_trip 62 = .ok (.getfield 136, 3) := by decide +kernel
theorem dX6_trip_65 : decode cX6_trip 65 = .ok (.iload_n 1, 1) := by decide +kernel
theorem dX6_trip_66 : decode cX6_trip 66 = .ok (.iaload, 1) := by decide +kernel
theorem dX6_trip_67 : decode cX6_trip 67 = .ok (.ireturn, 1) := by decide +kernel
theorem dX6_trip_68 : decode cX6_trip 68 = .ok (.aload_n 0, 1) := by decide +kernel
theorem dX6_trip_69 : decode cX6_trip 69 = .ok (.getfield 19, 3) := by decide +kernel
theorem dX6_trip_72 : decode cX6_trip 72 = .ok (.getfield 139, 3) := by decide +kernel
theorem dX6_trip_75 : decode cX6_trip 75 = .ok (.iload_n 1, 1) := by decide +kernel
theorem dX6_trip_76 : decode cX6_trip 76 = .ok (.iaload, 1) := by decide +kernel
theorem dX6_trip_77 : decode cX6_trip 77 = .ok (.ireturn, 1) := by decide +kernel
theorem dX6_trip_78 : decode cX6_trip 78 = .ok (.aload_n 0, 1) := by decide +kernel
theorem dX6_trip_79 : decode cX6_trip 79 = .ok (.getfield 26, 3) := by decide +kernel
theorem dX6_trip_82 : decode cX6_trip 82 = .ok (.getfield 142, 3) := by decide +kernel
theorem dX6_trip_85 : decode cX6_trip 85 = .ok (.iload_n 1, 1) := by decide +kernel
theorem dX6_trip_86 : decode cX6_trip 86 = .ok (.iaload, 1) := by decide +kernel
theorem dX6_trip_87 : decode cX6_trip 87 = .ok (.ireturn, 1) := by decide +kernel
theorem dX6_trip_88 : decode cX6_trip 88 = .ok (.aload_n 0, 1) := by decide +kernel
theorem dX6_trip_89 : decode cX6_trip 89 = .ok (.getfield 26, 3) := by decide +kernel
theorem dX6_trip_92 : decode cX6_trip 92 = .ok (.iload_n 1, 1) := by decide +kernel
theorem dX6_trip_93 : decode cX6_trip 93 = .ok (.invokevirtual 145, 3) := by decide +kernel
theorem dX6_trip_96 : decode cX6_trip 96 = .ok (.ifCond .eq 7, 3) := by decide +kernel
theorem dX6_trip_99 : decode cX6_trip 99 = .ok (.iconst 1, 1) := by decide +kernel
theorem dX6_trip_100 : decode cX6_trip 100 = .ok (.goto 4, 3) := by decide +kernel
theorem dX6_trip_103 : decode cX6_trip 103 = .ok (.iconst 0, 1) := by decide +kernel
theorem dX6_trip_104 : decode cX6_trip 104 = .ok (.ireturn, 1) := by decide +kernel
theorem dX6_trip_105 : decode cX6_trip 105 = .ok (.aload_n 0, 1) := by decide +kernel
theorem dX6_trip_106 : decode cX6_trip 106 = .ok (.getfield 26, 3) := by decide +kernel
theorem dX6_trip_109 : decode cX6_trip 109 = .ok (.aload_n 0, 1) := by decide +kernel
theorem dX6_trip_110 : decode cX6_trip 110 = .ok (.getfield 19, 3) := by decide +kernel
theorem dX6_trip_113 : decode cX6_trip 113 = .ok (.iload_n 1, 1) := by decide +kernel
theorem dX6_trip_114 : decode cX6_trip 114 = .ok (.invokevirtual 148, 3) := by decide +kernel
theorem dX6_trip_117 : decode cX6_trip 117 = .ok (.ireturn, 1) := by decide +kernel
theorem dX6_trip_118 : decode cX6_trip 118 = .ok (.iconst (-1), 1) := by decide +kernel
theorem dX6_trip_119 : decode cX6_trip 119 = .ok (.ireturn, 1) := by decide +kernel
theorem dX6_asked_0 : decode cX6_asked 0 = .ok (.iload_n 1, 1) := by decide +kernel
theorem dX6_asked_1 : decode cX6_asked 1 = .ok (.ifCond .lt 14, 3) := by decide +kernel
theorem dX6_asked_4 : decode cX6_asked 4 = .ok (.iload_n 1, 1) := by decide +kernel
theorem dX6_asked_5 : decode cX6_asked 5 = .ok (.aload_n 0, 1) := by decide +kernel
theorem dX6_asked_6 : decode cX6_asked 6 = .ok (.getfield 19, 3) := by decide +kernel
theorem dX6_asked_9 : decode cX6_asked 9 = .ok (.getfield 99, 3) := by decide +kernel
theorem dX6_asked_12 : decode cX6_asked 12 = .ok (.if_icmp .lt 5, 3) := by decide +kernel
theorem dX6_asked_15 : decode cX6_asked 15 = .ok (.iconst (-1), 1) := by decide +kernel
theorem dX6_asked_16 : decode cX6_asked 16 = .ok (.ireturn, 1) := by decide +kernel
theorem dX6_asked_17 : decode cX6_asked 17 = .ok (.iload_n 2, 1) := by decide +kernel
theorem dX6_asked_18 : decode cX6_asked 18 = .ok (.tableswitch 56 0 2 #[26, 36, 46], 26) := by decide +kernel
theorem dX6_asked_44 : decode cX6_asked 44 = .ok (.aload_n 0, 1) := by decide +kernel
theorem dX6_asked_45 : decode cX6_asked 45 = .ok (.getfield 19, 3) := by decide +kernel
theorem dX6_asked_48 : decode cX6_asked 48 = .ok (.getfield 152, 3) := by decide +kernel
theorem dX6_asked_51 : decode cX6_asked 51 = .ok (.iload_n 1, 1) := by decide +kernel
theorem dX6_asked_52 : decode cX6_asked 52 = .ok (.iaload, 1) := by decide +kernel
theorem dX6_asked_53 : decode cX6_asked 53 = .ok (.ireturn, 1) := by decide +kernel
theorem dX6_asked_54 : decode cX6_asked 54 = .ok (.aload_n 0, 1) := by decide +kernel
theorem dX6_asked_55 : decode cX6_asked 55 = .ok (.getfield 19, 3) := by decide +kernel
theorem dX6_asked_58 : decode cX6_asked 58 = .ok (.getfield 155, 3) := by decide +kernel
theorem dX6_asked_61 : decode cX6_asked 61 = .ok (.iload_n 1, 1) := by decide +kernel
theorem dX6_asked_62 : decode cX6_asked 62 = .ok (.iaload, 1) := by decide +kernel
theorem dX6_asked_63 : decode cX6_asked 63 = .ok (.ireturn, 1) := by decide +kernel
theorem dX6_asked_64 : decode cX6_asked 64 = .ok (.aload_n 0, 1) := by decide +kernel
theorem dX6_asked_65 : decode cX6_asked 65 = .ok (.getfield 19, 3) := by decide +kernel
theorem dX6_asked_68 : decode cX6_asked 68 = .ok (.getfield 158, 3) := by decide +kernel
theorem dX6_asked_71 : decode cX6_asked 71 = .ok (.iload_n 1, 1) := by decide +kernel
theorem dX6_asked_72 : decode cX6_asked 72 = .ok (.iaload, 1) := by decide +kernel
theorem dX6_asked_73 : decode cX6_asked 73 = .ok (.ireturn, 1) := by decide +kernel
theorem dX6_asked_74 : decode cX6_asked 74 = .ok (.iconst (-1), 1) := by decide +kernel
theorem dX6_asked_75 : decode cX6_asked 75 = .ok (.ireturn, 1) := by decide +kernel
set_option maxRecDepth 20000 in
theorem ggX6_deposit_X6_isIncident : GoodIn wsX6_deposit wsX6_isIncident := goodIn_r _ [10, 1, 11, 18, 19, 20, 21, 22, 23, 24, 25, 26, 27, 28, 29, 30, 31, 32, 33, 34] (by decide +kernel) (by decide +kernel)
set_option maxRecDepth 20000 in
theorem gX6_deposit_X6_isIncident : GoodIn wsX6_deposit (wsV RX6 130 RX6 yX6_isIncident wsX6_isIncident) := goodIn_app (goodIn_of _ (by decide +kernel)) ggX6_deposit_X6_isIncident
set_option maxRecDepth 20000 in
theorem ggX6_deposit_X1_isDeposited : GoodIn wsX6_deposit wsX1_isDeposited := goodIn_r _ [16, 17, 35, 36, 37, 38, 39, 40, 41, 42, 43, 44, 45] (by decide +kernel) (by decide +kernel)
set_option maxRecDepth 20000 in
theorem gX6_deposit_X1_isDeposited : GoodIn wsX6_deposit (wsV RX6 145 RX1 yX1_isDeposited wsX1_isDeposited) := goodIn_app (goodIn_of _ (by decide +kernel)) ggX6_deposit_X1_isDeposited
theorem dX6_deposit_0 : decode cX6_deposit 0 = .ok (.aload_n 0, 1) := by decide +kernel
theorem dX6_deposit_1 : decode cX6_deposit 1 = .ok (.iload_n 1, 1) := by decide +kernel
theorem dX6_deposit_2 : decode cX6_deposit 2 = .ok (.invokevirtual 130, 3) := by decide +kernel
theorem dX6_deposit_5 : decode cX6_deposit 5 = .ok (.ifCond .ne 5, 3) := by decide +kernel
theorem dX6_deposit_8 : decode cX6_deposit 8 = .ok (.iconst (-1), 1) := by decide +kernel
theorem dX6_deposit_9 : decode cX6_deposit 9 = .ok (.ireturn, 1) := by decide +kernel
theorem dX6_deposit_10 : decode cX6_deposit 10 = .ok (.aload_n 0, 1) := by decide +kernel
theorem dX6_deposit_11 : decode cX6_deposit 11 = .ok (.getfield 19, 3) := by decide +kernel
theorem dX6_deposit_14 : decode cX6_deposit 14 = .ok (.getfield 136, 3) := by decide +kernel
theorem dX6_deposit_17 : decode cX6_deposit 17 = .ok (.iload_n 1, 1) := by decide +kernel
theorem dX6_deposit_18 : decode cX6_deposit 18 = .ok (.iaload, 1) := by decide +kernel
theorem dX6_deposit_19 : decode cX6_deposit 19 = .ok (.aload_n 0, 1) := by decide +kernel
theorem dX6_deposit_20 : decode cX6_deposit 20 = .ok (.getfield 26, 3) := by decide +kernel
theorem dX6_deposit_23 : decode cX6_deposit 23 = .ok (.getfield 108, 3) := by decide +kernel
theorem dX6_deposit_26 : decode cX6_deposit 26 = .ok (.if_icmp .ge 6, 3) := by decide +kernel
theorem dX6_deposit_29 : decode cX6_deposit 29 = .ok (.bipush (-2), 2) := by decide +kernel
theorem dX6_deposit_31 : decode cX6_deposit 31 = .ok (.ireturn, 1) := by decide +kernel
theorem dX6_deposit_32 : decode cX6_deposit 32 = .ok (.aload_n 0, 1) := by decide +kernel
theorem dX6_deposit_33 : decode cX6_deposit 33 = .ok (.getfield 26, 3) := by decide +kernel
theorem dX6_deposit_36 : decode cX6_deposit 36 = .ok (.iload_n 1, 1) := by decide +kernel
theorem dX6_deposit_37 : decode cX6_deposit 37 = .ok (.invokevirtual 145, 3) := by decide +kernel
theorem dX6_deposit_40 : decode cX6_deposit 40 = .ok (.ifCond .eq 7, 3) := by decide +kernel
theorem dX6_deposit_43 : decode cX6_deposit 43 = .ok (.iconst 1, 1) := by decide +kernel
