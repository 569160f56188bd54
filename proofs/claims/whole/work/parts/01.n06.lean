theorem dX6_deposit_44 : decode cX6_deposit 44 = .ok (.goto 4, 3) := by decide +kernel
theorem dX6_deposit_47 : decode cX6_deposit 47 = .ok (.iconst 0, 1) := by decide +kernel
theorem dX6_deposit_48 : decode cX6_deposit 48 = .ok (.istore_n 3, 1) := by decide +kernel
theorem dX6_deposit_49 : decode cX6_deposit 49 = .ok (.iconst 1, 1) := by decide +kernel
theorem dX6_deposit_50 : decode cX6_deposit 50 = .ok (.iload_n 1, 1) := by decide +kernel
theorem dX6_deposit_51 : decode cX6_deposit 51 = .ok (.ishl, 1) := by decide +kernel
theorem dX6_deposit_52 : decode cX6_deposit 52 = .ok (.istore 4, 2) := by decide +kernel
theorem dX6_deposit_54 : decode cX6_deposit 54 = .ok (.aload_n 0, 1) := by decide +kernel
theorem dX6_deposit_55 : decode cX6_deposit 55 = .ok (.getfield 26, 3) := by decide +kernel
theorem dX6_deposit_58 : decode cX6_deposit 58 = .ok (.iload_n 2, 1) := by decide +kernel
theorem dX6_deposit_59 : decode cX6_deposit 59 = .ok (.ifCond .eq 16, 3) := by decide +kernel
theorem dX6_deposit_62 : decode cX6_deposit 62 = .ok (.aload_n 0, 1) := by decide +kernel
theorem dX6_deposit_63 : decode cX6_deposit 63 = .ok (.getfield 26, 3) := by decide +kernel
theorem dX6_deposit_66 : decode cX6_deposit 66 = .ok (.getfield 111, 3) := by decide +kernel
theorem dX6_deposit_69 : decode cX6_deposit 69 = .ok (.iload 4, 2) := by decide +kernel
theorem dX6_deposit_71 : decode cX6_deposit 71 = .ok (.ior, 1) := by decide +kernel
theorem dX6_deposit_72 : decode cX6_deposit 72 = .ok (.goto 15, 3) := by decide +kernel
theorem dX6_deposit_75 : decode cX6_deposit 75 = .ok (.aload_n 0, 1) := by decide +kernel
theorem dX6_deposit_76 : decode cX6_deposit 76 = .ok (.getfield 26, 3) := by decide +kernel
theorem dX6_deposit_79 : decode cX6_deposit 79 = .ok (.getfield 111, 3) := by decide +kernel
theorem dX6_deposit_82 : decode cX6_deposit 82 = .ok (.iload 4, 2) := by decide +kernel
theorem dX6_deposit_84 : decode cX6_deposit 84 = .ok (.iconst (-1), 1) := by decide +kernel
theorem dX6_deposit_85 : decode cX6_deposit 85 = .ok (.ixor, 1) := by decide +kernel
theorem dX6_deposit_86 : decode cX6_deposit 86 = .ok (.iand, 1) := by decide +kernel
theorem dX6_deposit_87 : decode cX6_deposit 87 = .ok (.putfield 111, 3) := by decide +kernel
theorem dX6_deposit_90 : decode cX6_deposit 90 = .ok (.iload_n 3, 1) := by decide +kernel
theorem dX6_deposit_91 : decode cX6_deposit 91 = .ok (.ireturn, 1) := by decide +kernel
set_option maxRecDepth 20000 in
theorem ggX6_give_X6_isOne : GoodIn wsX6_give wsX6_isOne := goodIn_r _ [7, 1, 8, 12, 13, 14, 15, 16, 17, 18, 19, 20, 21, 22, 23, 24, 25, 26, 27, 28, 29, 30, 31] (by decide +kernel) (by decide +kernel)
set_option maxRecDepth 20000 in
theorem gX6_give_X6_isOne : GoodIn wsX6_give (wsV RX6 114 RX6 yX6_isOne wsX6_isOne) := goodIn_app (goodIn_of _ (by decide +kernel)) ggX6_give_X6_isOne
set_option maxRecDepth 20000 in
theorem ggX6_give_X6_isWithin : GoodIn wsX6_give wsX6_isWithin := goodIn_r _ [11] (by decide +kernel) (by decide +kernel)
set_option maxRecDepth 20000 in
theorem gX6_give_X6_isWithin : GoodIn wsX6_give (va_wsS RX6 58 yX6_isWithin wsX6_isWithin) := goodIn_app (goodIn_of _ (by decide +kernel)) ggX6_give_X6_isWithin
theorem dX6_give_0 : decode cX6_give 0 = .ok (.aload_n 0, 1) := by decide +kernel
theorem dX6_give_1 : decode cX6_give 1 = .ok (.iload_n 1, 1) := by decide +kernel
theorem dX6_give_2 : decode cX6_give 2 = .ok (.invokevirtual 114, 3) := by decide +kernel
theorem dX6_give_5 : decode cX6_give 5 = .ok (.ifCond .eq 25, 3) := by decide +kernel
theorem dX6_give_8 : decode cX6_give 8 = .ok (.aload_n 0, 1) := by decide +kernel
theorem dX6_give_9 : decode cX6_give 9 = .ok (.iload_n 2, 1) := by decide +kernel
theorem dX6_give_10 : decode cX6_give 10 = .ok (.invokevirtual 114, 3) := by decide +kernel
theorem dX6_give_13 : decode cX6_give 13 = .ok (.ifCond .eq 17, 3) := by decide +kernel
theorem dX6_give_16 : decode cX6_give 16 = .ok (.iload_n 1, 1) := by decide +kernel
theorem dX6_give_17 : decode cX6_give 17 = .ok (.iload_n 2, 1) := by decide +kernel
theorem dX6_give_18 : decode cX6_give 18 = .ok (.if_icmp .eq 12, 3) := by decide +kernel
theorem dX6_give_21 : decode cX6_give 21 = .ok (.iload_n 3, 1) := by decide +kernel
theorem dX6_give_22 : decode cX6_give 22 = .ok (.bipush 99, 2) := by decide +kernel
theorem dX6_give_24 : decode cX6_give 24 = .ok (.invokestatic 58, 3) := by decide +kernel
theorem dX6_give_27 : decode cX6_give 27 = .ok (.ifCond .ne 5, 3) := by decide +kernel
theorem dX6_give_30 : decode cX6_give 30 = .ok (.iconst (-1), 1) := by decide +kernel
theorem dX6_give_31 : decode cX6_give 31 = .ok (.ireturn, 1) := by decide +kernel
theorem dX6_give_32 : decode cX6_give 32 = .ok (.aload_n 0, 1) := by decide +kernel
theorem dX6_give_33 : decode cX6_give 33 = .ok (.getfield 26, 3) := by decide +kernel
theorem dX6_give_36 : decode cX6_give 36 = .ok (.getfield 121, 3) := by decide +kernel
theorem dX6_give_39 : decode cX6_give 39 = .ok (.iload_n 1, 1) := by decide +kernel
theorem dX6_give_40 : decode cX6_give 40 = .ok (.iaload, 1) := by decide +kernel
theorem dX6_give_41 : decode cX6_give 41 = .ok (.iload_n 3, 1) := by decide +kernel
theorem dX6_give_42 : decode cX6_give 42 = .ok (.if_icmp .ge 6, 3) := by decide +kernel
theorem dX6_give_45 : decode cX6_give 45 = .ok (.bipush (-2), 2) := by decide +kernel
theorem dX6_give_47 : decode cX6_give 47 = .ok (.ireturn, 1) := by decide +kernel
theorem dX6_give_48 : decode cX6_give 48 = .ok (.aload_n 0, 1) := by decide +kernel
theorem dX6_give_49 : decode cX6_give 49 = .ok (.getfield 26, 3) := by decide +kernel
theorem dX6_give_52 : decode cX6_give 52 = .ok (.getfield 121, 3) := by decide +kernel
theorem dX6_give_55 : decode cX6_give 55 = .ok (.iload_n 2, 1) := by decide +kernel
theorem dX6_give_56 : decode cX6_give 56 = .ok (.iaload, 1) := by decide +kernel
theorem dX6_give_57 : decode cX6_give 57 = .ok (.iload_n 3, 1) := by decide +kernel
theorem dX6_give_58 : decode cX6_give 58 = .ok (.iadd, 1) := by decide +kernel
theorem dX6_give_59 : decode cX6_give 59 = .ok (.sipush 999, 3) := by decide +kernel
theorem dX6_give_62 : decode cX6_give 62 = .ok (.if_icmp .le 6, 3) := by decide +kernel
theorem dX6_give_65 : decode cX6_give 65 = .ok (.bipush (-3), 2) := by decide +kernel
theorem dX6_give_67 : decode cX6_give 67 = .ok (.ireturn, 1) := by decide +kernel
theorem dX6_give_68 : decode cX6_give 68 = .ok (.aload_n 0, 1) := by decide +kernel
theorem dX6_give_69 : decode cX6_give 69 = .ok (.getfield 26, 3) := by decide +kernel
theorem dX6_give_72 : decode cX6_give 72 = .ok (.getfield 121, 3) := by decide +kernel
theorem dX6_give_75 : decode cX6_give 75 = .ok (.iload_n 1, 1) := by decide +kernel
theorem dX6_give_76 : decode cX6_give 76 = .ok (.dup2, 1) := by decide +kernel
theorem dX6_give_77 : decode cX6_give 77 = .ok (.iaload, 1) := by decide +kernel
theorem dX6_give_78 : decode cX6_give 78 = .ok (.iload_n 3, 1) := by decide +kernel
theorem dX6_give_79 : decode cX6_give 79 = .ok (.isub, 1) := by decide +kernel
theorem dX6_give_80 : decode cX6_give 80 = .ok (.iastore, 1) := by decide +kernel
theorem dX6_give_81 : decode cX6_give 81 = .ok (.aload_n 0, 1) := by decide +kernel
theorem dX6_give_82 : decode cX6_give 82 = .ok (.getfield 26, 3) := by decide +kernel
theorem dX6_give_85 : decode cX6_give 85 = .ok (.getfield 121, 3) := by decide +kernel
theorem dX6_give_88 : decode cX6_give 88 = .ok (.iload_n 2, 1) := by decide +kernel
theorem dX6_give_89 : decode cX6_give 89 = .ok (.dup2, 1) := by decide +kernel
theorem dX6_give_90 : decode cX6_give 90 = .ok (.iaload, 1) := by decide +kernel
theorem dX6_give_91 : decode cX6_give 91 = .ok (.iload_n 3, 1) := by decide +kernel
theorem dX6_give_92 : decode cX6_give 92 = .ok (.iadd, 1) := by decide +kernel
theorem dX6_give_93 : decode cX6_give 93 = .ok (.iastore, 1) := by decide +kernel
theorem dX6_give_94 : decode cX6_give 94 = .ok (.aload_n 0, 1) := by decide +kernel
theorem dX6_give_95 : decode cX6_give 95 = .ok (.getfield 26, 3) := by decide +kernel
theorem dX6_give_98 : decode cX6_give 98 = .ok (.getfield 121, 3) := by decide +kernel
theorem dX6_give_101 : decode cX6_give 101 = .ok (.iload_n 1, 1) := by decide +kernel
theorem dX6_give_102 : decode cX6_give 102 = .ok (.iaload, 1) := by decide +kernel
theorem dX6_give_103 : decode cX6_give 103 = .ok (.ireturn, 1) := by decide +kernel
set_option maxRecDepth 20000 in
theorem ggX6_draw_X1_takeOut : GoodIn wsX6_draw wsX1_takeOut := goodIn_r _ [6, 7, 8, 9, 10, 11, 12, 13, 23, 24, 25, 26, 27, 28, 29, 30, 31, 32, 33] (by decide +kernel) (by decide +kernel)
set_option maxRecDepth 20000 in
theorem gX6_draw_X1_takeOut : GoodIn wsX6_draw (wsV RX6 161 RX1 yX1_takeOut wsX1_takeOut) := goodIn_app (goodIn_of _ (by decide +kernel)) ggX6_draw_X1_takeOut
theorem dX6_draw_0 : decode cX6_draw 0 = .ok (.aload_n 0, 1) := by decide +kernel
theorem dX6_draw_1 : decode cX6_draw 1 = .ok (.getfield 26, 3) := by decide +kernel
theorem dX6_draw_4 : decode cX6_draw 4 = .ok (.iload_n 1, 1) := by decide +kernel
theorem dX6_draw_5 : decode cX6_draw 5 = .ok (.iload_n 2, 1) := by decide +kernel
theorem dX6_draw_6 : decode cX6_draw 6 = .ok (.invokevirtual 161, 3) := by decide +kernel
theorem dX6_draw_9 : decode cX6_draw 9 = .ok (.ireturn, 1) := by decide +kernel
set_option maxRecDepth 20000 in
theorem ggX6_rumour_X6_isOne : GoodIn wsX6_rumour wsX6_isOne := goodIn_r _ [7, 1, 8, 19, 20, 21, 22, 23, 24, 25, 26, 27, 28, 29, 30, 31, 32, 33, 34, 35, 36, 37, 38] (by decide +kernel) (by decide +kernel)
set_option maxRecDepth 20000 in
theorem gX6_rumour_X6_isOne : GoodIn wsX6_rumour (wsV RX6 114 RX6 yX6_isOne wsX6_isOne) := goodIn_app (goodIn_of _ (by decide +kernel)) ggX6_rumour_X6_isOne
set_option maxRecDepth 20000 in
theorem ggX6_rumour_X1_spreadRumour : GoodIn wsX6_rumour wsX1_spreadRumour := goodIn_r _ [13, 14, 15, 16, 17, 18, 39, 40, 41, 42, 43, 44, 45, 46, 28, 29, 30, 31, 32, 33, 34, 35, 36, 37, 38] (by decide +kernel) (by decide +kernel)
set_option maxRecDepth 20000 in
theorem gX6_rumour_X1_spreadRumour : GoodIn wsX6_rumour (wsV RX6 165 RX1 yX1_spreadRumour wsX1_spreadRumour) := goodIn_app (goodIn_of _ (by decide +kernel)) ggX6_rumour_X1_spreadRumour
theorem dX6_rumour_0 : decode cX6_rumour 0 = .ok (.aload_n 0, 1) := by decide +kernel
theorem dX6_rumour_1 : decode cX6_rumour 1 = .ok (.iload_n 1, 1) := by decide +kernel
theorem dX6_rumour_2 : decode cX6_rumour 2 = .ok (.invokevirtual 114, 3) := by decide +kernel
theorem dX6_rumour_5 : decode cX6_rumour 5 = .ok (.ifCond .eq 18, 3) := by decide +kernel
theorem dX6_rumour_8 : decode cX6_rumour 8 = .ok (.aload_n 0, 1) := by decide +kernel
theorem dX6_rumour_9 : decode cX6_rumour 9 = .ok (.getfield 26, 3) := by decide +kernel
theorem dX6_rumour_12 : decode cX6_rumour 12 = .ok (.aload_n 0, 1) := by decide +kernel
theorem dX6_rumour_13 : decode cX6_rumour 13 = .ok (.getfield 19, 3) := by decide +kernel
theorem dX6_rumour_16 : decode cX6_rumour 16 = .ok (.iload_n 1, 1) := by decide +kernel
theorem dX6_rumour_17 : decode cX6_rumour 17 = .ok (.invokevirtual 165, 3) := by decide +kernel
theorem dX6_rumour_20 : decode cX6_rumour 20 = .ok (.goto 4, 3) := by decide +kernel
theorem dX6_rumour_23 : decode cX6_rumour 23 = .ok (.iconst (-1), 1) := by decide +kernel
theorem dX6_rumour_24 : decode cX6_rumour 24 = .ok (.ireturn, 1) := by decide +kernel
set_option maxRecDepth 20000 in
theorem ggX6_law_X6_isWithin : GoodIn wsX6_law wsX6_isWithin := goodIn_r _ [7] (by decide +kernel) (by decide +kernel)
set_option maxRecDepth 20000 in
theorem gX6_law_X6_isWithin : GoodIn wsX6_law (va_wsS RX6 58 yX6_isWithin wsX6_isWithin) := goodIn_app (goodIn_of _ (by decide +kernel)) ggX6_law_X6_isWithin
theorem dX6_law_0 : decode cX6_law 0 = .ok (.iload_n 1, 1) := by decide +kernel
theorem dX6_law_1 : decode cX6_law 1 = .ok (.ifCond .ne 30, 3) := by decide +kernel
theorem dX6_law_4 : decode cX6_law 4 = .ok (.iload_n 2, 1) := by decide +kernel
theorem dX6_law_5 : decode cX6_law 5 = .ok (.bipush 9, 2) := by decide +kernel
theorem dX6_law_7 : decode cX6_law 7 = .ok (.invokestatic 58, 3) := by decide +kernel
theorem dX6_law_10 : decode cX6_law 10 = .ok (.ifCond .eq 21, 3) := by decide +kernel
theorem dX6_law_13 : decode cX6_law 13 = .ok (.aload_n 0, 1) := by decide +kernel
theorem dX6_law_14 : decode cX6_law 14 = .ok (.getfield 26, 3) := by decide +kernel
theorem dX6_law_17 : decode cX6_law 17 = .ok (.getfield 102, 3) := by decide +kernel
theorem dX6_law_20 : decode cX6_law 20 = .ok (.istore_n 3, 1) := by decide +kernel
theorem dX6_law_21 : decode cX6_law 21 = .ok (.aload_n 0, 1) := by decide +kernel
theorem dX6_law_22 : decode cX6_law 22 = .ok (.getfield 26, 3) := by decide +kernel
theorem dX6_law_25 : decode cX6_law 25 = .ok (.iload_n 2, 1) := by decide +kernel
theorem dX6_law_26 : decode cX6_law 26 = .ok (.putfield 102, 3) := by decide +kernel
theorem dX6_law_29 : decode cX6_law 29 = .ok (.iload_n 3, 1) := by decide +kernel
theorem dX6_law_30 : decode cX6_law 30 = .ok (.ireturn, 1) := by decide +kernel
theorem dX6_law_31 : decode cX6_law 31 = .ok (.iload_n 1, 1) := by decide +kernel
theorem dX6_law_32 : decode cX6_law 32 = .ok (.iconst 1, 1) := by decide +kernel
theorem dX6_law_33 : decode cX6_law 33 = .ok (.if_icmp .ne 30, 3) := by decide +kernel
theorem dX6_law_36 : decode cX6_law 36 = .ok (.iload_n 2, 1) := by decide +kernel
theorem dX6_law_37 : decode cX6_law 37 = .ok (.bipush 99, 2) := by decide +kernel
theorem dX6_law_39 : decode cX6_law 39 = .ok (.invokestatic 58, 3) := by decide +kernel
theorem dX6_law_42 : decode cX6_law 42 = .ok (.ifCond .eq 21, 3) := by decide +kernel
theorem dX6_law_45 : decode cX6_law 45 = .ok (.aload_n 0, 1) := by decide +kernel
theorem dX6_law_46 : decode cX6_law 46 = .ok (.getfield 26, 3) := by decide +kernel
theorem dX6_law_49 : decode cX6_law 49 = .ok (.getfield 105, 3) := by decide +kernel
theorem dX6_law_52 : decode cX6_law 52 = .ok (.istore_n 3, 1) := by decide +kernel
theorem dX6_law_53 : decode cX6_law 53 = .ok (.aload_n 0, 1) := by decide +kernel
theorem dX6_law_54 : decode cX6_law 54 = .ok (.getfield 26, 3) := by decide +kernel
theorem dX6_law_57 : decode cX6_law 57 = .ok (.iload_n 2, 1) := by decide +kernel
theorem dX6_law_58 : decode cX6_law 58 = .ok (.putfield 105, 3) := by decide +kernel
theorem dX6_law_61 : decode cX6_law 61 = .ok (.iload_n 3, 1) := by decide +kernel
theorem dX6_law_62 : decode cX6_law 62 = .ok (.ireturn, 1) := by decide +kernel
theorem dX6_law_63 : decode cX6_law 63 = .ok (.iconst (-1), 1) := by decide +kernel
theorem dX6_law_64 : decode cX6_law 64 = .ok (.ireturn, 1) := by decide +kernel
set_option maxRecDepth 20000 in
theorem ggX6_teach_X6_isOne : GoodIn wsX6_teach wsX6_isOne := goodIn_r _ [7, 1, 8, 12, 13, 14, 15, 16, 17, 18, 19, 20, 21, 22, 23, 24, 25, 26, 27, 28, 29, 30, 31] (by decide +kernel) (by decide +kernel)
set_option maxRecDepth 20000 in
theorem gX6_teach_X6_isOne : GoodIn wsX6_teach (wsV RX6 114 RX6 yX6_isOne wsX6_isOne) := goodIn_app (goodIn_of _ (by decide +kernel)) ggX6_teach_X6_isOne
set_option maxRecDepth 20000 in
theorem ggX6_teach_X6_isWithin : GoodIn wsX6_teach wsX6_isWithin := goodIn_r _ [11] (by decide +kernel) (by decide +kernel)
set_option maxRecDepth 20000 in
theorem gX6_teach_X6_isWithin : GoodIn wsX6_teach (va_wsS RX6 58 yX6_isWithin wsX6_isWithin) := goodIn_app (goodIn_of _ (by decide +kernel)) ggX6_teach_X6_isWithin
theorem dX6_teach_0 : decode cX6_teach 0 = .ok (.aload_n 0, 1) := by decide +kernel
theorem dX6_teach_1 : decode cX6_teach 1 = .ok (.iload_n 1, 1) := by decide +kernel
theorem dX6_teach_2 : decode cX6_teach 2 = .ok (.invokevirtual 114, 3) := by decide +kernel
theorem dX6_teach_5 : decode cX6_teach 5 = .ok (.ifCond .eq 11, 3) := by decide +kernel
theorem dX6_teach_8 : decode cX6_teach 8 = .ok (.iload_n 2, 1) := by decide +kernel
theorem dX6_teach_9 : decode cX6_teach 9 = .ok (.iconst 3, 1) := by decide +kernel
theorem dX6_teach_10 : decode cX6_teach 10 = .ok (.invokestatic 58, 3) := by decide +kernel
theorem dX6_teach_13 : decode cX6_teach 13 = .ok (.ifCond .ne 5, 3) := by decide +kernel
theorem dX6_teach_16 : decode cX6_teach 16 = .ok (.iconst (-1), 1) := by decide +kernel
theorem dX6_teach_17 : decode cX6_teach 17 = .ok (.ireturn, 1) := by decide +kernel
theorem dX6_teach_18 : decode cX6_teach 18 = .ok (.aload_n 0, 1) := by decide +kernel
theorem dX6_teach_19 : decode cX6_teach 19 = .ok (.getfield 26, 3) := by decide +kernel
theorem dX6_teach_22 : decode cX6_teach 22 = .ok (.getfield 118, 3) := by decide +kernel
theorem dX6_teach_25 : decode cX6_teach 25 = .ok (.iload_n 1, 1) := by decide +kernel
theorem dX6_teach_26 : decode cX6_teach 26 = .ok (.iaload, 1) := by decide +kernel
theorem dX6_teach_27 : decode cX6_teach 27 = .ok (.istore_n 3, 1) := by decide +kernel
theorem dX6_teach_28 : decode cX6_teach 28 = .ok (.aload_n 0, 1) := by decide +kernel
theorem dX6_teach_29 : decode cX6_teach 29 = .ok (.getfield 26, 3) := by decide +kernel
theorem dX6_teach_32 : decode cX6_teach 32 = .ok (.getfield 118, 3) := by decide +kernel
theorem dX6_teach_35 : decode cX6_teach 35 = .ok (.iload_n 1, 1) := by decide +kernel
theorem dX6_teach_36 : decode cX6_teach 36 = .ok (.iload_n 2, 1) := by decide +kernel
theorem dX6_teach_37 : decode cX6_teach 37 = .ok (.iastore, 1) := by decide +kernel
theorem dX6_teach_38 : decode cX6_teach 38 = .ok (.iload_n 3, 1) := by decide +kernel
theorem dX6_teach_39 : decode cX6_teach 39 = .ok (.ireturn, 1) := by decide +kernel
set_option maxRecDepth 20000 in
theorem ggX6_go_X6_isWithin : GoodIn wsX6_go wsX6_isWithin := goodIn_r _ [7] (by decide +kernel) (by decide +kernel)
set_option maxRecDepth 20000 in
theorem gX6_go_X6_isWithin : GoodIn wsX6_go (va_wsS RX6 58 yX6_isWithin wsX6_isWithin) := goodIn_app (goodIn_of _ (by decide +kernel)) ggX6_go_X6_isWithin
set_option maxRecDepth 20000 in
theorem ggX6_go_X1_passWeeks : GoodIn wsX6_go wsX1_passWeeks := goodIn_r _ [12, 13, 14, 15, 11, 16, 17, 18, 19, 20, 21, 22, 23, 24, 25, 26, 27, 28, 29, 30, 31, 32, 33, 34, 35, 36, 37, 38, 39, 40, 41, 42, 43, 44, 45, 46, 47, 48, 49, 50, 51, 52, 53, 54, 55, 56, 57, 58, 59, 60, 61, 62, 63, 64, 65, 66, 67, 77, 78, 79, 80, 81, 82, 83, 84, 85, 86, 87, 88, 89, 90, 91, 92, 93, 94, 95] (by decide +kernel) (by decide +kernel)
set_option maxRecDepth 20000 in
theorem gX6_go_X1_passWeeks : GoodIn wsX6_go (wsV RX6 168 RX1 yX1_passWeeks wsX1_passWeeks) := goodIn_app (goodIn_of _ (by decide +kernel)) ggX6_go_X1_passWeeks
theorem dX6_go_0 : decode cX6_go 0 = .ok (.iload_n 1, 1) := by decide +kernel
theorem dX6_go_1 : decode cX6_go 1 = .ok (.bipush 20, 2) := by decide +kernel
theorem dX6_go_3 : decode cX6_go 3 = .ok (.invokestatic 58, 3) := by decide +kernel
theorem dX6_go_6 : decode cX6_go 6 = .ok (.ifCond .ne 5, 3) := by decide +kernel
theorem dX6_go_9 : decode cX6_go 9 = .ok (.iconst (-1), 1) := by decide +kernel
theorem dX6_go_10 : decode cX6_go 10 = .ok (.ireturn, 1) := by decide +kernel
theorem dX6_go_11 : decode cX6_go 11 = .ok (.aload_n 0, 1) := by decide +kernel
theorem dX6_go_12 : decode cX6_go 12 = .ok (.getfield 26, 3) := by decide +kernel
theorem dX6_go_15 : decode cX6_go 15 = .ok (.getfield 108, 3) := by decide +kernel
theorem dX6_go_18 : decode cX6_go 18 = .ok (.iload_n 1, 1) := by decide +kernel
theorem dX6_go_19 : decode cX6_go 19 = .ok (.iadd, 1) := by decide +kernel
theorem dX6_go_20 : decode cX6_go 20 = .ok (.bipush 99, 2) := by decide +kernel
theorem dX6_go_22 : decode cX6_go 22 = .ok (.if_icmp .le 6, 3) := by decide +kernel
theorem dX6_go_25 : decode cX6_go 25 = .ok (.bipush (-3), 2) := by decide +kernel
theorem dX6_go_27 : decode cX6_go 27 = .ok (.ireturn, 1) := by decide +kernel
theorem dX6_go_28 : decode cX6_go 28 = .ok (.aload_n 0, 1) := by decide +kernel
theorem dX6_go_29 : decode cX6_go 29 = .ok (.getfield 26, 3) := by decide +kernel
theorem dX6_go_32 : decode cX6_go 32 = .ok (.aload_n 0, 1) := by decide +kernel
theorem dX6_go_33 : decode cX6_go 33 = .ok (.getfield 19, 3) := by decide +kernel
theorem dX6_go_36 : decode cX6_go 36 = .ok (.iload_n 1, 1) := by decide +kernel
theorem dX6_go_37 : decode cX6_go 37 = .ok (.invokevirtual 168, 3) := by decide +kernel
theorem dX6_go_40 : decode cX6_go 40 = .ok (.ireturn, 1) := by decide +kernel
set_option maxRecDepth 20000 in
theorem ggX6_ahead_X6_isOne : GoodIn wsX6_ahead wsX6_isOne := goodIn_r _ [12, 2, 13, 85, 86, 87, 88, 89, 90, 91, 92, 93, 94, 95, 96, 97, 98, 99, 100, 101, 102, 103, 104] (by decide +kernel) (by decide +kernel)
set_option maxRecDepth 20000 in
theorem gX6_ahead_X6_isOne : GoodIn wsX6_ahead (wsV RX6 114 RX6 yX6_isOne wsX6_isOne) := goodIn_app (goodIn_of _ (by decide +kernel)) ggX6_ahead_X6_isOne
set_option maxRecDepth 20000 in
theorem ggX6_ahead_X6_isWithin : GoodIn wsX6_ahead wsX6_isWithin := goodIn_r _ [16] (by decide +kernel) (by decide +kernel)
set_option maxRecDepth 20000 in
theorem gX6_ahead_X6_isWithin : GoodIn wsX6_ahead (va_wsS RX6 58 yX6_isWithin wsX6_isWithin) := goodIn_app (goodIn_of _ (by decide +kernel)) ggX6_ahead_X6_isWithin
set_option maxRecDepth 20000 in
theorem ggX6_ahead_X1_copyFrom : GoodIn wsX6_ahead wsX1_copyFrom := goodIn_r _ [21, 22, 23, 24, 25, 26, 27, 28, 29, 30, 31, 32, 33, 34, 35, 36, 94, 95, 96, 97, 98, 99, 100, 101, 102, 103, 104] (by decide +kernel) (by decide +kernel)
set_option maxRecDepth 20000 in
theorem gX6_ahead_X1_copyFrom : GoodIn wsX6_ahead (wsV RX6 83 RX1 yX1_copyFrom wsX1_copyFrom) := goodIn_app (goodIn_of _ (by decide +kernel)) ggX6_ahead_X1_copyFrom
set_option maxRecDepth 20000 in
theorem ggX6_ahead_X1_passWeeks : GoodIn wsX6_ahead wsX1_passWeeks := goodIn_r _ [40, 41, 42, 43, 20, 44, 36, 45, 46, 35, 47, 48, 49, 50, 51, 52, 53, 54, 55, 56, 57, 58, 59, 60, 31, 23, 61, 62, 63, 64, 32, 65, 66, 67, 68, 29, 69, 70, 71, 72, 73, 74, 75, 76, 28, 77, 78, 79, 80, 34, 30, 81, 82, 83, 84, 22, 33, 94, 95, 96, 97, 98, 99, 100, 101, 102, 103, 104, 105, 106, 107, 108, 109, 110, 111, 112] (by decide +kernel) (by decide +kernel)
set_option maxRecDepth 20000 in
theorem gX6_ahead_X1_passWeeks : GoodIn wsX6_ahead (wsV RX6 168 RX1 yX1_passWeeks wsX1_passWeeks) := goodIn_app (goodIn_of _ (by decide +kernel)) ggX6_ahead_X1_passWeeks
theorem dX6_ahead_0 : decode cX6_ahead 0 = .ok (.aload_n 0, 1) := by decide +kernel
theorem dX6_ahead_1 : decode cX6_ahead 1 = .ok (.iload_n 1, 1) := by decide +kernel
theorem dX6_ahead_2 : decode cX6_ahead 2 = .ok (.invokevirtual 114, 3) := by decide +kernel
theorem dX6_ahead_5 : decode cX6_ahead 5 = .ok (.ifCond .eq 20, 3) := by decide +kernel
theorem dX6_ahead_8 : decode cX6_ahead 8 = .ok (.iload_n 2, 1) := by decide +kernel
theorem dX6_ahead_9 : decode cX6_ahead 9 = .ok (.bipush 20, 2) := by decide +kernel
theorem dX6_ahead_11 : decode cX6_ahead 11 = .ok (.invokestatic 58, 3) := by decide +kernel
theorem dX6_ahead_14 : decode cX6_ahead 14 = .ok (.ifCond .eq 11, 3) := by decide +kernel
theorem dX6_ahead_17 : decode cX6_ahead 17 = .ok (.iload_n 3, 1) := by decide +kernel
theorem dX6_ahead_18 : decode cX6_ahead 18 = .ok (.iconst 3, 1) := by decide +kernel
theorem dX6_ahead_19 : decode cX6_ahead 19 = .ok (.invokestatic 58, 3) := by decide +kernel
theorem dX6_ahead_22 : decode cX6_ahead 22 = .ok (.ifCond .ne 5, 3) := by decide +kernel
theorem dX6_ahead_25 : decode cX6_ahead 25 = .ok (.iconst (-1), 1) := by decide +kernel
theorem dX6_ahead_26 : decode cX6_ahead 26 = .ok (.ireturn, 1) := by decide +kernel
theorem dX6_ahead_27 : decode cX6_ahead 27 = .ok (.aload_n 0, 1) := by decide +kernel
theorem dX6_ahead_28 : decode cX6_ahead 28 = .ok (.getfield 37, 3) := by decide +kernel
theorem dX6_ahead_31 : decode cX6_ahead 31 = .ok (.aload_n 0, 1) := by decide +kernel
theorem dX6_ahead_32 : decode cX6_ahead 32 = .ok (.getfield 26, 3) := by decide +kernel
theorem dX6_ahead_35 : decode cX6_ahead 35 = .ok (.invokevirtual 83, 3) := by decide +kernel
theorem dX6_ahead_38 : decode cX6_ahead 38 = .ok (.aload_n 0, 1) := by decide +kernel
theorem dX6_ahead_39 : decode cX6_ahead 39 = .ok (.getfield 37, 3) := by decide +kernel
theorem dX6_ahead_42 : decode cX6_ahead 42 = .ok (.aload_n 0, 1) := by decide +kernel
theorem dX6_ahead_43 : decode cX6_ahead 43 = .ok (.getfield 19, 3) := by decide +kernel
theorem dX6_ahead_46 : decode cX6_ahead 46 = .ok (.iload_n 2, 1) := by decide +kernel
theorem dX6_ahead_47 : decode cX6_ahead 47 = .ok (.invokevirtual 168, 3) := by decide +kernel
theorem dX6_ahead_50 : decode cX6_ahead 50 = .ok (.pop, 1) := by decide +kernel
theorem dX6_ahead_51 : decode cX6_ahead 51 = .ok (.iload_n 3, 1) := by decide +kernel
theorem dX6_ahead_52 : decode cX6_ahead 52 = .ok (.tableswitch 68 0 2 #[28, 38, 48], 28) := by decide +kernel
theorem dX6_ahead_80 : decode cX6_ahead 80 = .ok (.aload_n 0, 1) := by decide +kernel
theorem dX6_ahead_81 : decode cX6_ahead 81 = .ok (.getfield 37, 3) := by decide +kernel
theorem dX6_ahead_84 : decode cX6_ahead 84 = .ok (.getfield 121, 3) := by decide +kernel
theorem dX6_ahead_87 : decode cX6_ahead 87 = .ok (.iload_n 1, 1) := by decide +kernel
theorem dX6_ahead_88 : decode cX6_ahead 88 = .ok (.iaload, 1) := by decide +kernel
theorem dX6_ahead_89 : decode cX6_ahead 89 = .ok (.ireturn, 1) := by decide +kernel
theorem dX6_ahead_90 : decode cX6_ahead 90 = .ok (.aload_n 0, 1) := by decide +kernel
theorem dX6_ahead_91 : decode cX6_ahead 91 = .ok (.getfield 37, 3) := by decide +kernel
theorem dX6_ahead_94 : decode cX6_ahead 94 = .ok (.getfield 124, 3) := by decide +kernel
theorem dX6_ahead_97 : decode cX6_ahead 97 = .ok (.iload_n 1, 1) := by decide +kernel
theorem dX6_ahead_98 : decode cX6_ahead 98 = .ok (.iaload, 1) := by decide +kernel
theorem dX6_ahead_99 : decode cX6_ahead 99 = .ok (.ireturn, 1) := by decide +kernel
theorem dX6_ahead_100 : decode cX6_ahead 100 = .ok (.aload_n 0, 1) := by decide +kernel
theorem dX6_ahead_101 : decode cX6_ahead 101 = .ok (.getfield 37, 3) := by decide +kernel
theorem dX6_ahead_104 : decode cX6_ahead 104 = .ok (.getfield 127, 3) := by decide +kernel
theorem dX6_ahead_107 : decode cX6_ahead 107 = .ok (.iload_n 1, 1) := by decide +kernel
theorem dX6_ahead_108 : decode cX6_ahead 108 = .ok (.iaload, 1) := by decide +kernel
theorem dX6_ahead_109 : decode cX6_ahead 109 = .ok (.aload_n 0, 1) := by decide +kernel
theorem dX6_ahead_110 : decode cX6_ahead 110 = .ok (.getfield 26, 3) := by decide +kernel
theorem dX6_ahead_113 : decode cX6_ahead 113 = .ok (.getfield 127, 3) := by decide +kernel
theorem dX6_ahead_116 : decode cX6_ahead 116 = .ok (.iload_n 1, 1) := by decide +kernel
theorem dX6_ahead_117 : decode cX6_ahead 117 = .ok (.iaload, 1) := by decide +kernel
theorem dX6_ahead_118 : decode cX6_ahead 118 = .ok (.isub, 1) := by decide +kernel
theorem dX6_ahead_119 : decode cX6_ahead 119 = .ok (.ireturn, 1) := by decide +kernel
theorem dX6_ahead_120 : decode cX6_ahead 120 = .ok (.aload_n 0, 1) := by decide +kernel
theorem dX6_ahead_121 : decode cX6_ahead 121 = .ok (.getfield 37, 3) := by decide +kernel
theorem dX6_ahead_124 : decode cX6_ahead 124 = .ok (.getfield 105, 3) := by decide +kernel
theorem dX6_ahead_127 : decode cX6_ahead 127 = .ok (.ireturn, 1) := by decide +kernel
set_option maxRecDepth 20000 in
theorem ggX6_first_X6_isOne : GoodIn wsX6_first wsX6_isOne := goodIn_r _ [10, 2, 11, 76, 77, 78, 79, 80, 81, 82, 83, 84, 85, 86, 87, 88, 89, 90, 91, 92, 93, 94, 95] (by decide +kernel) (by decide +kernel)
set_option maxRecDepth 20000 in
theorem gX6_first_X6_isOne : GoodIn wsX6_first (wsV RX6 114 RX6 yX6_isOne wsX6_isOne) := goodIn_app (goodIn_of _ (by decide +kernel)) ggX6_first_X6_isOne
set_option maxRecDepth 20000 in
theorem ggX6_first_X1_copyFrom : GoodIn wsX6_first wsX1_copyFrom := goodIn_r _ [16, 17, 18, 19, 20, 21, 22, 23, 24, 25, 26, 27, 28, 29, 30, 31, 85, 86, 87, 88, 89, 90, 91, 92, 93, 94, 95] (by decide +kernel) (by decide +kernel)
set_option maxRecDepth 20000 in
theorem gX6_first_X1_copyFrom : GoodIn wsX6_first (wsV RX6 83 RX1 yX1_copyFrom wsX1_copyFrom) := goodIn_app (goodIn_of _ (by decide +kernel)) ggX6_first_X1_copyFrom
set_option maxRecDepth 20000 in
theorem ggX6_first_X1_passWeek : GoodIn wsX6_first wsX1_passWeek := goodIn_r _ [35, 31, 36, 37, 30, 38, 39, 40, 41, 42, 43, 44, 15, 45, 46, 47, 48, 49, 50, 51, 26, 18, 52, 53, 54, 55, 27, 56, 57, 58, 59, 24, 60, 61, 62, 63, 64, 65, 66, 67, 23, 68, 69, 70, 71, 29, 25, 72, 73, 74, 75, 17, 28, 85, 86, 87, 88, 89, 90, 91, 92, 93, 94, 95, 96, 97, 98, 99, 100, 101, 102, 103] (by decide +kernel) (by decide +kernel)
set_option maxRecDepth 20000 in
theorem gX6_first_X1_passWeek : GoodIn wsX6_first (wsV RX6 171 RX1 yX1_passWeek wsX1_passWeek) := goodIn_app (goodIn_of _ (by decide +kernel)) ggX6_first_X1_passWeek
theorem dX6_first_0 : decode cX6_first 0 = .ok (.aload_n 0, 1) := by decide +kernel
theorem dX6_first_1 : decode cX6_first 1 = .ok (.iload_n 1, 1) := by decide +kernel
theorem dX6_first_2 : decode cX6_first 2 = .ok (.invokevirtual 114, 3) := by decide +kernel
theorem dX6_first_5 : decode cX6_first 5 = .ok (.ifCond .ne 5, 3) := by decide +kernel
theorem dX6_first_8 : decode cX6_first 8 = .ok (.iconst (-1), 1) := by decide +kernel
theorem dX6_first_9 : decode cX6_first 9 = .ok (.ireturn, 1) := by decide +kernel
theorem dX6_first_10 : decode cX6_first 10 = .ok (.aload_n 0, 1) := by decide +kernel
theorem dX6_first_11 : decode cX6_first 11 = .ok (.getfield 37, 3) := by decide +kernel
theorem dX6_first_14 : decode cX6_first 14 = .ok (.aload_n 0, 1) := by decide +kernel
theorem dX6_first_15 : decode cX6_first 15 = .ok (.getfield 26, 3) := by decide +kernel
theorem dX6_first_18 : decode cX6_first 18 = .ok (.invokevirtual 83, 3) := by decide +kernel
theorem dX6_first_21 : decode cX6_first 21 = .ok (.iconst 0, 1) := by decide +kernel
theorem dX6_first_22 : decode cX6_first 22 = .ok (.istore_n 2, 1) := by decide +kernel
theorem dX6_first_23 : decode cX6_first 23 = .ok (.iload_n 2, 1) := by decide +kernel
theorem dX6_first_24 : decode cX6_first 24 = .ok (.bipush 20, 2) := by decide +kernel
theorem dX6_first_26 : decode cX6_first 26 = .ok (.if_icmp .ge 46, 3) := by decide +kernel
theorem dX6_first_29 : decode cX6_first 29 = .ok (.aload_n 0, 1) := by decide +kernel
theorem dX6_first_30 : decode cX6_first 30 = .ok (.getfield 37, 3) := by decide +kernel
theorem dX6_first_33 : decode cX6_first 33 = .ok (.aload_n 0, 1) := by decide +kernel
theorem dX6_first_34 : decode cX6_first 34 = .ok (.getfield 19, 3) := by decide +kernel
theorem dX6_first_37 : decode cX6_first 37 = .ok (.invokevirtual 171, 3) := by decide +kernel
theorem dX6_first_40 : decode cX6_first 40 = .ok (.pop, 1) := by decide +kernel
theorem dX6_first_41 : decode cX6_first 41 = .ok (.aload_n 0, 1) := by decide +kernel
theorem dX6_first_42 : decode cX6_first 42 = .ok (.getfield 37, 3) := by decide +kernel
theorem dX6_first_45 : decode cX6_first 45 = .ok (.getfield 175, 3) := by decide +kernel
theorem dX6_first_48 : decode cX6_first 48 = .ok (.iload_n 1, 1) := by decide +kernel
theorem dX6_first_49 : decode cX6_first 49 = .ok (.ishr, 1) := by decide +kernel
theorem dX6_first_50 : decode cX6_first 50 = .ok (.iconst 1, 1) := by decide +kernel
theorem dX6_first_51 : decode cX6_first 51 = .ok (.iand, 1) := by decide +kernel
theorem dX6_first_52 : decode cX6_first 52 = .ok (.iconst 1, 1) := by decide +kernel
theorem dX6_first_53 : decode cX6_first 53 = .ok (.if_icmp .ne 13, 3) := by decide +kernel
theorem dX6_first_56 : decode cX6_first 56 = .ok (.aload_n 0, 1) := by decide +kernel
theorem dX6_first_57 : decode cX6_first 57 = .ok (.getfield 26, 3) := by decide +kernel
theorem dX6_first_60 : decode cX6_first 60 = .ok (.getfield 108, 3) := by decide +kernel
theorem dX6_first_63 : decode cX6_first 63 = .ok (.iload_n 2, 1) := by decide +kernel
theorem dX6_first_64 : decode cX6_first 64 = .ok (.iadd, 1) := by decide +kernel
theorem dX6_first_65 : decode cX6_first 65 = .ok (.ireturn, 1) := by decide +kernel
theorem dX6_first_66 : decode cX6_first 66 = .ok (.iinc 2 1, 3) := by decide +kernel
theorem dX6_first_69 : decode cX6_first 69 = .ok (.goto (-46), 3) := by decide +kernel
theorem dX6_first_72 : decode cX6_first 72 = .ok (.bipush (-4), 2) := by decide +kernel
theorem dX6_first_74 : decode cX6_first 74 = .ok (.ireturn, 1) := by decide +kernel
set_option maxRecDepth 20000 in
theorem ggX6_modest_X1_copyFrom : GoodIn wsX6_modest wsX1_copyFrom := goodIn_r _ [8, 9, 10, 11, 12, 13, 14, 15, 16, 17, 18, 19, 20, 21, 22, 23, 77, 78, 79, 80, 81, 82, 83, 84, 85, 86, 87] (by decide +kernel) (by decide +kernel)
set_option maxRecDepth 20000 in
theorem gX6_modest_X1_copyFrom : GoodIn wsX6_modest (wsV RX6 83 RX1 yX1_copyFrom wsX1_copyFrom) := goodIn_app (goodIn_of _ (by decide +kernel)) ggX6_modest_X1_copyFrom
set_option maxRecDepth 20000 in
theorem ggX6_modest_X1_passWeek : GoodIn wsX6_modest wsX1_passWeek := goodIn_r _ [27, 23, 28, 29, 22, 30, 31, 32, 33, 34, 35, 36, 7, 37, 38, 39, 40, 41, 42, 43, 18, 10, 44, 45, 46, 47, 19, 48, 49, 50, 51, 16, 52, 53, 54, 55, 56, 57, 58, 59, 15, 60, 61, 62, 63, 21, 17, 64, 65, 66, 67, 9, 20, 77, 78, 79, 80, 81, 82, 83, 84, 85, 86, 87, 88, 89, 90, 91, 92, 93, 94, 95] (by decide +kernel) (by decide +kernel)
set_option maxRecDepth 20000 in
theorem gX6_modest_X1_passWeek : GoodIn wsX6_modest (wsV RX6 171 RX1 yX1_passWeek wsX1_passWeek) := goodIn_app (goodIn_of _ (by decide +kernel)) ggX6_modest_X1_passWeek
theorem dX6_modest_0 : decode cX6_modest 0 = .ok (.aload_n 0, 1) := by decide +kernel
theorem dX6_modest_1 : decode cX6_modest 1 = .ok (.getfield 37, 3) := by decide +kernel
theorem dX6_modest_4 : decode cX6_modest 4 = .ok (.aload_n 0, 1) := by decide +kernel
theorem dX6_modest_5 : decode cX6_modest 5 = .ok (.getfield 26, 3) := by decide +kernel
theorem dX6_modest_8 : decode cX6_modest 8 = .ok (.invokevirtual 83, 3) := by decide +kernel
theorem dX6_modest_11 : decode cX6_modest 11 = .ok (.iconst 0, 1) := by decide +kernel
theorem dX6_modest_12 : decode cX6_modest 12 = .ok (.istore_n 1, 1) := by decide +kernel
theorem dX6_modest_13 : decode cX6_modest 13 = .ok (.iconst 0, 1) := by decide +kernel
theorem dX6_modest_14 : decode cX6_modest 14 = .ok (.istore_n 2, 1) := by decide +kernel
theorem dX6_modest_15 : decode cX6_modest 15 = .ok (.iload_n 2, 1) := by decide +kernel
theorem dX6_modest_16 : decode cX6_modest 16 = .ok (.bipush 10, 2) := by decide +kernel
theorem dX6_modest_18 : decode cX6_modest 18 = .ok (.if_icmp .ge 26, 3) := by decide +kernel
theorem dX6_modest_21 : decode cX6_modest 21 = .ok (.aload_n 0, 1) := by decide +kernel
theorem dX6_modest_22 : decode cX6_modest 22 = .ok (.getfield 37, 3) := by decide +kernel
theorem dX6_modest_25 : decode cX6_modest 25 = .ok (.aload_n 0, 1) := by decide +kernel
theorem dX6_modest_26 : decode cX6_modest 26 = .ok (.getfield 19, 3) := by decide +kernel
theorem dX6_modest_29 : decode cX6_modest 29 = .ok (.invokevirtual 171, 3) := by decide +kernel
theorem dX6_modest_32 : decode cX6_modest 32 = .ok (.ifCond .ne 6, 3) := by decide +kernel
theorem dX6_modest_35 : decode cX6_modest 35 = .ok (.iinc 1 1, 3) := by decide +kernel
theorem dX6_modest_38 : decode cX6_modest 38 = .ok (.iinc 2 1, 3) := by decide +kernel
theorem dX6_modest_41 : decode cX6_modest 41 = .ok (.goto (-26), 3) := by decide +kernel
theorem dX6_modest_44 : decode cX6_modest 44 = .ok (.iload_n 1, 1) := by decide +kernel
theorem dX6_modest_45 : decode cX6_modest 45 = .ok (.ireturn, 1) := by decide +kernel
set_option maxRecDepth 20000 in
theorem ggX6_plan_X6_allIncidents : GoodIn wsX6_plan wsX6_allIncidents := goodIn_r _ [5, 6, 7, 92, 93, 94, 95, 96, 97, 98, 99, 100, 101, 102, 103, 104, 105, 106, 107, 108] (by decide +kernel) (by decide +kernel)
set_option maxRecDepth 20000 in
theorem gX6_plan_X6_allIncidents : GoodIn wsX6_plan (wsV RX6 178 RX6 yX6_allIncidents wsX6_allIncidents) := goodIn_app (goodIn_of _ (by decide +kernel)) ggX6_plan_X6_allIncidents
set_option maxRecDepth 20000 in
theorem ggX6_plan_X6_isWithin : GoodIn wsX6_plan wsX6_isWithin := goodIn_r _ [10] (by decide +kernel) (by decide +kernel)
set_option maxRecDepth 20000 in
theorem gX6_plan_X6_isWithin : GoodIn wsX6_plan (va_wsS RX6 58 yX6_isWithin wsX6_isWithin) := goodIn_app (goodIn_of _ (by decide +kernel)) ggX6_plan_X6_isWithin
set_option maxRecDepth 20000 in
theorem ggX6_plan_X6_keepsThePast : GoodIn wsX6_plan wsX6_keepsThePast := goodIn_r _ [14, 15, 16, 6, 7, 17, 18, 92, 93, 94, 95, 96, 97, 98, 99, 100, 109, 110, 111, 112, 113, 114, 115, 116, 117, 118, 119, 101, 102, 103, 104, 105, 106, 107, 108] (by decide +kernel) (by decide +kernel)
set_option maxRecDepth 20000 in
theorem gX6_plan_X6_keepsThePast : GoodIn wsX6_plan (wsV RX6 181 RX6 yX6_keepsThePast wsX6_keepsThePast) := goodIn_app (goodIn_of _ (by decide +kernel)) ggX6_plan_X6_keepsThePast
set_option maxRecDepth 20000 in
theorem ggX6_plan_X6_timesByPlan : GoodIn wsX6_plan wsX6_timesByPlan := goodIn_r _ [22, 23, 15, 16, 6, 24, 25, 26, 27, 28, 29, 30, 31, 32, 33, 34, 35, 36, 37, 38, 39, 40, 41, 42, 43, 44, 45, 46, 47, 48, 49, 50, 51, 52, 53, 54, 55, 56, 57, 58, 59, 60, 61, 62, 63, 64, 65, 66, 67, 68, 69, 70, 71, 72, 73, 74, 75, 76, 77, 78, 79, 80, 81, 82, 83, 84, 85, 86, 87, 88, 89, 90, 91, 92, 93, 94, 95, 96, 97, 98, 99, 100, 109, 110, 111, 112, 113, 114, 115, 116, 117, 118, 119, 101, 102, 103, 104, 105, 106, 107, 108] (by decide +kernel) (by decide +kernel)
set_option maxRecDepth 20000 in
theorem gX6_plan_X6_timesByPlan : GoodIn wsX6_plan (wsV RX6 184 RX6 yX6_timesByPlan wsX6_timesByPlan) := goodIn_app (goodIn_of _ (by decide +kernel)) ggX6_plan_X6_timesByPlan
theorem dX6_plan_0 : decode cX6_plan 0 = .ok (.iload_n 1, 1) := by decide +kernel
theorem dX6_plan_1 : decode cX6_plan 1 = .ok (.aload_n 0, 1) := by decide +kernel
theorem dX6_plan_2 : decode cX6_plan 2 = .ok (.invokevirtual 178, 3) := by decide +kernel
theorem dX6_plan_5 : decode cX6_plan 5 = .ok (.invokestatic 58, 3) := by decide +kernel
theorem dX6_plan_8 : decode cX6_plan 8 = .ok (.ifCond .ne 5, 3) := by decide +kernel
theorem dX6_plan_11 : decode cX6_plan 11 = .ok (.iconst (-1), 1) := by decide +kernel
theorem dX6_plan_12 : decode cX6_plan 12 = .ok (.ireturn, 1) := by decide +kernel
theorem dX6_plan_13 : decode cX6_plan 13 = .ok (.aload_n 0, 1) := by decide +kernel
theorem dX6_plan_14 : decode cX6_plan 14 = .ok (.iload_n 1, 1) := by decide +kernel
theorem dX6_plan_15 : decode cX6_plan 15 = .ok (.invokevirtual 181, 3) := by decide +kernel
theorem dX6_plan_18 : decode cX6_plan 18 = .ok (.ifCond .eq 11, 3) := by decide +kernel
theorem dX6_plan_21 : decode cX6_plan 21 = .ok (.aload_n 0, 1) := by decide +kernel
theorem dX6_plan_22 : decode cX6_plan 22 = .ok (.iload_n 1, 1) := by decide +kernel
theorem dX6_plan_23 : decode cX6_plan 23 = .ok (.invokevirtual 184, 3) := by decide +kernel
theorem dX6_plan_26 : decode cX6_plan 26 = .ok (.goto 5, 3) := by decide +kernel
theorem dX6_plan_29 : decode cX6_plan 29 = .ok (.bipush (-2), 2) := by decide +kernel
theorem dX6_plan_31 : decode cX6_plan 31 = .ok (.ireturn, 1) := by decide +kernel
set_option maxRecDepth 20000 in
theorem ggX6_best_X6_isWithin : GoodIn wsX6_best wsX6_isWithin := goodIn_r _ [6] (by decide +kernel) (by decide +kernel)
set_option maxRecDepth 20000 in
theorem gX6_best_X6_isWithin : GoodIn wsX6_best (va_wsS RX6 58 yX6_isWithin wsX6_isWithin) := goodIn_app (goodIn_of _ (by decide +kernel)) ggX6_best_X6_isWithin
set_option maxRecDepth 20000 in
theorem ggX6_best_X6_timesByPlan : GoodIn wsX6_best wsX6_timesByPlan := goodIn_r _ [10, 11, 1, 2, 12, 13, 14, 15, 16, 17, 18, 19, 20, 21, 22, 23, 24, 25, 26, 27, 28, 29, 30, 31, 32, 33, 34, 35, 36, 37, 38, 39, 40, 41, 42, 43, 44, 45, 46, 47, 48, 49, 50, 51, 52, 53, 54, 55, 56, 57, 58, 59, 60, 61, 62, 63, 64, 65, 66, 67, 68, 69, 70, 71, 72, 73, 74, 75, 76, 77, 78, 79, 80, 102, 103, 104, 105, 106, 107, 108, 109, 110, 111, 112, 113, 114, 115, 116, 117, 118, 119, 120, 121, 122, 123, 124, 125, 126, 127, 128, 129] (by decide +kernel) (by decide +kernel)
set_option maxRecDepth 20000 in
theorem gX6_best_X6_timesByPlan : GoodIn wsX6_best (wsV RX6 184 RX6 yX6_timesByPlan wsX6_timesByPlan) := goodIn_app (goodIn_of _ (by decide +kernel)) ggX6_best_X6_timesByPlan
set_option maxRecDepth 20000 in
theorem ggX6_best_X6_allIncidents : GoodIn wsX6_best wsX6_allIncidents := goodIn_r _ [84, 12, 85, 102, 103, 104, 105, 106, 107, 108, 109, 110, 122, 123, 124, 125, 126, 127, 128, 129] (by decide +kernel) (by decide +kernel)
set_option maxRecDepth 20000 in
theorem gX6_best_X6_allIncidents : GoodIn wsX6_best (wsV RX6 178 RX6 yX6_allIncidents wsX6_allIncidents) := goodIn_app (goodIn_of _ (by decide +kernel)) ggX6_best_X6_allIncidents
set_option maxRecDepth 20000 in
theorem ggX6_best_X6_keepsThePast : GoodIn wsX6_best wsX6_keepsThePast := goodIn_r _ [89, 1, 2, 12, 85, 90, 91, 102, 103, 104, 105, 106, 107, 108, 109, 110, 111, 112, 113, 114, 115, 116, 117, 118, 119, 120, 121, 122, 123, 124, 125, 126, 127, 128, 129] (by decide +kernel) (by decide +kernel)
set_option maxRecDepth 20000 in
theorem gX6_best_X6_keepsThePast : GoodIn wsX6_best (wsV RX6 181 RX6 yX6_keepsThePast wsX6_keepsThePast) := goodIn_app (goodIn_of _ (by decide +kernel)) ggX6_best_X6_keepsThePast
set_option maxRecDepth 20000 in
theorem ggX6_best_X6_isSmaller : GoodIn wsX6_best wsX6_isSmaller := goodIn_r _ [94, 95, 96, 97, 98, 99, 100, 101] (by decide +kernel) (by decide +kernel)
set_option maxRecDepth 20000 in
theorem gX6_best_X6_isSmaller : GoodIn wsX6_best (va_wsS RX6 187 yX6_isSmaller wsX6_isSmaller) := goodIn_app (goodIn_of _ (by decide +kernel)) ggX6_best_X6_isSmaller
theorem dX6_best_0 : decode cX6_best 0 = .ok (.iload_n 1, 1) := by decide +kernel
theorem dX6_best_1 : decode cX6_best 1 = .ok (.iconst 1, 1) := by decide +kernel
theorem dX6_best_2 : decode cX6_best 2 = .ok (.invokestatic 58, 3) := by decide +kernel
theorem dX6_best_5 : decode cX6_best 5 = .ok (.ifCond .ne 5, 3) := by decide +kernel
theorem dX6_best_8 : decode cX6_best 8 = .ok (.iconst (-1), 1) := by decide +kernel
theorem dX6_best_9 : decode cX6_best 9 = .ok (.ireturn, 1) := by decide +kernel
theorem dX6_best_10 : decode cX6_best 10 = .ok (.aload_n 0, 1) := by decide +kernel
theorem dX6_best_11 : decode cX6_best 11 = .ok (.getfield 26, 3) := by decide +kernel
theorem dX6_best_14 : decode cX6_best 14 = .ok (.getfield 111, 3) := by decide +kernel
theorem dX6_best_17 : decode cX6_best 17 = .ok (.istore_n 2, 1) := by decide +kernel
theorem dX6_best_18 : decode cX6_best 18 = .ok (.aload_n 0, 1) := by decide +kernel
theorem dX6_best_19 : decode cX6_best 19 = .ok (.iload_n 2, 1) := by decide +kernel
theorem dX6_best_20 : decode cX6_best 20 = .ok (.invokevirtual 184, 3) := by decide +kernel
theorem dX6_best_23 : decode cX6_best 23 = .ok (.istore_n 3, 1) := by decide +kernel
theorem dX6_best_24 : decode cX6_best 24 = .ok (.iconst 0, 1) := by decide +kernel
theorem dX6_best_25 : decode cX6_best 25 = .ok (.istore 4, 2) := by decide +kernel
theorem dX6_best_27 : decode cX6_best 27 = .ok (.iload 4, 2) := by decide +kernel
theorem dX6_best_29 : decode cX6_best 29 = .ok (.aload_n 0, 1) := by decide +kernel
theorem dX6_best_30 : decode cX6_best 30 = .ok (.invokevirtual 178, 3) := by decide +kernel
theorem dX6_best_33 : decode cX6_best 33 = .ok (.if_icmp .gt 53, 3) := by decide +kernel
theorem dX6_best_36 : decode cX6_best 36 = .ok (.aload_n 0, 1) := by decide +kernel
theorem dX6_best_37 : decode cX6_best 37 = .ok (.iload 4, 2) := by decide +kernel
theorem dX6_best_39 : decode cX6_best 39 = .ok (.invokevirtual 181, 3) := by decide +kernel
theorem dX6_best_42 : decode cX6_best 42 = .ok (.ifCond .eq 38, 3) := by decide +kernel
theorem dX6_best_45 : decode cX6_best 45 = .ok (.aload_n 0, 1) := by decide +kernel
theorem dX6_best_46 : decode cX6_best 46 = .ok (.iload 4, 2) := by decide +kernel
theorem dX6_best_48 : decode cX6_best 48 = .ok (.invokevirtual 184, 3) := by decide +kernel
theorem dX6_best_51 : decode cX6_best 51 = .ok (.istore 5, 2) := by decide +kernel
theorem dX6_best_53 : decode cX6_best 53 = .ok (.iload 5, 2) := by decide +kernel
theorem dX6_best_55 : decode cX6_best 55 = .ok (.iload_n 3, 1) := by decide +kernel
theorem dX6_best_56 : decode cX6_best 56 = .ok (.if_icmp .lt 18, 3) := by decide +kernel
theorem dX6_best_59 : decode cX6_best 59 = .ok (.iload 5, 2) := by decide +kernel
theorem dX6_best_61 : decode cX6_best 61 = .ok (.iload_n 3, 1) := by decide +kernel
theorem dX6_best_62 : decode cX6_best 62 = .ok (.if_icmp .ne 18, 3) := by decide +kernel
theorem dX6_best_65 : decode cX6_best 65 = .ok (.iload 4, 2) := by decide +kernel
theorem dX6_best_67 : decode cX6_best 67 = .ok (.iload_n 2, 1) := by decide +kernel
theorem dX6_best_68 : decode cX6_best 68 = .ok (.invokestatic 187, 3) := by decide +kernel
theorem dX6_best_71 : decode cX6_best 71 = .ok (.ifCond .eq 9, 3) := by decide +kernel
theorem dX6_best_74 : decode cX6_best 74 = .ok (.iload 4, 2) := by decide +kernel
theorem dX6_best_76 : decode cX6_best 76 = .ok (.istore_n 2, 1) := by decide +kernel
theorem dX6_best_77 : decode cX6_best 77 = .ok (.iload 5, 2) := by decide +kernel
theorem dX6_best_79 : decode cX6_best 79 = .ok (.istore_n 3, 1) := by decide +kernel
theorem dX6_best_80 : decode cX6_best 80 = .ok (.iinc 4 1, 3) := by decide +kernel
theorem dX6_best_83 : decode cX6_best 83 = .ok (.goto (-56), 3) := by decide +kernel
theorem dX6_best_86 : decode cX6_best 86 = .ok (.iload_n 1, 1) := by decide +kernel
theorem dX6_best_87 : decode cX6_best 87 = .ok (.ifCond .ne 7, 3) := by decide +kernel
theorem dX6_best_90 : decode cX6_best 90 = .ok (.iload_n 2, 1) := by decide +kernel
theorem dX6_best_91 : decode cX6_best 91 = .ok (.goto 4, 3) := by decide +kernel
theorem dX6_best_94 : decode cX6_best 94 = .ok (.iload_n 3, 1) := by decide +kernel
theorem dX6_best_95 : decode cX6_best 95 = .ok (.ireturn, 1) := by decide +kernel
set_option maxRecDepth 20000 in
theorem ggX6_save_X6_isOne : GoodIn wsX6_save wsX6_isOne := goodIn_r _ [8, 3, 9, 105, 106, 107, 108, 109, 110, 111, 112, 113, 114, 115, 116, 117, 118, 119, 120, 121, 122, 123, 124] (by decide +kernel) (by decide +kernel)
set_option maxRecDepth 20000 in
theorem gX6_save_X6_isOne : GoodIn wsX6_save (wsV RX6 114 RX6 yX6_isOne wsX6_isOne) := goodIn_app (goodIn_of _ (by decide +kernel)) ggX6_save_X6_isOne
set_option maxRecDepth 20000 in
theorem ggX6_save_X6_allIncidents : GoodIn wsX6_save wsX6_allIncidents := goodIn_r _ [13, 14, 15, 105, 106, 107, 108, 109, 110, 111, 112, 113, 125, 126, 127, 128, 129, 130, 131, 132] (by decide +kernel) (by decide +kernel)
set_option maxRecDepth 20000 in
theorem gX6_save_X6_allIncidents : GoodIn wsX6_save (wsV RX6 178 RX6 yX6_allIncidents wsX6_allIncidents) := goodIn_app (goodIn_of _ (by decide +kernel)) ggX6_save_X6_allIncidents
set_option maxRecDepth 20000 in
theorem ggX6_save_X6_keepsThePast : GoodIn wsX6_save wsX6_keepsThePast := goodIn_r _ [19, 3, 20, 14, 15, 21, 22, 105, 106, 107, 108, 109, 110, 111, 112, 113, 114, 115, 116, 117, 118, 119, 120, 121, 122, 123, 124, 125, 126, 127, 128, 129, 130, 131, 132] (by decide +kernel) (by decide +kernel)
set_option maxRecDepth 20000 in
theorem gX6_save_X6_keepsThePast : GoodIn wsX6_save (wsV RX6 181 RX6 yX6_keepsThePast wsX6_keepsThePast) := goodIn_app (goodIn_of _ (by decide +kernel)) ggX6_save_X6_keepsThePast
set_option maxRecDepth 20000 in
theorem ggX6_save_X6_isSmaller : GoodIn wsX6_save wsX6_isSmaller := goodIn_r _ [25, 26, 27, 28, 29, 30, 31, 32] (by decide +kernel) (by decide +kernel)
set_option maxRecDepth 20000 in
theorem gX6_save_X6_isSmaller : GoodIn wsX6_save (va_wsS RX6 187 yX6_isSmaller wsX6_isSmaller) := goodIn_app (goodIn_of _ (by decide +kernel)) ggX6_save_X6_isSmaller
set_option maxRecDepth 20000 in
theorem ggX6_save_X6_timesByPlan : GoodIn wsX6_save wsX6_timesByPlan := goodIn_r _ [36, 1, 3, 20, 14, 37, 38, 39, 40, 41, 42, 43, 44, 45, 46, 47, 48, 49, 50, 51, 52, 53, 54, 55, 56, 57, 58, 59, 60, 61, 62, 63, 64, 65, 66, 67, 68, 69, 70, 71, 72, 73, 74, 75, 76, 77, 78, 79, 80, 81, 82, 83, 84, 85, 86, 87, 88, 89, 90, 91, 92, 93, 94, 95, 96, 97, 98, 99, 100, 101, 102, 103, 104, 105, 106, 107, 108, 109, 110, 111, 112, 113, 114, 115, 116, 117, 118, 119, 120, 121, 122, 123, 124, 125, 126, 127, 128, 129, 130, 131, 132] (by decide +kernel) (by decide +kernel)
set_option maxRecDepth 20000 in
theorem gX6_save_X6_timesByPlan : GoodIn wsX6_save (wsV RX6 184 RX6 yX6_timesByPlan wsX6_timesByPlan) := goodIn_app (goodIn_of _ (by decide +kernel)) ggX6_save_X6_timesByPlan
theorem dX6_save_0 : decode cX6_save 0 = .ok (.aload_n 0, 1) := by decide +kernel
theorem dX6_save_1 : decode cX6_save 1 = .ok (.iload_n 1, 1) := by decide +kernel
theorem dX6_save_2 : decode cX6_save 2 = .ok (.invokevirtual 114, 3) := by decide +kernel
theorem dX6_save_5 : decode cX6_save 5 = .ok (.ifCond .ne 5, 3) := by decide +kernel
theorem dX6_save_8 : decode cX6_save 8 = .ok (.iconst (-1), 1) := by decide +kernel
theorem dX6_save_9 : decode cX6_save 9 = .ok (.ireturn, 1) := by decide +kernel
theorem dX6_save_10 : decode cX6_save 10 = .ok (.bipush (-4), 2) := by decide +kernel
theorem dX6_save_12 : decode cX6_save 12 = .ok (.istore_n 2, 1) := by decide +kernel
theorem dX6_save_13 : decode cX6_save 13 = .ok (.iconst 0, 1) := by decide +kernel
theorem dX6_save_14 : decode cX6_save 14 = .ok (.istore_n 3, 1) := by decide +kernel
theorem dX6_save_15 : decode cX6_save 15 = .ok (.iload_n 3, 1) := by decide +kernel
theorem dX6_save_16 : decode cX6_save 16 = .ok (.aload_n 0, 1) := by decide +kernel
theorem dX6_save_17 : decode cX6_save 17 = .ok (.invokevirtual 178, 3) := by decide +kernel
theorem dX6_save_20 : decode cX6_save 20 = .ok (.if_icmp .gt 64, 3) := by decide +kernel
theorem dX6_save_23 : decode cX6_save 23 = .ok (.aload_n 0, 1) := by decide +kernel
theorem dX6_save_24 : decode cX6_save 24 = .ok (.iload_n 3, 1) := by decide +kernel
theorem dX6_save_25 : decode cX6_save 25 = .ok (.invokevirtual 181, 3) := by decide +kernel
theorem dX6_save_28 : decode cX6_save 28 = .ok (.ifCond .eq 50, 3) := by decide +kernel
theorem dX6_save_31 : decode cX6_save 31 = .ok (.iload_n 2, 1) := by decide +kernel
theorem dX6_save_32 : decode cX6_save 32 = .ok (.bipush (-4), 2) := by decide +kernel
theorem dX6_save_34 : decode cX6_save 34 = .ok (.if_icmp .eq 11, 3) := by decide +kernel
theorem dX6_save_37 : decode cX6_save 37 = .ok (.iload_n 3, 1) := by decide +kernel
theorem dX6_save_38 : decode cX6_save 38 = .ok (.iload_n 2, 1) := by decide +kernel
theorem dX6_save_39 : decode cX6_save 39 = .ok (.invokestatic 187, 3) := by decide +kernel
theorem dX6_save_42 : decode cX6_save 42 = .ok (.ifCond .eq 36, 3) := by decide +kernel
theorem dX6_save_45 : decode cX6_save 45 = .ok (.aload_n 0, 1) := by decide +kernel
theorem dX6_save_46 : decode cX6_save 46 = .ok (.iload_n 3, 1) := by decide +kernel
theorem dX6_save_47 : decode cX6_save 47 = .ok (.invokevirtual 184, 3) := by decide +kernel
theorem dX6_save_50 : decode cX6_save 50 = .ok (.pop, 1) := by decide +kernel
theorem dX6_save_51 : decode cX6_save 51 = .ok (.aload_n 0, 1) := by decide +kernel
theorem dX6_save_52 : decode cX6_save 52 = .ok (.getfield 37, 3) := by decide +kernel
theorem dX6_save_55 : decode cX6_save 55 = .ok (.getfield 127, 3) := by decide +kernel
theorem dX6_save_58 : decode cX6_save 58 = .ok (.iload_n 1, 1) := by decide +kernel
theorem dX6_save_59 : decode cX6_save 59 = .ok (.iaload, 1) := by decide +kernel
theorem dX6_save_60 : decode cX6_save 60 = .ok (.aload_n 0, 1) := by decide +kernel
theorem dX6_save_61 : decode cX6_save 61 = .ok (.getfield 26, 3) := by decide +kernel
theorem dX6_save_64 : decode cX6_save 64 = .ok (.getfield 127, 3) := by decide +kernel
theorem dX6_save_67 : decode cX6_save 67 = .ok (.iload_n 1, 1) := by decide +kernel
theorem dX6_save_68 : decode cX6_save 68 = .ok (.iaload, 1) := by decide +kernel
theorem dX6_save_69 : decode cX6_save 69 = .ok (.if_icmp .ne 7, 3) := by decide +kernel
theorem dX6_save_72 : decode cX6_save 72 = .ok (.iload_n 3, 1) := by decide +kernel
theorem dX6_save_73 : decode cX6_save 73 = .ok (.goto 4, 3) := by decide +kernel
theorem dX6_save_76 : decode cX6_save 76 = .ok (.iload_n 2, 1) := by decide +kernel
theorem dX6_save_77 : decode cX6_save 77 = .ok (.istore_n 2, 1) := by decide +kernel
theorem dX6_save_78 : decode cX6_save 78 = .ok (.iinc 3 1, 3) := by decide +kernel
theorem dX6_save_81 : decode cX6_save 81 = .ok (.goto (-66), 3) := by decide +kernel
theorem dX6_save_84 : decode cX6_save 84 = .ok (.iload_n 2, 1) := by decide +kernel
theorem dX6_save_85 : decode cX6_save 85 = .ok (.ireturn, 1) := by decide +kernel
set_option maxRecDepth 20000 in
theorem ggX6_run_X6_isWithin : GoodIn wsX6_run wsX6_isWithin := goodIn_r _ [7] (by decide +kernel) (by decide +kernel)
set_option maxRecDepth 20000 in
theorem gX6_run_X6_isWithin : GoodIn wsX6_run (va_wsS RX6 58 yX6_isWithin wsX6_isWithin) := goodIn_app (goodIn_of _ (by decide +kernel)) ggX6_run_X6_isWithin
set_option maxRecDepth 20000 in
theorem ggX6_run_X1_copyFrom : GoodIn wsX6_run wsX1_copyFrom := goodIn_r _ [12, 13, 14, 15, 16, 17, 18, 19, 20, 21, 22, 23, 24, 25, 26, 27, 57, 58, 59, 60, 61, 62, 63, 64, 65, 66, 67] (by decide +kernel) (by decide +kernel)
set_option maxRecDepth 20000 in
theorem gX6_run_X1_copyFrom : GoodIn wsX6_run (wsV RX6 83 RX1 yX1_copyFrom wsX1_copyFrom) := goodIn_app (goodIn_of _ (by decide +kernel)) ggX6_run_X1_copyFrom
set_option maxRecDepth 20000 in
theorem ggX6_run_X1_runToCounter : GoodIn wsX6_run wsX1_runToCounter := goodIn_r _ [31, 13, 20, 25, 32, 33, 34, 11, 35, 19, 36, 37, 38, 39, 57, 58, 59, 60, 61, 62, 63, 64, 65, 66, 67] (by decide +kernel) (by decide +kernel)
set_option maxRecDepth 20000 in
theorem gX6_run_X1_runToCounter : GoodIn wsX6_run (wsV RX6 190 RX1 yX1_runToCounter wsX1_runToCounter) := goodIn_app (goodIn_of _ (by decide +kernel)) ggX6_run_X1_runToCounter
set_option maxRecDepth 20000 in
theorem ggX6_run_X1_sumAtBank : GoodIn wsX6_run wsX1_sumAtBank := goodIn_r _ [43, 13, 20, 57, 58, 59, 60, 61, 62, 63, 64, 65, 66, 67] (by decide +kernel) (by decide +kernel)
set_option maxRecDepth 20000 in
theorem gX6_run_X1_sumAtBank : GoodIn wsX6_run (wsV RX6 193 RX1 yX1_sumAtBank wsX1_sumAtBank) := goodIn_app (goodIn_of _ (by decide +kernel)) ggX6_run_X1_sumAtBank
set_option maxRecDepth 20000 in
theorem ggX6_run_X1_whoHasNothingThere : GoodIn wsX6_run wsX1_whoHasNothingThere := goodIn_r _ [47, 13, 20, 57, 58, 59, 60, 61, 62, 63, 64, 65, 66, 67] (by decide +kernel) (by decide +kernel)
set_option maxRecDepth 20000 in
theorem gX6_run_X1_whoHasNothingThere : GoodIn wsX6_run (wsV RX6 196 RX1 yX1_whoHasNothingThere wsX1_whoHasNothingThere) := goodIn_app (goodIn_of _ (by decide +kernel)) ggX6_run_X1_whoHasNothingThere
theorem dX6_run_0 : decode cX6_run 0 = .ok (.iload_n 1, 1) := by decide +kernel
theorem dX6_run_1 : decode cX6_run 1 = .ok (.iconst 2, 1) := by decide +kernel
theorem dX6_run_2 : decode cX6_run 2 = .ok (.invokestatic 58, 3) := by decide +kernel
theorem dX6_run_5 : decode cX6_run 5 = .ok (.ifCond .ne 5, 3) := by decide +kernel
theorem dX6_run_8 : decode cX6_run 8 = .ok (.iconst (-1), 1) := by decide +kernel
theorem dX6_run_9 : decode cX6_run 9 = .ok (.ireturn, 1) := by decide +kernel
theorem dX6_run_10 : decode cX6_run 10 = .ok (.aload_n 0, 1) := by decide +kernel
theorem dX6_run_11 : decode cX6_run 11 = .ok (.getfield 37, 3) := by decide +kernel
theorem dX6_run_14 : decode cX6_run 14 = .ok (.aload_n 0, 1) := by decide +kernel
theorem dX6_run_15 : decode cX6_run 15 = .ok (.getfield 26, 3) := by decide +kernel
theorem dX6_run_18 : decode cX6_run 18 = .ok (.invokevirtual 83, 3) := by decide +kernel
theorem dX6_run_21 : decode cX6_run 21 = .ok (.aload_n 0, 1) := by decide +kernel
theorem dX6_run_22 : decode cX6_run 22 = .ok (.getfield 37, 3) := by decide +kernel
theorem dX6_run_25 : decode cX6_run 25 = .ok (.invokevirtual 190, 3) := by decide +kernel
theorem dX6_run_28 : decode cX6_run 28 = .ok (.iload_n 1, 1) := by decide +kernel
theorem dX6_run_29 : decode cX6_run 29 = .ok (.lookupswitch 43 #[(0, 27), (1, 35)], 27) := by decide +kernel
theorem dX6_run_56 : decode cX6_run 56 = .ok (.aload_n 0, 1) := by decide +kernel
theorem dX6_run_57 : decode cX6_run 57 = .ok (.getfield 37, 3) := by decide +kernel
theorem dX6_run_60 : decode cX6_run 60 = .ok (.invokevirtual 193, 3) := by decide +kernel
theorem dX6_run_63 : decode cX6_run 63 = .ok (.ireturn, 1) := by decide +kernel
theorem dX6_run_64 : decode cX6_run 64 = .ok (.aload_n 0, 1) := by decide +kernel
theorem dX6_run_65 : decode cX6_run 65 = .ok (.getfield 37, 3) := by decide +kernel
theorem dX6_run_68 : decode cX6_run 68 = .ok (.getfield 105, 3) := by decide +kernel
theorem dX6_run_71 : decode cX6_run 71 = .ok (.ireturn, 1) := by decide +kernel
theorem dX6_run_72 : decode cX6_run 72 = .ok (.aload_n 0, 1) := by decide +kernel
theorem dX6_run_73 : decode cX6_run 73 = .ok (.getfield 37, 3) := by decide +kernel
theorem dX6_run_76 : decode cX6_run 76 = .ok (.invokevirtual 196, 3) := by decide +kernel
theorem dX6_run_79 : decode cX6_run 79 = .ok (.ireturn, 1) := by decide +kernel
set_option maxRecDepth 20000 in
theorem ggX6_holds_X1_copyFrom : GoodIn wsX6_holds wsX1_copyFrom := goodIn_r _ [8, 9, 10, 11, 12, 13, 14, 15, 16, 17, 18, 19, 20, 21, 22, 23, 49, 50, 51, 52, 53, 54, 55, 56, 57, 58, 59] (by decide +kernel) (by decide +kernel)
set_option maxRecDepth 20000 in
theorem gX6_holds_X1_copyFrom : GoodIn wsX6_holds (wsV RX6 83 RX1 yX1_copyFrom wsX1_copyFrom) := goodIn_app (goodIn_of _ (by decide +kernel)) ggX6_holds_X1_copyFrom
set_option maxRecDepth 20000 in
theorem ggX6_holds_X1_runToCounter : GoodIn wsX6_holds wsX1_runToCounter := goodIn_r _ [27, 9, 16, 21, 28, 29, 30, 7, 31, 15, 32, 33, 34, 35, 49, 50, 51, 52, 53, 54, 55, 56, 57, 58, 59] (by decide +kernel) (by decide +kernel)
set_option maxRecDepth 20000 in
theorem gX6_holds_X1_runToCounter : GoodIn wsX6_holds (wsV RX6 190 RX1 yX1_runToCounter wsX1_runToCounter) := goodIn_app (goodIn_of _ (by decide +kernel)) ggX6_holds_X1_runToCounter
set_option maxRecDepth 20000 in
theorem ggX6_holds_X1_sumAtBank : GoodIn wsX6_holds wsX1_sumAtBank := goodIn_r _ [39, 9, 16, 49, 50, 51, 52, 53, 54, 55, 56, 57, 58, 59] (by decide +kernel) (by decide +kernel)
set_option maxRecDepth 20000 in
theorem gX6_holds_X1_sumAtBank : GoodIn wsX6_holds (wsV RX6 193 RX1 yX1_sumAtBank wsX1_sumAtBank) := goodIn_app (goodIn_of _ (by decide +kernel)) ggX6_holds_X1_sumAtBank
theorem dX6_holds_0 : decode cX6_holds 0 = .ok (.iconst 0, 1) := by decide +kernel
theorem dX6_holds_1 : decode cX6_holds 1 = .ok (.istore_n 1, 1) := by decide +kernel
theorem dX6_holds_2 : decode cX6_holds 2 = .ok (.iload_n 1, 1) := by decide +kernel
theorem dX6_holds_3 : decode cX6_holds 3 = .ok (.bipush 99, 2) := by decide +kernel
theorem dX6_holds_5 : decode cX6_holds 5 = .ok (.if_icmp .gt 47, 3) := by decide +kernel
theorem dX6_holds_8 : decode cX6_holds 8 = .ok (.aload_n 0, 1) := by decide +kernel
theorem dX6_holds_9 : decode cX6_holds 9 = .ok (.getfield 37, 3) := by decide +kernel
theorem dX6_holds_12 : decode cX6_holds 12 = .ok (.aload_n 0, 1) := by decide +kernel
theorem dX6_holds_13 : decode cX6_holds 13 = .ok (.getfield 26, 3) := by decide +kernel
theorem dX6_holds_16 : decode cX6_holds 16 = .ok (.invokevirtual 83, 3) := by decide +kernel
theorem dX6_holds_19 : decode cX6_holds 19 = .ok (.aload_n 0, 1) := by decide +kernel
theorem dX6_holds_20 : decode cX6_holds 20 = .ok (.getfield 37, 3) := by decide +kernel
theorem dX6_holds_23 : decode cX6_holds 23 = .ok (.iload_n 1, 1) := by decide +kernel
theorem dX6_holds_24 : decode cX6_holds 24 = .ok (.putfield 105, 3) := by decide +kernel
theorem dX6_holds_27 : decode cX6_holds 27 = .ok (.aload_n 0, 1) := by decide +kernel
theorem dX6_holds_28 : decode cX6_holds 28 = .ok (.getfield 37, 3) := by decide +kernel
theorem dX6_holds_31 : decode cX6_holds 31 = .ok (.invokevirtual 190, 3) := by decide +kernel
theorem dX6_holds_34 : decode cX6_holds 34 = .ok (.aload_n 0, 1) := by decide +kernel
theorem dX6_holds_35 : decode cX6_holds 35 = .ok (.getfield 37, 3) := by decide +kernel
theorem dX6_holds_38 : decode cX6_holds 38 = .ok (.invokevirtual 193, 3) := by decide +kernel
theorem dX6_holds_41 : decode cX6_holds 41 = .ok (.ifCond .ne 5, 3) := by decide +kernel
theorem dX6_holds_44 : decode cX6_holds 44 = .ok (.iload_n 1, 1) := by decide +kernel
theorem dX6_holds_45 : decode cX6_holds 45 = .ok (.ireturn, 1) := by decide +kernel
theorem dX6_holds_46 : decode cX6_holds 46 = .ok (.iinc 1 1, 3) := by decide +kernel
theorem dX6_holds_49 : decode cX6_holds 49 = .ok (.goto (-47), 3) := by decide +kernel
theorem dX6_holds_52 : decode cX6_holds 52 = .ok (.bipush (-4), 2) := by decide +kernel
theorem dX6_holds_54 : decode cX6_holds 54 = .ok (.ireturn, 1) := by decide +kernel
set_option maxRecDepth 20000 in
theorem ggX6_cover_X6_isWithin : GoodIn wsX6_cover wsX6_isWithin := goodIn_r _ [7] (by decide +kernel) (by decide +kernel)
set_option maxRecDepth 20000 in
theorem gX6_cover_X6_isWithin : GoodIn wsX6_cover (va_wsS RX6 58 yX6_isWithin wsX6_isWithin) := goodIn_app (goodIn_of _ (by decide +kernel)) ggX6_cover_X6_isWithin
set_option maxRecDepth 20000 in
theorem ggX6_cover_X1_copyFrom : GoodIn wsX6_cover wsX1_copyFrom := goodIn_r _ [12, 13, 14, 15, 16, 17, 18, 19, 20, 21, 22, 23, 24, 25, 26, 27, 88, 89, 90, 91, 92, 93, 94, 95, 96, 97, 98] (by decide +kernel) (by decide +kernel)
set_option maxRecDepth 20000 in
theorem gX6_cover_X1_copyFrom : GoodIn wsX6_cover (wsV RX6 83 RX1 yX1_copyFrom wsX1_copyFrom) := goodIn_app (goodIn_of _ (by decide +kernel)) ggX6_cover_X1_copyFrom
set_option maxRecDepth 20000 in
theorem ggX6_cover_X6_staysModest : GoodIn wsX6_cover wsX6_staysModest := goodIn_r _ [31, 1, 32, 33, 34, 35, 36, 37, 38, 39, 40, 11, 41, 27, 42, 43, 26, 44, 45, 46, 47, 48, 49, 50, 51, 52, 53, 54, 55, 56, 57, 22, 14, 58, 59, 60, 61, 23, 62, 63, 64, 65, 20, 66, 67, 68, 69, 70, 19, 71, 72, 73, 74, 25, 21, 75, 76, 77, 78, 13, 24, 79, 80, 81, 82, 83, 84, 85, 86, 87, 88, 89, 90, 91, 92, 93, 94, 95, 96, 97, 98, 99, 100, 101, 102, 103, 104, 105, 106] (by decide +kernel) (by decide +kernel)
set_option maxRecDepth 20000 in
theorem gX6_cover_X6_staysModest : GoodIn wsX6_cover (wsV RX6 199 RX6 yX6_staysModest wsX6_staysModest) := goodIn_app (goodIn_of _ (by decide +kernel)) ggX6_cover_X6_staysModest
theorem dX6_cover_0 : decode cX6_cover 0 = .ok (.iload_n 1, 1) := by decide +kernel
theorem dX6_cover_1 : decode cX6_cover 1 = .ok (.bipush 20, 2) := by decide +kernel
theorem dX6_cover_3 : decode cX6_cover 3 = .ok (.invokestatic 58, 3) := by decide +kernel
theorem dX6_cover_6 : decode cX6_cover 6 = .ok (.ifCond .ne 5, 3) := by decide +kernel
theorem dX6_cover_9 : decode cX6_cover 9 = .ok (.iconst (-1), 1) := by decide +kernel
theorem dX6_cover_10 : decode cX6_cover 10 = .ok (.ireturn, 1) := by decide +kernel
theorem dX6_cover_11 : decode cX6_cover 11 = .ok (.iconst 0, 1) := by decide +kernel
theorem dX6_cover_12 : decode cX6_cover 12 = .ok (.istore_n 2, 1) := by decide +kernel
theorem dX6_cover_13 : decode cX6_cover 13 = .ok (.iload_n 2, 1) := by decide +kernel
theorem dX6_cover_14 : decode cX6_cover 14 = .ok (.bipush 99, 2) := by decide +kernel
theorem dX6_cover_16 : decode cX6_cover 16 = .ok (.if_icmp .gt 38, 3) := by decide +kernel
theorem dX6_cover_19 : decode cX6_cover 19 = .ok (.aload_n 0, 1) := by decide +kernel
theorem dX6_cover_20 : decode cX6_cover 20 = .ok (.getfield 37, 3) := by decide +kernel
theorem dX6_cover_23 : decode cX6_cover 23 = .ok (.aload_n 0, 1) := by decide +kernel
theorem dX6_cover_24 : decode cX6_cover 24 = .ok (.getfield 26, 3) := by decide +kernel
theorem dX6_cover_27 : decode cX6_cover 27 = .ok (.invokevirtual 83, 3) := by decide +kernel
theorem dX6_cover_30 : decode cX6_cover 30 = .ok (.aload_n 0, 1) := by decide +kernel
theorem dX6_cover_31 : decode cX6_cover 31 = .ok (.getfield 37, 3) := by decide +kernel
theorem dX6_cover_34 : decode cX6_cover 34 = .ok (.iload_n 2, 1) := by decide +kernel
theorem dX6_cover_35 : decode cX6_cover 35 = .ok (.putfield 105, 3) := by decide +kernel
theorem dX6_cover_38 : decode cX6_cover 38 = .ok (.aload_n 0, 1) := by decide +kernel
theorem dX6_cover_39 : decode cX6_cover 39 = .ok (.iload_n 1, 1) := by decide +kernel
theorem dX6_cover_40 : decode cX6_cover 40 = .ok (.invokevirtual 199, 3) := by decide +kernel
theorem dX6_cover_43 : decode cX6_cover 43 = .ok (.ifCond .eq 5, 3) := by decide +kernel
theorem dX6_cover_46 : decode cX6_cover 46 = .ok (.iload_n 2, 1) := by decide +kernel
theorem dX6_cover_47 : decode cX6_cover 47 = .ok (.ireturn, 1) := by decide +kernel
theorem dX6_cover_48 : decode cX6_cover 48 = .ok (.iinc 2 1, 3) := by decide +kernel
theorem dX6_cover_51 : decode cX6_cover 51 = .ok (.goto (-38), 3) := by decide +kernel
theorem dX6_cover_54 : decode cX6_cover 54 = .ok (.bipush (-4), 2) := by decide +kernel
theorem dX6_cover_56 : decode cX6_cover 56 = .ok (.ireturn, 1) := by decide +kernel
set_option maxRecDepth 20000 in
theorem ggX6_rate_X6_isWithin : GoodIn wsX6_rate wsX6_isWithin := goodIn_r _ [7] (by decide +kernel) (by decide +kernel)
set_option maxRecDepth 20000 in
theorem gX6_rate_X6_isWithin : GoodIn wsX6_rate (va_wsS RX6 58 yX6_isWithin wsX6_isWithin) := goodIn_app (goodIn_of _ (by decide +kernel)) ggX6_rate_X6_isWithin
set_option maxRecDepth 20000 in
theorem ggX6_rate_X1_copyFrom : GoodIn wsX6_rate wsX1_copyFrom := goodIn_r _ [12, 13, 14, 15, 16, 17, 18, 19, 20, 21, 22, 23, 24, 25, 26, 27, 88, 89, 90, 91, 92, 93, 94, 95, 96, 97, 98] (by decide +kernel) (by decide +kernel)
set_option maxRecDepth 20000 in
theorem gX6_rate_X1_copyFrom : GoodIn wsX6_rate (wsV RX6 83 RX1 yX1_copyFrom wsX1_copyFrom) := goodIn_app (goodIn_of _ (by decide +kernel)) ggX6_rate_X1_copyFrom
set_option maxRecDepth 20000 in
theorem ggX6_rate_X6_staysModest : GoodIn wsX6_rate wsX6_staysModest := goodIn_r _ [31, 1, 32, 33, 34, 35, 36, 37, 38, 39, 40, 11, 41, 27, 42, 43, 26, 44, 45, 46, 47, 48, 49, 50, 51, 52, 53, 54, 55, 56, 57, 22, 14, 58, 59, 60, 61, 23, 62, 63, 64, 65, 20, 66, 67, 68, 69, 70, 19, 71, 72, 73, 74, 25, 21, 75, 76, 77, 78, 13, 24, 79, 80, 81, 82, 83, 84, 85, 86, 87, 88, 89, 90, 91, 92, 93, 94, 95, 96, 97, 98, 99, 100, 101, 102, 103, 104, 105, 106] (by decide +kernel) (by decide +kernel)
set_option maxRecDepth 20000 in
theorem gX6_rate_X6_staysModest : GoodIn wsX6_rate (wsV RX6 199 RX6 yX6_staysModest wsX6_staysModest) := goodIn_app (goodIn_of _ (by decide +kernel)) ggX6_rate_X6_staysModest
theorem dX6_rate_0 : decode cX6_rate 0 = .ok (.iload_n 1, 1) := by decide +kernel
theorem dX6_rate_1 : decode cX6_rate 1 = .ok (.bipush 20, 2) := by decide +kernel
theorem dX6_rate_3 : decode cX6_rate 3 = .ok (.invokestatic 58, 3) := by decide +kernel
theorem dX6_rate_6 : decode cX6_rate 6 = .ok (.ifCond .ne 5, 3) := by decide +kernel
theorem dX6_rate_9 : decode cX6_rate 9 = .ok (.iconst (-1), 1) := by decide +kernel
theorem dX6_rate_10 : decode cX6_rate 10 = .ok (.ireturn, 1) := by decide +kernel
theorem dX6_rate_11 : decode cX6_rate 11 = .ok (.iconst 0, 1) := by decide +kernel
theorem dX6_rate_12 : decode cX6_rate 12 = .ok (.istore_n 2, 1) := by decide +kernel
theorem dX6_rate_13 : decode cX6_rate 13 = .ok (.iload_n 2, 1) := by decide +kernel
theorem dX6_rate_14 : decode cX6_rate 14 = .ok (.bipush 9, 2) := by decide +kernel
theorem dX6_rate_16 : decode cX6_rate 16 = .ok (.if_icmp .gt 38, 3) := by decide +kernel
theorem dX6_rate_19 : decode cX6_rate 19 = .ok (.aload_n 0, 1) := by decide +kernel
theorem dX6_rate_20 : decode cX6_rate 20 = .ok (.getfield 37, 3) := by decide +kernel
theorem dX6_rate_23 : decode cX6_rate 23 = .ok (.aload_n 0, 1) := by decide +kernel
theorem dX6_rate_24 : decode cX6_rate 24 = .ok (.getfield 26, 3) := by decide +kernel
theorem dX6_rate_27 : decode cX6_rate 27 = .ok (.invokevirtual 83, 3) := by decide +kernel
theorem dX6_rate_30 : decode cX6_rate 30 = .ok (.aload_n 0, 1) := by decide +kernel
theorem dX6_rate_31 : decode cX6_rate 31 = .ok (.getfield 37, 3) := by decide +kernel
theorem dX6_rate_34 : decode cX6_rate 34 = .ok (.iload_n 2, 1) := by decide +kernel
theorem dX6_rate_35 : decode cX6_rate 35 = .ok (.putfield 102, 3) := by decide +kernel
theorem dX6_rate_38 : decode cX6_rate 38 = .ok (.aload_n 0, 1) := by decide +kernel
theorem dX6_rate_39 : decode cX6_rate 39 = .ok (.iload_n 1, 1) := by decide +kernel
theorem dX6_rate_40 : decode cX6_rate 40 = .ok (.invokevirtual 199, 3) := by decide +kernel
theorem dX6_rate_43 : decode cX6_rate 43 = .ok (.ifCond .eq 5, 3) := by decide +kernel
theorem dX6_rate_46 : decode cX6_rate 46 = .ok (.iload_n 2, 1) := by decide +kernel
theorem dX6_rate_47 : decode cX6_rate 47 = .ok (.ireturn, 1) := by decide +kernel
theorem dX6_rate_48 : decode cX6_rate 48 = .ok (.iinc 2 1, 3) := by decide +kernel
theorem dX6_rate_51 : decode cX6_rate 51 = .ok (.goto (-38), 3) := by decide +kernel
theorem dX6_rate_54 : decode cX6_rate 54 = .ok (.bipush (-4), 2) := by decide +kernel
theorem dX6_rate_56 : decode cX6_rate 56 = .ok (.ireturn, 1) := by decide +kernel
set_option maxRecDepth 20000 in
theorem ggX6_gift_X6_isWithin : GoodIn wsX6_gift wsX6_isWithin := goodIn_r _ [9] (by decide +kernel) (by decide +kernel)
set_option maxRecDepth 20000 in
theorem gX6_gift_X6_isWithin : GoodIn wsX6_gift (va_wsS RX6 58 yX6_isWithin wsX6_isWithin) := goodIn_app (goodIn_of _ (by decide +kernel)) ggX6_gift_X6_isWithin
set_option maxRecDepth 20000 in
theorem ggX6_gift_X6_timesByPlan : GoodIn wsX6_gift wsX6_timesByPlan := goodIn_r _ [13, 4, 1, 2, 5, 14, 15, 16, 17, 18, 19, 20, 21, 22, 23, 24, 25, 26, 27, 28, 29, 30, 31, 32, 33, 34, 35, 36, 37, 38, 39, 40, 41, 42, 43, 44, 45, 46, 47, 48, 49, 50, 51, 52, 53, 54, 55, 56, 57, 58, 59, 60, 61, 62, 63, 64, 65, 66, 67, 68, 69, 70, 71, 72, 73, 74, 75, 76, 77, 78, 79, 80, 81, 83, 84, 85, 86, 87, 88, 89, 90, 91, 92, 93, 94, 95, 96, 97, 98, 99, 100, 101, 102, 103, 104, 105, 106, 107, 108, 109, 110] (by decide +kernel) (by decide +kernel)
set_option maxRecDepth 20000 in
theorem gX6_gift_X6_timesByPlan : GoodIn wsX6_gift (wsV RX6 184 RX6 yX6_timesByPlan wsX6_timesByPlan) := goodIn_app (goodIn_of _ (by decide +kernel)) ggX6_gift_X6_timesByPlan
set_option maxRecDepth 20000 in
theorem ggX6_gift_X1_copyFrom : GoodIn wsX6_gift wsX1_copyFrom := goodIn_r _ [18, 19, 20, 21, 22, 23, 24, 25, 26, 27, 28, 29, 30, 31, 32, 33, 92, 93, 94, 95, 96, 97, 98, 99, 100, 101, 102] (by decide +kernel) (by decide +kernel)
set_option maxRecDepth 20000 in
theorem gX6_gift_X1_copyFrom : GoodIn wsX6_gift (wsV RX6 83 RX1 yX1_copyFrom wsX1_copyFrom) := goodIn_app (goodIn_of _ (by decide +kernel)) ggX6_gift_X1_copyFrom
set_option maxRecDepth 20000 in
theorem ggX6_gift_X1_putInHand : GoodIn wsX6_gift wsX1_putInHand := goodIn_r _ [73, 25, 66, 67, 68, 69, 92, 93, 94, 95, 96, 97, 98, 99, 100, 101, 102] (by decide +kernel) (by decide +kernel)
set_option maxRecDepth 20000 in
theorem gX6_gift_X1_putInHand : GoodIn wsX6_gift (wsV RX6 202 RX1 yX1_putInHand wsX1_putInHand) := goodIn_app (goodIn_of _ (by decide +kernel)) ggX6_gift_X1_putInHand
set_option maxRecDepth 20000 in
theorem ggX6_gift_X1_passToLastWeek : GoodIn wsX6_gift wsX1_passToLastWeek := goodIn_r _ [37, 32, 38, 39, 40, 17, 41, 33, 42, 43, 44, 45, 46, 47, 48, 49, 50, 51, 52, 53, 54, 55, 56, 57, 28, 20, 58, 59, 60, 61, 29, 62, 63, 64, 65, 26, 66, 67, 68, 69, 70, 71, 72, 73, 25, 74, 75, 76, 77, 31, 27, 78, 79, 80, 81, 19, 30, 92, 93, 94, 95, 96, 97, 98, 99, 100, 101, 102, 103, 104, 105, 106, 107, 108, 109, 110] (by decide +kernel) (by decide +kernel)
set_option maxRecDepth 20000 in
theorem gX6_gift_X1_passToLastWeek : GoodIn wsX6_gift (wsV RX6 206 RX1 yX1_passToLastWeek wsX1_passToLastWeek) := goodIn_app (goodIn_of _ (by decide +kernel)) ggX6_gift_X1_passToLastWeek
theorem dX6_gift_0 : decode cX6_gift 0 = .ok (.iload_n 1, 1) := by decide +kernel
theorem dX6_gift_1 : decode cX6_gift 1 = .ok (.bipush 99, 2) := by decide +kernel
theorem dX6_gift_3 : decode cX6_gift 3 = .ok (.invokestatic 58, 3) := by decide +kernel
theorem dX6_gift_6 : decode cX6_gift 6 = .ok (.ifCond .eq 11, 3) := by decide +kernel
theorem dX6_gift_9 : decode cX6_gift 9 = .ok (.iload_n 2, 1) := by decide +kernel
theorem dX6_gift_10 : decode cX6_gift 10 = .ok (.iconst 1, 1) := by decide +kernel
theorem dX6_gift_11 : decode cX6_gift 11 = .ok (.invokestatic 58, 3) := by decide +kernel
theorem dX6_gift_14 : decode cX6_gift 14 = .ok (.ifCond .ne 5, 3) := by decide +kernel
theorem dX6_gift_17 : decode cX6_gift 17 = .ok (.iconst (-1), 1) := by decide +kernel
theorem dX6_gift_18 : decode cX6_gift 18 = .ok (.ireturn, 1) := by decide +kernel
theorem dX6_gift_19 : decode cX6_gift 19 = .ok (.aload_n 0, 1) := by decide +kernel
theorem dX6_gift_20 : decode cX6_gift 20 = .ok (.aload_n 0, 1) := by decide +kernel
theorem dX6_gift_21 : decode cX6_gift 21 = .ok (.getfield 26, 3) := by decide +kernel
theorem dX6_gift_24 : decode cX6_gift 24 = .ok (.getfield 111, 3) := by decide +kernel
theorem dX6_gift_27 : decode cX6_gift 27 = .ok (.invokevirtual 184, 3) := by decide +kernel
theorem dX6_gift_30 : decode cX6_gift 30 = .ok (.istore_n 3, 1) := by decide +kernel
theorem dX6_gift_31 : decode cX6_gift 31 = .ok (.bipush (-4), 2) := by decide +kernel
theorem dX6_gift_33 : decode cX6_gift 33 = .ok (.istore 4, 2) := by decide +kernel
theorem dX6_gift_35 : decode cX6_gift 35 = .ok (.iconst 0, 1) := by decide +kernel
theorem dX6_gift_36 : decode cX6_gift 36 = .ok (.istore 5, 2) := by decide +kernel
theorem dX6_gift_38 : decode cX6_gift 38 = .ok (.iload 5, 2) := by decide +kernel
theorem dX6_gift_40 : decode cX6_gift 40 = .ok (.aload_n 0, 1) := by decide +kernel
theorem dX6_gift_41 : decode cX6_gift 41 = .ok (.getfield 26, 3) := by decide +kernel
theorem dX6_gift_44 : decode cX6_gift 44 = .ok (.getfield 93, 3) := by decide +kernel
theorem dX6_gift_47 : decode cX6_gift 47 = .ok (.if_icmp .ge 56, 3) := by decide +kernel
theorem dX6_gift_50 : decode cX6_gift 50 = .ok (.aload_n 0, 1) := by decide +kernel
theorem dX6_gift_51 : decode cX6_gift 51 = .ok (.getfield 37, 3) := by decide +kernel
theorem dX6_gift_54 : decode cX6_gift 54 = .ok (.aload_n 0, 1) := by decide +kernel
theorem dX6_gift_55 : decode cX6_gift 55 = .ok (.getfield 26, 3) := by decide +kernel
theorem dX6_gift_58 : decode cX6_gift 58 = .ok (.invokevirtual 83, 3) := by decide +kernel
theorem dX6_gift_61 : decode cX6_gift 61 = .ok (.aload_n 0, 1) := by decide +kernel
theorem dX6_gift_62 : decode cX6_gift 62 = .ok (.getfield 37, 3) := by decide +kernel
theorem dX6_gift_65 : decode cX6_gift 65 = .ok (.iload 5, 2) := by decide +kernel
theorem dX6_gift_67 : decode cX6_gift 67 = .ok (.iload_n 1, 1) := by decide +kernel
theorem dX6_gift_68 : decode cX6_gift 68 = .ok (.invokevirtual 202, 3) := by decide +kernel
theorem dX6_gift_71 : decode cX6_gift 71 = .ok (.aload_n 0, 1) := by decide +kernel
theorem dX6_gift_72 : decode cX6_gift 72 = .ok (.getfield 37, 3) := by decide +kernel
theorem dX6_gift_75 : decode cX6_gift 75 = .ok (.aload_n 0, 1) := by decide +kernel
theorem dX6_gift_76 : decode cX6_gift 76 = .ok (.getfield 19, 3) := by decide +kernel
theorem dX6_gift_79 : decode cX6_gift 79 = .ok (.invokevirtual 206, 3) := by decide +kernel
theorem dX6_gift_82 : decode cX6_gift 82 = .ok (.istore 6, 2) := by decide +kernel
theorem dX6_gift_84 : decode cX6_gift 84 = .ok (.iload 6, 2) := by decide +kernel
theorem dX6_gift_86 : decode cX6_gift 86 = .ok (.iload_n 3, 1) := by decide +kernel
theorem dX6_gift_87 : decode cX6_gift 87 = .ok (.if_icmp .ge 10, 3) := by decide +kernel
theorem dX6_gift_90 : decode cX6_gift 90 = .ok (.iload 6, 2) := by decide +kernel
theorem dX6_gift_92 : decode cX6_gift 92 = .ok (.istore_n 3, 1) := by decide +kernel
theorem dX6_gift_93 : decode cX6_gift 93 = .ok (.iload 5, 2) := by decide +kernel
theorem dX6_gift_95 : decode cX6_gift 95 = .ok (.istore 4, 2) := by decide +kernel
theorem dX6_gift_97 : decode cX6_gift 97 = .ok (.iinc 5 1, 3) := by decide +kernel
theorem dX6_gift_100 : decode cX6_gift 100 = .ok (.goto (-62), 3) := by decide +kernel
theorem dX6_gift_103 : decode cX6_gift 103 = .ok (.iload 4, 2) := by decide +kernel
theorem dX6_gift_105 : decode cX6_gift 105 = .ok (.bipush (-4), 2) := by decide +kernel
theorem dX6_gift_107 : decode cX6_gift 107 = .ok (.if_icmp .eq 7, 3) := by decide +kernel
theorem dX6_gift_110 : decode cX6_gift 110 = .ok (.iload_n 2, 1) := by decide +kernel
theorem dX6_gift_111 : decode cX6_gift 111 = .ok (.ifCond .ne 8, 3) := by decide +kernel
theorem dX6_gift_114 : decode cX6_gift 114 = .ok (.iload 4, 2) := by decide +kernel
theorem dX6_gift_116 : decode cX6_gift 116 = .ok (.goto 4, 3) := by decide +kernel
theorem dX6_gift_119 : decode cX6_gift 119 = .ok (.iload_n 3, 1) := by decide +kernel
theorem dX6_gift_120 : decode cX6_gift 120 = .ok (.ireturn, 1) := by decide +kernel
set_option maxRecDepth 20000 in
theorem ggX6_told_X6_isOne : GoodIn wsX6_told wsX6_isOne := goodIn_r _ [15, 2, 10, 92, 93, 94, 95, 96, 97, 98, 99, 100, 101, 102, 103, 104, 105, 106, 107, 108, 109, 110, 111] (by decide +kernel) (by decide +kernel)
set_option maxRecDepth 20000 in
theorem gX6_told_X6_isOne : GoodIn wsX6_told (wsV RX6 114 RX6 yX6_isOne wsX6_isOne) := goodIn_app (goodIn_of _ (by decide +kernel)) ggX6_told_X6_isOne
set_option maxRecDepth 20000 in
theorem ggX6_told_X6_isWithin : GoodIn wsX6_told wsX6_isWithin := goodIn_r _ [18] (by decide +kernel) (by decide +kernel)
set_option maxRecDepth 20000 in
theorem gX6_told_X6_isWithin : GoodIn wsX6_told (va_wsS RX6 58 yX6_isWithin wsX6_isWithin) := goodIn_app (goodIn_of _ (by decide +kernel)) ggX6_told_X6_isWithin
set_option maxRecDepth 20000 in
theorem ggX6_told_X1_copyFrom : GoodIn wsX6_told wsX1_copyFrom := goodIn_r _ [23, 24, 25, 26, 7, 8, 9, 27, 28, 29, 30, 31, 32, 33, 34, 35, 101, 102, 103, 104, 105, 106, 107, 108, 109, 110, 111] (by decide +kernel) (by decide +kernel)
set_option maxRecDepth 20000 in
theorem gX6_told_X1_copyFrom : GoodIn wsX6_told (wsV RX6 83 RX1 yX1_copyFrom wsX1_copyFrom) := goodIn_app (goodIn_of _ (by decide +kernel)) ggX6_told_X1_copyFrom
set_option maxRecDepth 20000 in
theorem ggX6_told_X1_passToLastWeek : GoodIn wsX6_told wsX1_passToLastWeek := goodIn_r _ [39, 34, 40, 41, 42, 22, 43, 35, 44, 45, 46, 47, 48, 49, 50, 51, 52, 53, 54, 55, 56, 57, 58, 59, 30, 25, 60, 61, 62, 63, 31, 64, 65, 66, 67, 28, 68, 69, 70, 71, 72, 73, 74, 75, 27, 76, 77, 78, 79, 33, 29, 80, 81, 82, 83, 24, 32, 101, 102, 103, 104, 105, 106, 107, 108, 109, 110, 111, 112, 113, 114, 115, 116, 117, 118, 119] (by decide +kernel) (by decide +kernel)
set_option maxRecDepth 20000 in
theorem gX6_told_X1_passToLastWeek : GoodIn wsX6_told (wsV RX6 206 RX1 yX1_passToLastWeek wsX1_passToLastWeek) := goodIn_app (goodIn_of _ (by decide +kernel)) ggX6_told_X1_passToLastWeek
set_option maxRecDepth 20000 in
theorem ggX6_told_X6_timesByRumour : GoodIn wsX6_told wsX6_timesByRumour := goodIn_r _ [87, 1, 2, 3, 19, 20, 21, 22, 23, 24, 25, 26, 7, 8, 9, 27, 28, 29, 30, 31, 32, 33, 34, 35, 88, 89, 90, 91, 44, 54, 45, 36, 37, 38, 39, 40, 41, 42, 43, 46, 47, 48, 49, 50, 51, 52, 53, 55, 56, 57, 58, 59, 60, 61, 62, 63, 64, 65, 66, 67, 68, 69, 70, 71, 72, 73, 74, 75, 76, 77, 78, 79, 80, 81, 82, 83, 92, 93, 94, 95, 96, 97, 98, 99, 100, 101, 102, 103, 104, 105, 106, 107, 108, 109, 110, 111, 112, 113, 114, 115, 116, 117, 118, 119] (by decide +kernel) (by decide +kernel)
set_option maxRecDepth 20000 in
theorem gX6_told_X6_timesByRumour : GoodIn wsX6_told (wsV RX6 215 RX6 yX6_timesByRumour wsX6_timesByRumour) := goodIn_app (goodIn_of _ (by decide +kernel)) ggX6_told_X6_timesByRumour
theorem dX6_told_0 : decode cX6_told 0 = .ok (.aload_n 0, 1) := by decide +kernel
theorem dX6_told_1 : decode cX6_told 1 = .ok (.iload_n 1, 1) := by decide +kernel
theorem dX6_told_2 : decode cX6_told 2 = .ok (.invokevirtual 114, 3) := by decide +kernel
theorem dX6_told_5 : decode cX6_told 5 = .ok (.ifCond .eq 11, 3) := by decide +kernel
theorem dX6_told_8 : decode cX6_told 8 = .ok (.iload_n 2, 1) := by decide +kernel
theorem dX6_told_9 : decode cX6_told 9 = .ok (.iconst 1, 1) := by decide +kernel
theorem dX6_told_10 : decode cX6_told 10 = .ok (.invokestatic 58, 3) := by decide +kernel
theorem dX6_told_13 : decode cX6_told 13 = .ok (.ifCond .ne 5, 3) := by decide +kernel
theorem dX6_told_16 : decode cX6_told 16 = .ok (.iconst (-1), 1) := by decide +kernel
theorem dX6_told_17 : decode cX6_told 17 = .ok (.ireturn, 1) := by decide +kernel
theorem dX6_told_18 : decode cX6_told 18 = .ok (.aload_n 0, 1) := by decide +kernel
theorem dX6_told_19 : decode cX6_told 19 = .ok (.getfield 37, 3) := by decide +kernel
theorem dX6_told_22 : decode cX6_told 22 = .ok (.aload_n 0, 1) := by decide +kernel
theorem dX6_told_23 : decode cX6_told 23 = .ok (.getfield 26, 3) := by decide +kernel
theorem dX6_told_26 : decode cX6_told 26 = .ok (.invokevirtual 83, 3) := by decide +kernel
theorem dX6_told_29 : decode cX6_told 29 = .ok (.aload_n 0, 1) := by decide +kernel
theorem dX6_told_30 : decode cX6_told 30 = .ok (.getfield 37, 3) := by decide +kernel
theorem dX6_told_33 : decode cX6_told 33 = .ok (.aload_n 0, 1) := by decide +kernel
theorem dX6_told_34 : decode cX6_told 34 = .ok (.getfield 19, 3) := by decide +kernel
theorem dX6_told_37 : decode cX6_told 37 = .ok (.invokevirtual 206, 3) := by decide +kernel
theorem dX6_told_40 : decode cX6_told 40 = .ok (.pop, 1) := by decide +kernel
theorem dX6_told_41 : decode cX6_told 41 = .ok (.aload_n 0, 1) := by decide +kernel
theorem dX6_told_42 : decode cX6_told 42 = .ok (.getfield 37, 3) := by decide +kernel
theorem dX6_told_45 : decode cX6_told 45 = .ok (.getfield 127, 3) := by decide +kernel
theorem dX6_told_48 : decode cX6_told 48 = .ok (.iconst 0, 1) := by decide +kernel
theorem dX6_told_49 : decode cX6_told 49 = .ok (.aload_n 0, 1) := by decide +kernel
theorem dX6_told_50 : decode cX6_told 50 = .ok (.getfield 40, 3) := by decide +kernel
theorem dX6_told_53 : decode cX6_told 53 = .ok (.iconst 0, 1) := by decide +kernel
theorem dX6_told_54 : decode cX6_told 54 = .ok (.iconst 4, 1) := by decide +kernel
theorem dX6_told_55 : decode cX6_told 55 = .ok (.invokestatic 209, 3) := by decide +kernel
theorem dX6_told_58 : decode cX6_told 58 = .ok (.aload_n 0, 1) := by decide +kernel
theorem dX6_told_59 : decode cX6_told 59 = .ok (.iload_n 1, 1) := by decide +kernel
theorem dX6_told_60 : decode cX6_told 60 = .ok (.invokevirtual 215, 3) := by decide +kernel
theorem dX6_told_63 : decode cX6_told 63 = .ok (.pop, 1) := by decide +kernel
theorem dX6_told_64 : decode cX6_told 64 = .ok (.iconst 0, 1) := by decide +kernel
theorem dX6_told_65 : decode cX6_told 65 = .ok (.istore_n 3, 1) := by decide +kernel
theorem dX6_told_66 : decode cX6_told 66 = .ok (.iconst 0, 1) := by decide +kernel
theorem dX6_told_67 : decode cX6_told 67 = .ok (.istore 4, 2) := by decide +kernel
theorem dX6_told_69 : decode cX6_told 69 = .ok (.iload 4, 2) := by decide +kernel
theorem dX6_told_71 : decode cX6_told 71 = .ok (.aload_n 0, 1) := by decide +kernel
theorem dX6_told_72 : decode cX6_told 72 = .ok (.getfield 26, 3) := by decide +kernel
theorem dX6_told_75 : decode cX6_told 75 = .ok (.getfield 93, 3) := by decide +kernel
theorem dX6_told_78 : decode cX6_told 78 = .ok (.if_icmp .ge 53, 3) := by decide +kernel
theorem dX6_told_81 : decode cX6_told 81 = .ok (.aload_n 0, 1) := by decide +kernel
theorem dX6_told_82 : decode cX6_told 82 = .ok (.getfield 37, 3) := by decide +kernel
theorem dX6_told_85 : decode cX6_told 85 = .ok (.getfield 127, 3) := by decide +kernel
theorem dX6_told_88 : decode cX6_told 88 = .ok (.iload 4, 2) := by decide +kernel
theorem dX6_told_90 : decode cX6_told 90 = .ok (.iaload, 1) := by decide +kernel
theorem dX6_told_91 : decode cX6_told 91 = .ok (.aload_n 0, 1) := by decide +kernel
theorem dX6_told_92 : decode cX6_told 92 = .ok (.getfield 40, 3) := by decide +kernel
theorem dX6_told_95 : decode cX6_told 95 = .ok (.iload 4, 2) := by decide +kernel
theorem dX6_told_97 : decode cX6_told 97 = .ok (.iaload, 1) := by decide +kernel
theorem dX6_told_98 : decode cX6_told 98 = .ok (.isub, 1) := by decide +kernel
theorem dX6_told_99 : decode cX6_told 99 = .ok (.istore 5, 2) := by decide +kernel
theorem dX6_told_101 : decode cX6_told 101 = .ok (.iload_n 2, 1) := by decide +kernel
theorem dX6_told_102 : decode cX6_told 102 = .ok (.ifCond .ne 11, 3) := by decide +kernel
theorem dX6_told_105 : decode cX6_told 105 = .ok (.iload 5, 2) := by decide +kernel
theorem dX6_told_107 : decode cX6_told 107 = .ok (.ifCond .le 18, 3) := by decide +kernel
theorem dX6_told_110 : decode cX6_told 110 = .ok (.goto 8, 3) := by decide +kernel
theorem dX6_told_113 : decode cX6_told 113 = .ok (.iload 5, 2) := by decide +kernel
theorem dX6_told_115 : decode cX6_told 115 = .ok (.ifCond .ge 10, 3) := by decide +kernel
theorem dX6_told_118 : decode cX6_told 118 = .ok (.iload_n 3, 1) := by decide +kernel
theorem dX6_told_119 : decode cX6_told 119 = .ok (.iconst 1, 1) := by decide +kernel
theorem dX6_told_120 : decode cX6_told 120 = .ok (.iload 4, 2) := by decide +kernel
theorem dX6_told_122 : decode cX6_told 122 = .ok (.ishl, 1) := by decide +kernel
theorem dX6_told_123 : decode cX6_told 123 = .ok (.ior, 1) := by decide +kernel
theorem dX6_told_124 : decode cX6_told 124 = .ok (.istore_n 3, 1) := by decide +kernel
theorem dX6_told_125 : decode cX6_told 125 = .ok (.iinc 4 1, 3) := by decide +kernel
theorem dX6_told_128 : decode cX6_told 128 = .ok (.goto (-59), 3) := by decide +kernel
theorem dX6_told_131 : decode cX6_told 131 = .ok (.iload_n 3, 1) := by decide +kernel
theorem dX6_told_132 : decode cX6_told 132 = .ok (.ireturn, 1) := by decide +kernel
set_option maxRecDepth 20000 in
theorem ggX6_whisper_X6_isWithin : GoodIn wsX6_whisper wsX6_isWithin := goodIn_r _ [7] (by decide +kernel) (by decide +kernel)
set_option maxRecDepth 20000 in
theorem gX6_whisper_X6_isWithin : GoodIn wsX6_whisper (va_wsS RX6 58 yX6_isWithin wsX6_isWithin) := goodIn_app (goodIn_of _ (by decide +kernel)) ggX6_whisper_X6_isWithin
set_option maxRecDepth 20000 in
theorem ggX6_whisper_X6_timesByPlan : GoodIn wsX6_whisper wsX6_timesByPlan := goodIn_r _ [11, 12, 1, 2, 13, 14, 15, 16, 17, 18, 19, 20, 21, 22, 23, 24, 25, 26, 27, 28, 29, 30, 31, 32, 33, 34, 35, 36, 37, 38, 39, 40, 41, 42, 43, 44, 45, 46, 47, 48, 49, 50, 51, 52, 53, 54, 55, 56, 57, 58, 59, 60, 61, 62, 63, 64, 65, 66, 67, 68, 69, 70, 71, 72, 73, 74, 75, 76, 77, 78, 79, 80, 81, 90, 91, 92, 93, 94, 95, 96, 97, 98, 99, 100, 101, 102, 103, 104, 105, 106, 107, 108, 109, 110, 111, 112, 113, 114, 115, 116, 117] (by decide +kernel) (by decide +kernel)
set_option maxRecDepth 20000 in
theorem gX6_whisper_X6_timesByPlan : GoodIn wsX6_whisper (wsV RX6 184 RX6 yX6_timesByPlan wsX6_timesByPlan) := goodIn_app (goodIn_of _ (by decide +kernel)) ggX6_whisper_X6_timesByPlan
set_option maxRecDepth 20000 in
theorem ggX6_whisper_X6_timesByRumour : GoodIn wsX6_whisper wsX6_timesByRumour := goodIn_r _ [85, 12, 1, 13, 14, 15, 16, 17, 18, 19, 20, 21, 22, 23, 24, 25, 26, 27, 28, 29, 30, 31, 32, 33, 86, 87, 88, 89, 42, 52, 43, 34, 35, 36, 37, 38, 39, 40, 41, 44, 45, 46, 47, 48, 49, 50, 51, 53, 54, 55, 56, 57, 58, 59, 60, 61, 62, 63, 64, 65, 66, 67, 68, 69, 70, 71, 72, 73, 74, 75, 76, 77, 78, 79, 80, 81, 90, 91, 92, 93, 94, 95, 96, 97, 98, 99, 100, 101, 102, 103, 104, 105, 106, 107, 108, 109, 110, 111, 112, 113, 114, 115, 116, 117] (by decide +kernel) (by decide +kernel)
set_option maxRecDepth 20000 in
theorem gX6_whisper_X6_timesByRumour : GoodIn wsX6_whisper (wsV RX6 215 RX6 yX6_timesByRumour wsX6_timesByRumour) := goodIn_app (goodIn_of _ (by decide +kernel)) ggX6_whisper_X6_timesByRumour
theorem dX6_whisper_0 : decode cX6_whisper 0 = .ok (.iload_n 1, 1) := by decide +kernel
theorem dX6_whisper_1 : decode cX6_whisper 1 = .ok (.iconst 1, 1) := by decide +kernel
theorem dX6_whisper_2 : decode cX6_whisper 2 = .ok (.invokestatic 58, 3) := by decide +kernel
theorem dX6_whisper_5 : decode cX6_whisper 5 = .ok (.ifCond .ne 5, 3) := by decide +kernel
theorem dX6_whisper_8 : decode cX6_whisper 8 = .ok (.iconst (-1), 1) := by decide +kernel
theorem dX6_whisper_9 : decode cX6_whisper 9 = .ok (.ireturn, 1) := by decide +kernel
theorem dX6_whisper_10 : decode cX6_whisper 10 = .ok (.aload_n 0, 1) := by decide +kernel
theorem dX6_whisper_11 : decode cX6_whisper 11 = .ok (.aload_n 0, 1) := by decide +kernel
theorem dX6_whisper_12 : decode cX6_whisper 12 = .ok (.getfield 26, 3) := by decide +kernel
theorem dX6_whisper_15 : decode cX6_whisper 15 = .ok (.getfield 111, 3) := by decide +kernel
theorem dX6_whisper_18 : decode cX6_whisper 18 = .ok (.invokevirtual 184, 3) := by decide +kernel
theorem dX6_whisper_21 : decode cX6_whisper 21 = .ok (.istore_n 2, 1) := by decide +kernel
theorem dX6_whisper_22 : decode cX6_whisper 22 = .ok (.bipush (-4), 2) := by decide +kernel
theorem dX6_whisper_24 : decode cX6_whisper 24 = .ok (.istore_n 3, 1) := by decide +kernel
theorem dX6_whisper_25 : decode cX6_whisper 25 = .ok (.iconst 0, 1) := by decide +kernel
theorem dX6_whisper_26 : decode cX6_whisper 26 = .ok (.istore 4, 2) := by decide +kernel
theorem dX6_whisper_28 : decode cX6_whisper 28 = .ok (.iload 4, 2) := by decide +kernel
theorem dX6_whisper_30 : decode cX6_whisper 30 = .ok (.aload_n 0, 1) := by decide +kernel
theorem dX6_whisper_31 : decode cX6_whisper 31 = .ok (.getfield 26, 3) := by decide +kernel
theorem dX6_whisper_34 : decode cX6_whisper 34 = .ok (.getfield 93, 3) := by decide +kernel
theorem dX6_whisper_37 : decode cX6_whisper 37 = .ok (.if_icmp .ge 29, 3) := by decide +kernel
theorem dX6_whisper_40 : decode cX6_whisper 40 = .ok (.aload_n 0, 1) := by decide +kernel
theorem dX6_whisper_41 : decode cX6_whisper 41 = .ok (.iload 4, 2) := by decide +kernel
theorem dX6_whisper_43 : decode cX6_whisper 43 = .ok (.invokevirtual 215, 3) := by decide +kernel
theorem dX6_whisper_46 : decode cX6_whisper 46 = .ok (.istore 5, 2) := by decide +kernel
theorem dX6_whisper_48 : decode cX6_whisper 48 = .ok (.iload 5, 2) := by decide +kernel
theorem dX6_whisper_50 : decode cX6_whisper 50 = .ok (.iload_n 2, 1) := by decide +kernel
theorem dX6_whisper_51 : decode cX6_whisper 51 = .ok (.if_icmp .ge 9, 3) := by decide +kernel
theorem dX6_whisper_54 : decode cX6_whisper 54 = .ok (.iload 5, 2) := by decide +kernel
theorem dX6_whisper_56 : decode cX6_whisper 56 = .ok (.istore_n 2, 1) := by decide +kernel
theorem dX6_whisper_57 : decode cX6_whisper 57 = .ok (.iload 4, 2) := by decide +kernel
theorem dX6_whisper_59 : decode cX6_whisper 59 = .ok (.istore_n 3, 1) := by decide +kernel
theorem dX6_whisper_60 : decode cX6_whisper 60 = .ok (.iinc 4 1, 3) := by decide +kernel
theorem dX6_whisper_63 : decode cX6_whisper 63 = .ok (.goto (-35), 3) := by decide +kernel
theorem dX6_whisper_66 : decode cX6_whisper 66 = .ok (.iload_n 3, 1) := by decide +kernel
theorem dX6_whisper_67 : decode cX6_whisper 67 = .ok (.bipush (-4), 2) := by decide +kernel
theorem dX6_whisper_69 : decode cX6_whisper 69 = .ok (.if_icmp .eq 7, 3) := by decide +kernel
theorem dX6_whisper_72 : decode cX6_whisper 72 = .ok (.iload_n 1, 1) := by decide +kernel
theorem dX6_whisper_73 : decode cX6_whisper 73 = .ok (.ifCond .ne 7, 3) := by decide +kernel
theorem dX6_whisper_76 : decode cX6_whisper 76 = .ok (.iload_n 3, 1) := by decide +kernel
theorem dX6_whisper_77 : decode cX6_whisper 77 = .ok (.goto 4, 3) := by decide +kernel
theorem dX6_whisper_80 : decode cX6_whisper 80 = .ok (.iload_n 2, 1) := by decide +kernel
