theorem dX1_takeOut_62 : decode cX1_takeOut 62 = .ok (.getfield 18, 3) := by decide +kernel
theorem dX1_takeOut_65 : decode cX1_takeOut 65 = .ok (.iload_n 1, 1) := by decide +kernel
theorem dX1_takeOut_66 : decode cX1_takeOut 66 = .ok (.dup2, 1) := by decide +kernel
theorem dX1_takeOut_67 : decode cX1_takeOut 67 = .ok (.iaload, 1) := by decide +kernel
theorem dX1_takeOut_68 : decode cX1_takeOut 68 = .ok (.iload_n 2, 1) := by decide +kernel
theorem dX1_takeOut_69 : decode cX1_takeOut 69 = .ok (.isub, 1) := by decide +kernel
theorem dX1_takeOut_70 : decode cX1_takeOut 70 = .ok (.iastore, 1) := by decide +kernel
theorem dX1_takeOut_71 : decode cX1_takeOut 71 = .ok (.aload_n 0, 1) := by decide +kernel
theorem dX1_takeOut_72 : decode cX1_takeOut 72 = .ok (.dup, 1) := by decide +kernel
theorem dX1_takeOut_73 : decode cX1_takeOut 73 = .ok (.getfield 31, 3) := by decide +kernel
theorem dX1_takeOut_76 : decode cX1_takeOut 76 = .ok (.iload_n 2, 1) := by decide +kernel
theorem dX1_takeOut_77 : decode cX1_takeOut 77 = .ok (.isub, 1) := by decide +kernel
theorem dX1_takeOut_78 : decode cX1_takeOut 78 = .ok (.putfield 31, 3) := by decide +kernel
theorem dX1_takeOut_81 : decode cX1_takeOut 81 = .ok (.aload_n 0, 1) := by decide +kernel
theorem dX1_takeOut_82 : decode cX1_takeOut 82 = .ok (.getfield 15, 3) := by decide +kernel
theorem dX1_takeOut_85 : decode cX1_takeOut 85 = .ok (.iload_n 1, 1) := by decide +kernel
theorem dX1_takeOut_86 : decode cX1_takeOut 86 = .ok (.dup2, 1) := by decide +kernel
theorem dX1_takeOut_87 : decode cX1_takeOut 87 = .ok (.iaload, 1) := by decide +kernel
theorem dX1_takeOut_88 : decode cX1_takeOut 88 = .ok (.iload_n 2, 1) := by decide +kernel
theorem dX1_takeOut_89 : decode cX1_takeOut 89 = .ok (.iadd, 1) := by decide +kernel
theorem dX1_takeOut_90 : decode cX1_takeOut 90 = .ok (.iastore, 1) := by decide +kernel
theorem dX1_takeOut_91 : decode cX1_takeOut 91 = .ok (.aload_n 0, 1) := by decide +kernel
theorem dX1_takeOut_92 : decode cX1_takeOut 92 = .ok (.getfield 31, 3) := by decide +kernel
theorem dX1_takeOut_95 : decode cX1_takeOut 95 = .ok (.ireturn, 1) := by decide +kernel
theorem dX1_spreadRumour_0 : decode cX1_spreadRumour 0 = .ok (.iconst 0, 1) := by decide +kernel
theorem dX1_spreadRumour_1 : decode cX1_spreadRumour 1 = .ok (.istore_n 3, 1) := by decide +kernel
theorem dX1_spreadRumour_2 : decode cX1_spreadRumour 2 = .ok (.iconst 0, 1) := by decide +kernel
theorem dX1_spreadRumour_3 : decode cX1_spreadRumour 3 = .ok (.istore 4, 2) := by decide +kernel
theorem dX1_spreadRumour_5 : decode cX1_spreadRumour 5 = .ok (.iload 4, 2) := by decide +kernel
theorem dX1_spreadRumour_7 : decode cX1_spreadRumour 7 = .ok (.aload_n 1, 1) := by decide +kernel
theorem dX1_spreadRumour_8 : decode cX1_spreadRumour 8 = .ok (.getfield 70, 3) := by decide +kernel
theorem dX1_spreadRumour_11 : decode cX1_spreadRumour 11 = .ok (.if_icmp .ge 58, 3) := by decide +kernel
theorem dX1_spreadRumour_14 : decode cX1_spreadRumour 14 = .ok (.aload_n 1, 1) := by decide +kernel
theorem dX1_spreadRumour_15 : decode cX1_spreadRumour 15 = .ok (.getfield 57, 3) := by decide +kernel
theorem dX1_spreadRumour_18 : decode cX1_spreadRumour 18 = .ok (.iload 4, 2) := by decide +kernel
theorem dX1_spreadRumour_20 : decode cX1_spreadRumour 20 = .ok (.iaload, 1) := by decide +kernel
theorem dX1_spreadRumour_21 : decode cX1_spreadRumour 21 = .ok (.iload_n 2, 1) := by decide +kernel
theorem dX1_spreadRumour_22 : decode cX1_spreadRumour 22 = .ok (.if_icmp .ne 41, 3) := by decide +kernel
theorem dX1_spreadRumour_25 : decode cX1_spreadRumour 25 = .ok (.aload_n 1, 1) := by decide +kernel
theorem dX1_spreadRumour_26 : decode cX1_spreadRumour 26 = .ok (.getfield 73, 3) := by decide +kernel
theorem dX1_spreadRumour_29 : decode cX1_spreadRumour 29 = .ok (.iload 4, 2) := by decide +kernel
theorem dX1_spreadRumour_31 : decode cX1_spreadRumour 31 = .ok (.iaload, 1) := by decide +kernel
theorem dX1_spreadRumour_32 : decode cX1_spreadRumour 32 = .ok (.aload_n 0, 1) := by decide +kernel
theorem dX1_spreadRumour_33 : decode cX1_spreadRumour 33 = .ok (.getfield 46, 3) := by decide +kernel
theorem dX1_spreadRumour_36 : decode cX1_spreadRumour 36 = .ok (.if_icmp .lt 27, 3) := by decide +kernel
theorem dX1_spreadRumour_39 : decode cX1_spreadRumour 39 = .ok (.aload_n 0, 1) := by decide +kernel
theorem dX1_spreadRumour_40 : decode cX1_spreadRumour 40 = .ok (.getfield 24, 3) := by decide +kernel
theorem dX1_spreadRumour_43 : decode cX1_spreadRumour 43 = .ok (.iload 4, 2) := by decide +kernel
theorem dX1_spreadRumour_45 : decode cX1_spreadRumour 45 = .ok (.iaload, 1) := by decide +kernel
theorem dX1_spreadRumour_46 : decode cX1_spreadRumour 46 = .ok (.bipush 9, 2) := by decide +kernel
theorem dX1_spreadRumour_48 : decode cX1_spreadRumour 48 = .ok (.if_icmp .eq 15, 3) := by decide +kernel
theorem dX1_spreadRumour_51 : decode cX1_spreadRumour 51 = .ok (.aload_n 0, 1) := by decide +kernel
theorem dX1_spreadRumour_52 : decode cX1_spreadRumour 52 = .ok (.getfield 24, 3) := by decide +kernel
theorem dX1_spreadRumour_55 : decode cX1_spreadRumour 55 = .ok (.iload 4, 2) := by decide +kernel
theorem dX1_spreadRumour_57 : decode cX1_spreadRumour 57 = .ok (.bipush 9, 2) := by decide +kernel
theorem dX1_spreadRumour_59 : decode cX1_spreadRumour 59 = .ok (.iastore, 1) := by decide +kernel
theorem dX1_spreadRumour_60 : decode cX1_spreadRumour 60 = .ok (.iinc 3 1, 3) := by decide +kernel
theorem dX1_spreadRumour_63 : decode cX1_spreadRumour 63 = .ok (.iinc 4 1, 3) := by decide +kernel
theorem dX1_spreadRumour_66 : decode cX1_spreadRumour 66 = .ok (.goto (-61), 3) := by decide +kernel
theorem dX1_spreadRumour_69 : decode cX1_spreadRumour 69 = .ok (.iload_n 3, 1) := by decide +kernel
theorem dX1_spreadRumour_70 : decode cX1_spreadRumour 70 = .ok (.ireturn, 1) := by decide +kernel
set_option maxRecDepth 20000 in
theorem ggX1_passWeeks_X1_passWeek : GoodIn wsX1_passWeeks wsX1_passWeek := goodIn_r _ [5, 6, 7, 8, 9, 10, 11, 12, 13, 14, 15, 16, 4, 17, 18, 19, 20, 21, 22, 23, 24, 25, 26, 27, 28, 29, 30, 31, 32, 33, 34, 35, 36, 37, 38, 39, 40, 41, 42, 43, 44, 45, 46, 47, 48, 49, 50, 51, 52, 53, 54, 55, 56, 57, 58, 59, 60, 61, 62, 63, 64, 65, 66, 67, 68, 69, 70, 71, 72, 73, 74, 75] (by decide +kernel) (by decide +kernel)
set_option maxRecDepth 20000 in
theorem gX1_passWeeks_X1_passWeek : GoodIn wsX1_passWeeks (wsV RX1 76 RX1 yX1_passWeek wsX1_passWeek) := goodIn_app (goodIn_of _ (by decide +kernel)) ggX1_passWeeks_X1_passWeek
theorem dX1_passWeeks_0 : decode cX1_passWeeks 0 = .ok (.iconst 0, 1) := by decide +kernel
theorem dX1_passWeeks_1 : decode cX1_passWeeks 1 = .ok (.istore_n 3, 1) := by decide +kernel
theorem dX1_passWeeks_2 : decode cX1_passWeeks 2 = .ok (.iconst 0, 1) := by decide +kernel
theorem dX1_passWeeks_3 : decode cX1_passWeeks 3 = .ok (.istore 4, 2) := by decide +kernel
theorem dX1_passWeeks_5 : decode cX1_passWeeks 5 = .ok (.iload 4, 2) := by decide +kernel
theorem dX1_passWeeks_7 : decode cX1_passWeeks 7 = .ok (.iload_n 2, 1) := by decide +kernel
theorem dX1_passWeeks_8 : decode cX1_passWeeks 8 = .ok (.if_icmp .ge 17, 3) := by decide +kernel
theorem dX1_passWeeks_11 : decode cX1_passWeeks 11 = .ok (.iload_n 3, 1) := by decide +kernel
theorem dX1_passWeeks_12 : decode cX1_passWeeks 12 = .ok (.aload_n 0, 1) := by decide +kernel
theorem dX1_passWeeks_13 : decode cX1_passWeeks 13 = .ok (.aload_n 1, 1) := by decide +kernel
theorem dX1_passWeeks_14 : decode cX1_passWeeks 14 = .ok (.invokevirtual 76, 3) := by decide +kernel
theorem dX1_passWeeks_17 : decode cX1_passWeeks 17 = .ok (.iadd, 1) := by decide +kernel
theorem dX1_passWeeks_18 : decode cX1_passWeeks 18 = .ok (.istore_n 3, 1) := by decide +kernel
theorem dX1_passWeeks_19 : decode cX1_passWeeks 19 = .ok (.iinc 4 1, 3) := by decide +kernel
theorem dX1_passWeeks_22 : decode cX1_passWeeks 22 = .ok (.goto (-17), 3) := by decide +kernel
theorem dX1_passWeeks_25 : decode cX1_passWeeks 25 = .ok (.iload_n 3, 1) := by decide +kernel
theorem dX1_passWeeks_26 : decode cX1_passWeeks 26 = .ok (.ireturn, 1) := by decide +kernel
set_option maxRecDepth 20000 in
theorem ggX1_passToLastWeek_X1_passWeek : GoodIn wsX1_passToLastWeek wsX1_passWeek := goodIn_r _ [6, 7, 8, 9, 1, 10, 11, 12, 13, 14, 15, 16, 5, 17, 18, 19, 20, 21, 22, 23, 24, 25, 26, 27, 28, 29, 30, 31, 32, 33, 34, 35, 36, 37, 38, 39, 40, 41, 42, 43, 44, 45, 46, 47, 48, 49, 50, 51, 52, 53, 54, 55, 56, 57, 58, 59, 60, 61, 62, 63, 64, 65, 66, 67, 68, 69, 70, 71, 72, 73, 74, 75] (by decide +kernel) (by decide +kernel)
set_option maxRecDepth 20000 in
theorem gX1_passToLastWeek_X1_passWeek : GoodIn wsX1_passToLastWeek (wsV RX1 76 RX1 yX1_passWeek wsX1_passWeek) := goodIn_app (goodIn_of _ (by decide +kernel)) ggX1_passToLastWeek_X1_passWeek
theorem dX1_passToLastWeek_0 : decode cX1_passToLastWeek 0 = .ok (.iconst 0, 1) := by decide +kernel
theorem dX1_passToLastWeek_1 : decode cX1_passToLastWeek 1 = .ok (.istore_n 2, 1) := by decide +kernel
theorem dX1_passToLastWeek_2 : decode cX1_passToLastWeek 2 = .ok (.aload_n 0, 1) := by decide +kernel
theorem dX1_passToLastWeek_3 : decode cX1_passToLastWeek 3 = .ok (.getfield 46, 3) := by decide +kernel
theorem dX1_passToLastWeek_6 : decode cX1_passToLastWeek 6 = .ok (.istore_n 3, 1) := by decide +kernel
theorem dX1_passToLastWeek_7 : decode cX1_passToLastWeek 7 = .ok (.iload_n 3, 1) := by decide +kernel
theorem dX1_passToLastWeek_8 : decode cX1_passToLastWeek 8 = .ok (.bipush 9, 2) := by decide +kernel
theorem dX1_passToLastWeek_10 : decode cX1_passToLastWeek 10 = .ok (.if_icmp .gt 17, 3) := by decide +kernel
theorem dX1_passToLastWeek_13 : decode cX1_passToLastWeek 13 = .ok (.iload_n 2, 1) := by decide +kernel
theorem dX1_passToLastWeek_14 : decode cX1_passToLastWeek 14 = .ok (.aload_n 0, 1) := by decide +kernel
theorem dX1_passToLastWeek_15 : decode cX1_passToLastWeek 15 = .ok (.aload_n 1, 1) := by decide +kernel
theorem dX1_passToLastWeek_16 : decode cX1_passToLastWeek 16 = .ok (.invokevirtual 76, 3) := by decide +kernel
theorem dX1_passToLastWeek_19 : decode cX1_passToLastWeek 19 = .ok (.iadd, 1) := by decide +kernel
theorem dX1_passToLastWeek_20 : decode cX1_passToLastWeek 20 = .ok (.istore_n 2, 1) := by decide +kernel
theorem dX1_passToLastWeek_21 : decode cX1_passToLastWeek 21 = .ok (.iinc 3 1, 3) := by decide +kernel
theorem dX1_passToLastWeek_24 : decode cX1_passToLastWeek 24 = .ok (.goto (-17), 3) := by decide +kernel
theorem dX1_passToLastWeek_27 : decode cX1_passToLastWeek 27 = .ok (.iload_n 2, 1) := by decide +kernel
theorem dX1_passToLastWeek_28 : decode cX1_passToLastWeek 28 = .ok (.ireturn, 1) := by decide +kernel
set_option maxRecDepth 20000 in
theorem ggX1_passWeek_X1_befall : GoodIn wsX1_passWeek wsX1_befall := goodIn_r _ [13, 14, 15, 16, 17, 12, 18, 19, 20, 21, 22, 23, 24, 25, 26, 27, 28, 29, 30, 31, 32, 33, 34, 35, 36, 37, 38, 39, 40, 64, 65, 66, 67, 68, 69, 70, 71, 53, 54, 55, 56, 57, 58, 59, 60, 61, 62, 63] (by decide +kernel) (by decide +kernel)
set_option maxRecDepth 20000 in
theorem gX1_passWeek_X1_befall : GoodIn wsX1_passWeek (wsV RX1 80 RX1 yX1_befall wsX1_befall) := goodIn_app (goodIn_of _ (by decide +kernel)) ggX1_passWeek_X1_befall
set_option maxRecDepth 20000 in
theorem ggX1_passWeek_X1_meets : GoodIn wsX1_passWeek wsX1_meets := goodIn_r _ [44, 40, 32, 33, 34, 35, 31, 45, 21, 46, 1, 53, 54, 55, 56, 57, 58, 59, 60, 61, 62, 63] (by decide +kernel) (by decide +kernel)
set_option maxRecDepth 20000 in
theorem gX1_passWeek_X1_meets : GoodIn wsX1_passWeek (wsV RX1 96 RX1 yX1_meets wsX1_meets) := goodIn_app (goodIn_of _ (by decide +kernel)) ggX1_passWeek_X1_meets
set_option maxRecDepth 20000 in
theorem ggX1_passWeek_X1_closeWeek : GoodIn wsX1_passWeek wsX1_closeWeek := goodIn_r _ [50, 51, 40, 31, 52, 45, 32, 33, 34, 35, 4, 27, 28, 29, 12, 30, 53, 54, 55, 56, 57, 58, 59, 60, 61, 62, 63] (by decide +kernel) (by decide +kernel)
set_option maxRecDepth 20000 in
theorem gX1_passWeek_X1_closeWeek : GoodIn wsX1_passWeek (wsV RX1 99 RX1 yX1_closeWeek wsX1_closeWeek) := goodIn_app (goodIn_of _ (by decide +kernel)) ggX1_passWeek_X1_closeWeek
theorem dX1_passWeek_0 : decode cX1_passWeek 0 = .ok (.aload_n 0, 1) := by decide +kernel
theorem dX1_passWeek_1 : decode cX1_passWeek 1 = .ok (.iconst 0, 1) := by decide +kernel
theorem dX1_passWeek_2 : decode cX1_passWeek 2 = .ok (.putfield 49, 3) := by decide +kernel
theorem dX1_passWeek_5 : decode cX1_passWeek 5 = .ok (.iconst 0, 1) := by decide +kernel
theorem dX1_passWeek_6 : decode cX1_passWeek 6 = .ok (.istore_n 2, 1) := by decide +kernel
theorem dX1_passWeek_7 : decode cX1_passWeek 7 = .ok (.iload_n 2, 1) := by decide +kernel
theorem dX1_passWeek_8 : decode cX1_passWeek 8 = .ok (.aload_n 1, 1) := by decide +kernel
theorem dX1_passWeek_9 : decode cX1_passWeek 9 = .ok (.getfield 70, 3) := by decide +kernel
theorem dX1_passWeek_12 : decode cX1_passWeek 12 = .ok (.if_icmp .ge 28, 3) := by decide +kernel
theorem dX1_passWeek_15 : decode cX1_passWeek 15 = .ok (.aload_n 1, 1) := by decide +kernel
theorem dX1_passWeek_16 : decode cX1_passWeek 16 = .ok (.getfield 73, 3) := by decide +kernel
theorem dX1_passWeek_19 : decode cX1_passWeek 19 = .ok (.iload_n 2, 1) := by decide +kernel
theorem dX1_passWeek_20 : decode cX1_passWeek 20 = .ok (.iaload, 1) := by decide +kernel
theorem dX1_passWeek_21 : decode cX1_passWeek 21 = .ok (.aload_n 0, 1) := by decide +kernel
theorem dX1_passWeek_22 : decode cX1_passWeek 22 = .ok (.getfield 46, 3) := by decide +kernel
theorem dX1_passWeek_25 : decode cX1_passWeek 25 = .ok (.if_icmp .ne 9, 3) := by decide +kernel
theorem dX1_passWeek_28 : decode cX1_passWeek 28 = .ok (.aload_n 0, 1) := by decide +kernel
theorem dX1_passWeek_29 : decode cX1_passWeek 29 = .ok (.aload_n 1, 1) := by decide +kernel
theorem dX1_passWeek_30 : decode cX1_passWeek 30 = .ok (.iload_n 2, 1) := by decide +kernel
theorem dX1_passWeek_31 : decode cX1_passWeek 31 = .ok (.invokevirtual 80, 3) := by decide +kernel
theorem dX1_passWeek_34 : decode cX1_passWeek 34 = .ok (.iinc 2 1, 3) := by decide +kernel
theorem dX1_passWeek_37 : decode cX1_passWeek 37 = .ok (.goto (-30), 3) := by decide +kernel
theorem dX1_passWeek_40 : decode cX1_passWeek 40 = .ok (.iconst 0, 1) := by decide +kernel
theorem dX1_passWeek_41 : decode cX1_passWeek 41 = .ok (.istore_n 2, 1) := by decide +kernel
theorem dX1_passWeek_42 : decode cX1_passWeek 42 = .ok (.iconst 0, 1) := by decide +kernel
theorem dX1_passWeek_43 : decode cX1_passWeek 43 = .ok (.istore_n 3, 1) := by decide +kernel
theorem dX1_passWeek_44 : decode cX1_passWeek 44 = .ok (.iload_n 3, 1) := by decide +kernel
theorem dX1_passWeek_45 : decode cX1_passWeek 45 = .ok (.aload_n 1, 1) := by decide +kernel
theorem dX1_passWeek_46 : decode cX1_passWeek 46 = .ok (.getfield 84, 3) := by decide +kernel
theorem dX1_passWeek_49 : decode cX1_passWeek 49 = .ok (.if_icmp .ge 44, 3) := by decide +kernel
theorem dX1_passWeek_52 : decode cX1_passWeek 52 = .ok (.aload_n 1, 1) := by decide +kernel
theorem dX1_passWeek_53 : decode cX1_passWeek 53 = .ok (.getfield 87, 3) := by decide +kernel
theorem dX1_passWeek_56 : decode cX1_passWeek 56 = .ok (.iload_n 3, 1) := by decide +kernel
theorem dX1_passWeek_57 : decode cX1_passWeek 57 = .ok (.iaload, 1) := by decide +kernel
theorem dX1_passWeek_58 : decode cX1_passWeek 58 = .ok (.aload_n 0, 1) := by decide +kernel
theorem dX1_passWeek_59 : decode cX1_passWeek 59 = .ok (.getfield 46, 3) := by decide +kernel
theorem dX1_passWeek_62 : decode cX1_passWeek 62 = .ok (.if_icmp .ne 25, 3) := by decide +kernel
theorem dX1_passWeek_65 : decode cX1_passWeek 65 = .ok (.aload_n 0, 1) := by decide +kernel
theorem dX1_passWeek_66 : decode cX1_passWeek 66 = .ok (.aload_n 1, 1) := by decide +kernel
theorem dX1_passWeek_67 : decode cX1_passWeek 67 = .ok (.getfield 90, 3) := by decide +kernel
theorem dX1_passWeek_70 : decode cX1_passWeek 70 = .ok (.iload_n 3, 1) := by decide +kernel
theorem dX1_passWeek_71 : decode cX1_passWeek 71 = .ok (.iaload, 1) := by decide +kernel
theorem dX1_passWeek_72 : decode cX1_passWeek 72 = .ok (.aload_n 1, 1) := by decide +kernel
theorem dX1_passWeek_73 : decode cX1_passWeek 73 = .ok (.getfield 93, 3) := by decide +kernel
theorem dX1_passWeek_76 : decode cX1_passWeek 76 = .ok (.iload_n 3, 1) := by decide +kernel
theorem dX1_passWeek_77 : decode cX1_passWeek 77 = .ok (.iaload, 1) := by decide +kernel
theorem dX1_passWeek_78 : decode cX1_passWeek 78 = .ok (.invokevirtual 96, 3) := by decide +kernel
theorem dX1_passWeek_81 : decode cX1_passWeek 81 = .ok (.ifCond .ne 6, 3) := by decide +kernel
theorem dX1_passWeek_84 : decode cX1_passWeek 84 = .ok (.iinc 2 1, 3) := by decide +kernel
theorem dX1_passWeek_87 : decode cX1_passWeek 87 = .ok (.iinc 3 1, 3) := by decide +kernel
theorem dX1_passWeek_90 : decode cX1_passWeek 90 = .ok (.goto (-46), 3) := by decide +kernel
theorem dX1_passWeek_93 : decode cX1_passWeek 93 = .ok (.aload_n 0, 1) := by decide +kernel
theorem dX1_passWeek_94 : decode cX1_passWeek 94 = .ok (.invokevirtual 99, 3) := by decide +kernel
theorem dX1_passWeek_97 : decode cX1_passWeek 97 = .ok (.iload_n 2, 1) := by decide +kernel
theorem dX1_passWeek_98 : decode cX1_passWeek 98 = .ok (.ireturn, 1) := by decide +kernel
set_option maxRecDepth 20000 in
theorem ggX1_befall_X1_blushOf : GoodIn wsX1_befall wsX1_blushOf := goodIn_r _ [6, 7, 8, 9, 1, 29, 30, 31, 32, 33, 34, 35, 36, 37, 38, 39, 40, 41, 42, 43, 44, 45, 46, 47] (by decide +kernel) (by decide +kernel)
set_option maxRecDepth 20000 in
theorem gX1_befall_X1_blushOf : GoodIn wsX1_befall (wsV RX1 102 RX1 yX1_blushOf wsX1_blushOf) := goodIn_app (goodIn_of _ (by decide +kernel)) ggX1_befall_X1_blushOf
set_option maxRecDepth 20000 in
theorem ggX1_befall_X1_isDeposited : GoodIn wsX1_befall wsX1_isDeposited := goodIn_r _ [13, 14, 37, 38, 39, 40, 41, 42, 43, 44, 45, 46, 47] (by decide +kernel) (by decide +kernel)
set_option maxRecDepth 20000 in
theorem gX1_befall_X1_isDeposited : GoodIn wsX1_befall (wsV RX1 106 RX1 yX1_isDeposited wsX1_isDeposited) := goodIn_app (goodIn_of _ (by decide +kernel)) ggX1_befall_X1_isDeposited
set_option maxRecDepth 20000 in
theorem ggX1_befall_X1_putAtBank : GoodIn wsX1_befall wsX1_putAtBank := goodIn_r _ [18, 19, 20, 21, 22, 23, 37, 38, 39, 40, 41, 42, 43, 44, 45, 46, 47] (by decide +kernel) (by decide +kernel)
set_option maxRecDepth 20000 in
theorem gX1_befall_X1_putAtBank : GoodIn wsX1_befall (wsV RX1 110 RX1 yX1_putAtBank wsX1_putAtBank) := goodIn_app (goodIn_of _ (by decide +kernel)) ggX1_befall_X1_putAtBank
set_option maxRecDepth 20000 in
theorem ggX1_befall_X1_putInHand : GoodIn wsX1_befall wsX1_putInHand := goodIn_r _ [27, 28, 20, 21, 22, 23, 37, 38, 39, 40, 41, 42, 43, 44, 45, 46, 47] (by decide +kernel) (by decide +kernel)
set_option maxRecDepth 20000 in
theorem gX1_befall_X1_putInHand : GoodIn wsX1_befall (wsV RX1 114 RX1 yX1_putInHand wsX1_putInHand) := goodIn_app (goodIn_of _ (by decide +kernel)) ggX1_befall_X1_putInHand
theorem dX1_befall_0 : decode cX1_befall 0 = .ok (.aload_n 0, 1) := by decide +kernel
theorem dX1_befall_1 : decode cX1_befall 1 = .ok (.aload_n 1, 1) := by decide +kernel
theorem dX1_befall_2 : decode cX1_befall 2 = .ok (.iload_n 2, 1) := by decide +kernel
theorem dX1_befall_3 : decode cX1_befall 3 = .ok (.invokevirtual 102, 3) := by decide +kernel
theorem dX1_befall_6 : decode cX1_befall 6 = .ok (.istore_n 3, 1) := by decide +kernel
theorem dX1_befall_7 : decode cX1_befall 7 = .ok (.aload_n 0, 1) := by decide +kernel
theorem dX1_befall_8 : decode cX1_befall 8 = .ok (.iload_n 2, 1) := by decide +kernel
theorem dX1_befall_9 : decode cX1_befall 9 = .ok (.invokevirtual 106, 3) := by decide +kernel
theorem dX1_befall_12 : decode cX1_befall 12 = .ok (.ifCond .eq 17, 3) := by decide +kernel
theorem dX1_befall_15 : decode cX1_befall 15 = .ok (.aload_n 0, 1) := by decide +kernel
theorem dX1_befall_16 : decode cX1_befall 16 = .ok (.aload_n 1, 1) := by decide +kernel
theorem dX1_befall_17 : decode cX1_befall 17 = .ok (.getfield 57, 3) := by decide +kernel
theorem dX1_befall_20 : decode cX1_befall 20 = .ok (.iload_n 2, 1) := by decide +kernel
theorem dX1_befall_21 : decode cX1_befall 21 = .ok (.iaload, 1) := by decide +kernel
theorem dX1_befall_22 : decode cX1_befall 22 = .ok (.iload_n 3, 1) := by decide +kernel
theorem dX1_befall_23 : decode cX1_befall 23 = .ok (.invokevirtual 110, 3) := by decide +kernel
theorem dX1_befall_26 : decode cX1_befall 26 = .ok (.goto 14, 3) := by decide +kernel
theorem dX1_befall_29 : decode cX1_befall 29 = .ok (.aload_n 0, 1) := by decide +kernel
theorem dX1_befall_30 : decode cX1_befall 30 = .ok (.aload_n 1, 1) := by decide +kernel
theorem dX1_befall_31 : decode cX1_befall 31 = .ok (.getfield 57, 3) := by decide +kernel
theorem dX1_befall_34 : decode cX1_befall 34 = .ok (.iload_n 2, 1) := by decide +kernel
theorem dX1_befall_35 : decode cX1_befall 35 = .ok (.iaload, 1) := by decide +kernel
theorem dX1_befall_36 : decode cX1_befall 36 = .ok (.iload_n 3, 1) := by decide +kernel
theorem dX1_befall_37 : decode cX1_befall 37 = .ok (.invokevirtual 114, 3) := by decide +kernel
theorem dX1_befall_40 : decode cX1_befall 40 = .ok (.return_, 1) := by decide +kernel
theorem dX1_meets_0 : decode cX1_meets 0 = .ok (.aload_n 0, 1) := by decide +kernel
theorem dX1_meets_1 : decode cX1_meets 1 = .ok (.getfield 15, 3) := by decide +kernel
theorem dX1_meets_4 : decode cX1_meets 4 = .ok (.iload_n 1, 1) := by decide +kernel
theorem dX1_meets_5 : decode cX1_meets 5 = .ok (.iaload, 1) := by decide +kernel
theorem dX1_meets_6 : decode cX1_meets 6 = .ok (.iload_n 2, 1) := by decide +kernel
theorem dX1_meets_7 : decode cX1_meets 7 = .ok (.invokestatic 60, 3) := by decide +kernel
theorem dX1_meets_10 : decode cX1_meets 10 = .ok (.istore_n 3, 1) := by decide +kernel
theorem dX1_meets_11 : decode cX1_meets 11 = .ok (.iload_n 2, 1) := by decide +kernel
theorem dX1_meets_12 : decode cX1_meets 12 = .ok (.iload_n 3, 1) := by decide +kernel
theorem dX1_meets_13 : decode cX1_meets 13 = .ok (.isub, 1) := by decide +kernel
theorem dX1_meets_14 : decode cX1_meets 14 = .ok (.aload_n 0, 1) := by decide +kernel
theorem dX1_meets_15 : decode cX1_meets 15 = .ok (.getfield 18, 3) := by decide +kernel
theorem dX1_meets_18 : decode cX1_meets 18 = .ok (.iload_n 1, 1) := by decide +kernel
theorem dX1_meets_19 : decode cX1_meets 19 = .ok (.iaload, 1) := by decide +kernel
theorem dX1_meets_20 : decode cX1_meets 20 = .ok (.aload_n 0, 1) := by decide +kernel
theorem dX1_meets_21 : decode cX1_meets 21 = .ok (.getfield 31, 3) := by decide +kernel
theorem dX1_meets_24 : decode cX1_meets 24 = .ok (.invokestatic 60, 3) := by decide +kernel
theorem dX1_meets_27 : decode cX1_meets 27 = .ok (.invokestatic 60, 3) := by decide +kernel
theorem dX1_meets_30 : decode cX1_meets 30 = .ok (.istore 4, 2) := by decide +kernel
theorem dX1_meets_32 : decode cX1_meets 32 = .ok (.iload_n 2, 1) := by decide +kernel
theorem dX1_meets_33 : decode cX1_meets 33 = .ok (.iload_n 3, 1) := by decide +kernel
theorem dX1_meets_34 : decode cX1_meets 34 = .ok (.isub, 1) := by decide +kernel
theorem dX1_meets_35 : decode cX1_meets 35 = .ok (.iload 4, 2) := by decide +kernel
theorem dX1_meets_37 : decode cX1_meets 37 = .ok (.isub, 1) := by decide +kernel
theorem dX1_meets_38 : decode cX1_meets 38 = .ok (.istore 5, 2) := by decide +kernel
theorem dX1_meets_40 : decode cX1_meets 40 = .ok (.iconst 0, 1) := by decide +kernel
theorem dX1_meets_41 : decode cX1_meets 41 = .ok (.istore 6, 2) := by decide +kernel
theorem dX1_meets_43 : decode cX1_meets 43 = .ok (.aload_n 0, 1) := by decide +kernel
theorem dX1_meets_44 : decode cX1_meets 44 = .ok (.getfield 9, 3) := by decide +kernel
theorem dX1_meets_47 : decode cX1_meets 47 = .ok (.iload_n 1, 1) := by decide +kernel
theorem dX1_meets_48 : decode cX1_meets 48 = .ok (.iaload, 1) := by decide +kernel
theorem dX1_meets_49 : decode cX1_meets 49 = .ok (.iconst 2, 1) := by decide +kernel
theorem dX1_meets_50 : decode cX1_meets 50 = .ok (.if_icmp .ne 28, 3) := by decide +kernel
theorem dX1_meets_53 : decode cX1_meets 53 = .ok (.aload_n 0, 1) := by decide +kernel
theorem dX1_meets_54 : decode cX1_meets 54 = .ok (.getfield 18, 3) := by decide +kernel
theorem dX1_meets_57 : decode cX1_meets 57 = .ok (.iload_n 1, 1) := by decide +kernel
theorem dX1_meets_58 : decode cX1_meets 58 = .ok (.iaload, 1) := by decide +kernel
theorem dX1_meets_59 : decode cX1_meets 59 = .ok (.iload 4, 2) := by decide +kernel
theorem dX1_meets_61 : decode cX1_meets 61 = .ok (.if_icmp .ne 17, 3) := by decide +kernel
theorem dX1_meets_64 : decode cX1_meets 64 = .ok (.iload 5, 2) := by decide +kernel
theorem dX1_meets_66 : decode cX1_meets 66 = .ok (.aload_n 0, 1) := by decide +kernel
theorem dX1_meets_67 : decode cX1_meets 67 = .ok (.getfield 31, 3) := by decide +kernel
theorem dX1_meets_70 : decode cX1_meets 70 = .ok (.iload 4, 2) := by decide +kernel
theorem dX1_meets_72 : decode cX1_meets 72 = .ok (.isub, 1) := by decide +kernel
theorem dX1_meets_73 : decode cX1_meets 73 = .ok (.invokestatic 60, 3) := by decide +kernel
theorem dX1_meets_76 : decode cX1_meets 76 = .ok (.istore 6, 2) := by decide +kernel
theorem dX1_meets_78 : decode cX1_meets 78 = .ok (.iload 6, 2) := by decide +kernel
theorem dX1_meets_80 : decode cX1_meets 80 = .ok (.iload 5, 2) := by decide +kernel
theorem dX1_meets_82 : decode cX1_meets 82 = .ok (.if_icmp .ge 27, 3) := by decide +kernel
theorem dX1_meets_85 : decode cX1_meets 85 = .ok (.aload_n 0, 1) := by decide +kernel
theorem dX1_meets_86 : decode cX1_meets 86 = .ok (.getfield 21, 3) := by decide +kernel
theorem dX1_meets_89 : decode cX1_meets 89 = .ok (.iload_n 1, 1) := by decide +kernel
theorem dX1_meets_90 : decode cX1_meets 90 = .ok (.dup2, 1) := by decide +kernel
theorem dX1_meets_91 : decode cX1_meets 91 = .ok (.iaload, 1) := by decide +kernel
theorem dX1_meets_92 : decode cX1_meets 92 = .ok (.iconst 1, 1) := by decide +kernel
theorem dX1_meets_93 : decode cX1_meets 93 = .ok (.iadd, 1) := by decide +kernel
theorem dX1_meets_94 : decode cX1_meets 94 = .ok (.iastore, 1) := by decide +kernel
theorem dX1_meets_95 : decode cX1_meets 95 = .ok (.aload_n 0, 1) := by decide +kernel
theorem dX1_meets_96 : decode cX1_meets 96 = .ok (.dup, 1) := by decide +kernel
theorem dX1_meets_97 : decode cX1_meets 97 = .ok (.getfield 49, 3) := by decide +kernel
theorem dX1_meets_100 : decode cX1_meets 100 = .ok (.iconst 1, 1) := by decide +kernel
theorem dX1_meets_101 : decode cX1_meets 101 = .ok (.iload_n 1, 1) := by decide +kernel
theorem dX1_meets_102 : decode cX1_meets 102 = .ok (.ishl, 1) := by decide +kernel
theorem dX1_meets_103 : decode cX1_meets 103 = .ok (.ior, 1) := by decide +kernel
theorem dX1_meets_104 : decode cX1_meets 104 = .ok (.putfield 49, 3) := by decide +kernel
theorem dX1_meets_107 : decode cX1_meets 107 = .ok (.iconst 0, 1) := by decide +kernel
theorem dX1_meets_108 : decode cX1_meets 108 = .ok (.ireturn, 1) := by decide +kernel
theorem dX1_meets_109 : decode cX1_meets 109 = .ok (.aload_n 0, 1) := by decide +kernel
theorem dX1_meets_110 : decode cX1_meets 110 = .ok (.getfield 15, 3) := by decide +kernel
theorem dX1_meets_113 : decode cX1_meets 113 = .ok (.iload_n 1, 1) := by decide +kernel
theorem dX1_meets_114 : decode cX1_meets 114 = .ok (.dup2, 1) := by decide +kernel
theorem dX1_meets_115 : decode cX1_meets 115 = .ok (.iaload, 1) := by decide +kernel
theorem dX1_meets_116 : decode cX1_meets 116 = .ok (.iload_n 3, 1) := by decide +kernel
theorem dX1_meets_117 : decode cX1_meets 117 = .ok (.isub, 1) := by decide +kernel
theorem dX1_meets_118 : decode cX1_meets 118 = .ok (.iastore, 1) := by decide +kernel
theorem dX1_meets_119 : decode cX1_meets 119 = .ok (.aload_n 0, 1) := by decide +kernel
theorem dX1_meets_120 : decode cX1_meets 120 = .ok (.getfield 18, 3) := by decide +kernel
theorem dX1_meets_123 : decode cX1_meets 123 = .ok (.iload_n 1, 1) := by decide +kernel
theorem dX1_meets_124 : decode cX1_meets 124 = .ok (.dup2, 1) := by decide +kernel
theorem dX1_meets_125 : decode cX1_meets 125 = .ok (.iaload, 1) := by decide +kernel
theorem dX1_meets_126 : decode cX1_meets 126 = .ok (.iload 4, 2) := by decide +kernel
theorem dX1_meets_128 : decode cX1_meets 128 = .ok (.isub, 1) := by decide +kernel
theorem dX1_meets_129 : decode cX1_meets 129 = .ok (.iastore, 1) := by decide +kernel
theorem dX1_meets_130 : decode cX1_meets 130 = .ok (.aload_n 0, 1) := by decide +kernel
theorem dX1_meets_131 : decode cX1_meets 131 = .ok (.dup, 1) := by decide +kernel
theorem dX1_meets_132 : decode cX1_meets 132 = .ok (.getfield 31, 3) := by decide +kernel
theorem dX1_meets_135 : decode cX1_meets 135 = .ok (.iload 4, 2) := by decide +kernel
theorem dX1_meets_137 : decode cX1_meets 137 = .ok (.iload 6, 2) := by decide +kernel
theorem dX1_meets_139 : decode cX1_meets 139 = .ok (.iadd, 1) := by decide +kernel
theorem dX1_meets_140 : decode cX1_meets 140 = .ok (.isub, 1) := by decide +kernel
theorem dX1_meets_141 : decode cX1_meets 141 = .ok (.putfield 31, 3) := by decide +kernel
theorem dX1_meets_144 : decode cX1_meets 144 = .ok (.iconst 1, 1) := by decide +kernel
theorem dX1_meets_145 : decode cX1_meets 145 = .ok (.ireturn, 1) := by decide +kernel
set_option maxRecDepth 20000 in
theorem ggX1_closeWeek_X1_putAtBank : GoodIn wsX1_closeWeek wsX1_putAtBank := goodIn_r _ [15, 3, 6, 7, 8, 9, 16, 17, 18, 19, 20, 21, 22, 23, 24, 25, 26] (by decide +kernel) (by decide +kernel)
set_option maxRecDepth 20000 in
theorem gX1_closeWeek_X1_putAtBank : GoodIn wsX1_closeWeek (wsV RX1 110 RX1 yX1_putAtBank wsX1_putAtBank) := goodIn_app (goodIn_of _ (by decide +kernel)) ggX1_closeWeek_X1_putAtBank
theorem dX1_closeWeek_0 : decode cX1_closeWeek 0 = .ok (.iconst 0, 1) := by decide +kernel
theorem dX1_closeWeek_1 : decode cX1_closeWeek 1 = .ok (.istore_n 1, 1) := by decide +kernel
theorem dX1_closeWeek_2 : decode cX1_closeWeek 2 = .ok (.iload_n 1, 1) := by decide +kernel
theorem dX1_closeWeek_3 : decode cX1_closeWeek 3 = .ok (.aload_n 0, 1) := by decide +kernel
theorem dX1_closeWeek_4 : decode cX1_closeWeek 4 = .ok (.getfield 34, 3) := by decide +kernel
theorem dX1_closeWeek_7 : decode cX1_closeWeek 7 = .ok (.if_icmp .ge 49, 3) := by decide +kernel
theorem dX1_closeWeek_10 : decode cX1_closeWeek 10 = .ok (.aload_n 0, 1) := by decide +kernel
theorem dX1_closeWeek_11 : decode cX1_closeWeek 11 = .ok (.getfield 15, 3) := by decide +kernel
theorem dX1_closeWeek_14 : decode cX1_closeWeek 14 = .ok (.iload_n 1, 1) := by decide +kernel
theorem dX1_closeWeek_15 : decode cX1_closeWeek 15 = .ok (.dup2, 1) := by decide +kernel
theorem dX1_closeWeek_16 : decode cX1_closeWeek 16 = .ok (.iaload, 1) := by decide +kernel
theorem dX1_closeWeek_17 : decode cX1_closeWeek 17 = .ok (.aload_n 0, 1) := by decide +kernel
theorem dX1_closeWeek_18 : decode cX1_closeWeek 18 = .ok (.getfield 15, 3) := by decide +kernel
theorem dX1_closeWeek_21 : decode cX1_closeWeek 21 = .ok (.iload_n 1, 1) := by decide +kernel
theorem dX1_closeWeek_22 : decode cX1_closeWeek 22 = .ok (.iaload, 1) := by decide +kernel
theorem dX1_closeWeek_23 : decode cX1_closeWeek 23 = .ok (.bipush 9, 2) := by decide +kernel
theorem dX1_closeWeek_25 : decode cX1_closeWeek 25 = .ok (.iadd, 1) := by decide +kernel
theorem dX1_closeWeek_26 : decode cX1_closeWeek 26 = .ok (.bipush 10, 2) := by decide +kernel
theorem dX1_closeWeek_28 : decode cX1_closeWeek 28 = .ok (.idiv, 1) := by decide +kernel
theorem dX1_closeWeek_29 : decode cX1_closeWeek 29 = .ok (.isub, 1) := by decide +kernel
theorem dX1_closeWeek_30 : decode cX1_closeWeek 30 = .ok (.iastore, 1) := by decide +kernel
theorem dX1_closeWeek_31 : decode cX1_closeWeek 31 = .ok (.aload_n 0, 1) := by decide +kernel
theorem dX1_closeWeek_32 : decode cX1_closeWeek 32 = .ok (.iload_n 1, 1) := by decide +kernel
theorem dX1_closeWeek_33 : decode cX1_closeWeek 33 = .ok (.aload_n 0, 1) := by decide +kernel
theorem dX1_closeWeek_34 : decode cX1_closeWeek 34 = .ok (.getfield 18, 3) := by decide +kernel
theorem dX1_closeWeek_37 : decode cX1_closeWeek 37 = .ok (.iload_n 1, 1) := by decide +kernel
theorem dX1_closeWeek_38 : decode cX1_closeWeek 38 = .ok (.iaload, 1) := by decide +kernel
theorem dX1_closeWeek_39 : decode cX1_closeWeek 39 = .ok (.aload_n 0, 1) := by decide +kernel
theorem dX1_closeWeek_40 : decode cX1_closeWeek 40 = .ok (.getfield 27, 3) := by decide +kernel
theorem dX1_closeWeek_43 : decode cX1_closeWeek 43 = .ok (.imul, 1) := by decide +kernel
theorem dX1_closeWeek_44 : decode cX1_closeWeek 44 = .ok (.bipush 10, 2) := by decide +kernel
theorem dX1_closeWeek_46 : decode cX1_closeWeek 46 = .ok (.idiv, 1) := by decide +kernel
theorem dX1_closeWeek_47 : decode cX1_closeWeek 47 = .ok (.invokevirtual 110, 3) := by decide +kernel
theorem dX1_closeWeek_50 : decode cX1_closeWeek 50 = .ok (.iinc 1 1, 3) := by decide +kernel
theorem dX1_closeWeek_53 : decode cX1_closeWeek 53 = .ok (.goto (-51), 3) := by decide +kernel
theorem dX1_closeWeek_56 : decode cX1_closeWeek 56 = .ok (.aload_n 0, 1) := by decide +kernel
theorem dX1_closeWeek_57 : decode cX1_closeWeek 57 = .ok (.bipush 99, 2) := by decide +kernel
theorem dX1_closeWeek_59 : decode cX1_closeWeek 59 = .ok (.aload_n 0, 1) := by decide +kernel
theorem dX1_closeWeek_60 : decode cX1_closeWeek 60 = .ok (.getfield 31, 3) := by decide +kernel
theorem dX1_closeWeek_63 : decode cX1_closeWeek 63 = .ok (.iconst 1, 1) := by decide +kernel
theorem dX1_closeWeek_64 : decode cX1_closeWeek 64 = .ok (.iadd, 1) := by decide +kernel
theorem dX1_closeWeek_65 : decode cX1_closeWeek 65 = .ok (.invokestatic 60, 3) := by decide +kernel
theorem dX1_closeWeek_68 : decode cX1_closeWeek 68 = .ok (.putfield 31, 3) := by decide +kernel
theorem dX1_closeWeek_71 : decode cX1_closeWeek 71 = .ok (.aload_n 0, 1) := by decide +kernel
theorem dX1_closeWeek_72 : decode cX1_closeWeek 72 = .ok (.dup, 1) := by decide +kernel
theorem dX1_closeWeek_73 : decode cX1_closeWeek 73 = .ok (.getfield 46, 3) := by decide +kernel
theorem dX1_closeWeek_76 : decode cX1_closeWeek 76 = .ok (.iconst 1, 1) := by decide +kernel
theorem dX1_closeWeek_77 : decode cX1_closeWeek 77 = .ok (.iadd, 1) := by decide +kernel
theorem dX1_closeWeek_78 : decode cX1_closeWeek 78 = .ok (.putfield 46, 3) := by decide +kernel
theorem dX1_closeWeek_81 : decode cX1_closeWeek 81 = .ok (.return_, 1) := by decide +kernel
set_option maxRecDepth 20000 in
theorem ggX1_runToCounter_X1_putInHand : GoodIn wsX1_runToCounter wsX1_putInHand := goodIn_r _ [8, 9, 10, 11, 12, 13, 14, 15, 16, 17, 18, 19, 20, 21, 22, 23, 24] (by decide +kernel) (by decide +kernel)
set_option maxRecDepth 20000 in
theorem gX1_runToCounter_X1_putInHand : GoodIn wsX1_runToCounter (wsV RX1 114 RX1 yX1_putInHand wsX1_putInHand) := goodIn_app (goodIn_of _ (by decide +kernel)) ggX1_runToCounter_X1_putInHand
theorem dX1_runToCounter_0 : decode cX1_runToCounter 0 = .ok (.iconst 0, 1) := by decide +kernel
theorem dX1_runToCounter_1 : decode cX1_runToCounter 1 = .ok (.istore_n 1, 1) := by decide +kernel
theorem dX1_runToCounter_2 : decode cX1_runToCounter 2 = .ok (.iload_n 1, 1) := by decide +kernel
theorem dX1_runToCounter_3 : decode cX1_runToCounter 3 = .ok (.aload_n 0, 1) := by decide +kernel
theorem dX1_runToCounter_4 : decode cX1_runToCounter 4 = .ok (.getfield 34, 3) := by decide +kernel
theorem dX1_runToCounter_7 : decode cX1_runToCounter 7 = .ok (.if_icmp .ge 55, 3) := by decide +kernel
theorem dX1_runToCounter_10 : decode cX1_runToCounter 10 = .ok (.aload_n 0, 1) := by decide +kernel
theorem dX1_runToCounter_11 : decode cX1_runToCounter 11 = .ok (.getfield 18, 3) := by decide +kernel
theorem dX1_runToCounter_14 : decode cX1_runToCounter 14 = .ok (.iload_n 1, 1) := by decide +kernel
theorem dX1_runToCounter_15 : decode cX1_runToCounter 15 = .ok (.iaload, 1) := by decide +kernel
theorem dX1_runToCounter_16 : decode cX1_runToCounter 16 = .ok (.aload_n 0, 1) := by decide +kernel
theorem dX1_runToCounter_17 : decode cX1_runToCounter 17 = .ok (.getfield 31, 3) := by decide +kernel
theorem dX1_runToCounter_20 : decode cX1_runToCounter 20 = .ok (.if_icmp .gt 36, 3) := by decide +kernel
theorem dX1_runToCounter_23 : decode cX1_runToCounter 23 = .ok (.aload_n 0, 1) := by decide +kernel
theorem dX1_runToCounter_24 : decode cX1_runToCounter 24 = .ok (.dup, 1) := by decide +kernel
theorem dX1_runToCounter_25 : decode cX1_runToCounter 25 = .ok (.getfield 31, 3) := by decide +kernel
theorem dX1_runToCounter_28 : decode cX1_runToCounter 28 = .ok (.aload_n 0, 1) := by decide +kernel
theorem dX1_runToCounter_29 : decode cX1_runToCounter 29 = .ok (.getfield 18, 3) := by decide +kernel
theorem dX1_runToCounter_32 : decode cX1_runToCounter 32 = .ok (.iload_n 1, 1) := by decide +kernel
theorem dX1_runToCounter_33 : decode cX1_runToCounter 33 = .ok (.iaload, 1) := by decide +kernel
theorem dX1_runToCounter_34 : decode cX1_runToCounter 34 = .ok (.isub, 1) := by decide +kernel
theorem dX1_runToCounter_35 : decode cX1_runToCounter 35 = .ok (.putfield 31, 3) := by decide +kernel
theorem dX1_runToCounter_38 : decode cX1_runToCounter 38 = .ok (.aload_n 0, 1) := by decide +kernel
theorem dX1_runToCounter_39 : decode cX1_runToCounter 39 = .ok (.iload_n 1, 1) := by decide +kernel
theorem dX1_runToCounter_40 : decode cX1_runToCounter 40 = .ok (.aload_n 0, 1) := by decide +kernel
theorem dX1_runToCounter_41 : decode cX1_runToCounter 41 = .ok (.getfield 18, 3) := by decide +kernel
theorem dX1_runToCounter_44 : decode cX1_runToCounter 44 = .ok (.iload_n 1, 1) := by decide +kernel
theorem dX1_runToCounter_45 : decode cX1_runToCounter 45 = .ok (.iaload, 1) := by decide +kernel
theorem dX1_runToCounter_46 : decode cX1_runToCounter 46 = .ok (.invokevirtual 114, 3) := by decide +kernel
theorem dX1_runToCounter_49 : decode cX1_runToCounter 49 = .ok (.aload_n 0, 1) := by decide +kernel
theorem dX1_runToCounter_50 : decode cX1_runToCounter 50 = .ok (.getfield 18, 3) := by decide +kernel
theorem dX1_runToCounter_53 : decode cX1_runToCounter 53 = .ok (.iload_n 1, 1) := by decide +kernel
theorem dX1_runToCounter_54 : decode cX1_runToCounter 54 = .ok (.iconst 0, 1) := by decide +kernel
theorem dX1_runToCounter_55 : decode cX1_runToCounter 55 = .ok (.iastore, 1) := by decide +kernel
theorem dX1_runToCounter_56 : decode cX1_runToCounter 56 = .ok (.iinc 1 1, 3) := by decide +kernel
theorem dX1_runToCounter_59 : decode cX1_runToCounter 59 = .ok (.goto (-57), 3) := by decide +kernel
theorem dX1_runToCounter_62 : decode cX1_runToCounter 62 = .ok (.return_, 1) := by decide +kernel
theorem dX1_whoHasNothingThere_0 : decode cX1_whoHasNothingThere 0 = .ok (.iconst 0, 1) := by decide +kernel
theorem dX1_whoHasNothingThere_1 : decode cX1_whoHasNothingThere 1 = .ok (.istore_n 1, 1) := by decide +kernel
theorem dX1_whoHasNothingThere_2 : decode cX1_whoHasNothingThere 2 = .ok (.iconst 0, 1) := by decide +kernel
theorem dX1_whoHasNothingThere_3 : decode cX1_whoHasNothingThere 3 = .ok (.istore_n 2, 1) := by decide +kernel
theorem dX1_whoHasNothingThere_4 : decode cX1_whoHasNothingThere 4 = .ok (.iload_n 2, 1) := by decide +kernel
theorem dX1_whoHasNothingThere_5 : decode cX1_whoHasNothingThere 5 = .ok (.aload_n 0, 1) := by decide +kernel
theorem dX1_whoHasNothingThere_6 : decode cX1_whoHasNothingThere 6 = .ok (.getfield 34, 3) := by decide +kernel
theorem dX1_whoHasNothingThere_9 : decode cX1_whoHasNothingThere 9 = .ok (.if_icmp .ge 24, 3) := by decide +kernel
theorem dX1_whoHasNothingThere_12 : decode cX1_whoHasNothingThere 12 = .ok (.aload_n 0, 1) := by decide +kernel
theorem dX1_whoHasNothingThere_13 : decode cX1_whoHasNothingThere 13 = .ok (.getfield 18, 3) := by decide +kernel
theorem dX1_whoHasNothingThere_16 : decode cX1_whoHasNothingThere 16 = .ok (.iload_n 2, 1) := by decide +kernel
theorem dX1_whoHasNothingThere_17 : decode cX1_whoHasNothingThere 17 = .ok (.iaload, 1) := by decide +kernel
theorem dX1_whoHasNothingThere_18 : decode cX1_whoHasNothingThere 18 = .ok (.ifCond .ne 9, 3) := by decide +kernel
theorem dX1_whoHasNothingThere_21 : decode cX1_whoHasNothingThere 21 = .ok (.iload_n 1, 1) := by decide +kernel
theorem dX1_whoHasNothingThere_22 : decode cX1_whoHasNothingThere 22 = .ok (.iconst 1, 1) := by decide +kernel
theorem dX1_whoHasNothingThere_23 : decode cX1_whoHasNothingThere 23 = .ok (.iload_n 2, 1) := by decide +kernel
theorem dX1_whoHasNothingThere_24 : decode cX1_whoHasNothingThere 24 = .ok (.ishl, 1) := by decide +kernel
theorem dX1_whoHasNothingThere_25 : decode cX1_whoHasNothingThere 25 = .ok (.ior, 1) := by decide +kernel
theorem dX1_whoHasNothingThere_26 : decode cX1_whoHasNothingThere 26 = .ok (.istore_n 1, 1) := by decide +kernel
theorem dX1_whoHasNothingThere_27 : decode cX1_whoHasNothingThere 27 = .ok (.iinc 2 1, 3) := by decide +kernel
theorem dX1_whoHasNothingThere_30 : decode cX1_whoHasNothingThere 30 = .ok (.goto (-26), 3) := by decide +kernel
theorem dX1_whoHasNothingThere_33 : decode cX1_whoHasNothingThere 33 = .ok (.iload_n 1, 1) := by decide +kernel
theorem dX1_whoHasNothingThere_34 : decode cX1_whoHasNothingThere 34 = .ok (.ireturn, 1) := by decide +kernel
theorem dX1_sumInHand_0 : decode cX1_sumInHand 0 = .ok (.iconst 0, 1) := by decide +kernel
theorem dX1_sumInHand_1 : decode cX1_sumInHand 1 = .ok (.istore_n 1, 1) := by decide +kernel
theorem dX1_sumInHand_2 : decode cX1_sumInHand 2 = .ok (.iconst 0, 1) := by decide +kernel
theorem dX1_sumInHand_3 : decode cX1_sumInHand 3 = .ok (.istore_n 2, 1) := by decide +kernel
theorem dX1_sumInHand_4 : decode cX1_sumInHand 4 = .ok (.iload_n 2, 1) := by decide +kernel
theorem dX1_sumInHand_5 : decode cX1_sumInHand 5 = .ok (.aload_n 0, 1) := by decide +kernel
theorem dX1_sumInHand_6 : decode cX1_sumInHand 6 = .ok (.getfield 34, 3) := by decide +kernel
theorem dX1_sumInHand_9 : decode cX1_sumInHand 9 = .ok (.if_icmp .ge 18, 3) := by decide +kernel
theorem dX1_sumInHand_12 : decode cX1_sumInHand 12 = .ok (.iload_n 1, 1) := by decide +kernel
theorem dX1_sumInHand_13 : decode cX1_sumInHand 13 = .ok (.aload_n 0, 1) := by decide +kernel
theorem dX1_sumInHand_14 : decode cX1_sumInHand 14 = .ok (.getfield 15, 3) := by decide +kernel
theorem dX1_sumInHand_17 : decode cX1_sumInHand 17 = .ok (.iload_n 2, 1) := by decide +kernel
theorem dX1_sumInHand_18 : decode cX1_sumInHand 18 = .ok (.iaload, 1) := by decide +kernel
theorem dX1_sumInHand_19 : decode cX1_sumInHand 19 = .ok (.iadd, 1) := by decide +kernel
theorem dX1_sumInHand_20 : decode cX1_sumInHand 20 = .ok (.istore_n 1, 1) := by decide +kernel
theorem dX1_sumInHand_21 : decode cX1_sumInHand 21 = .ok (.iinc 2 1, 3) := by decide +kernel
theorem dX1_sumInHand_24 : decode cX1_sumInHand 24 = .ok (.goto (-20), 3) := by decide +kernel
theorem dX1_sumInHand_27 : decode cX1_sumInHand 27 = .ok (.iload_n 1, 1) := by decide +kernel
theorem dX1_sumInHand_28 : decode cX1_sumInHand 28 = .ok (.ireturn, 1) := by decide +kernel
theorem dX1_sumAtBank_0 : decode cX1_sumAtBank 0 = .ok (.iconst 0, 1) := by decide +kernel
theorem dX1_sumAtBank_1 : decode cX1_sumAtBank 1 = .ok (.istore_n 1, 1) := by decide +kernel
theorem dX1_sumAtBank_2 : decode cX1_sumAtBank 2 = .ok (.iconst 0, 1) := by decide +kernel
theorem dX1_sumAtBank_3 : decode cX1_sumAtBank 3 = .ok (.istore_n 2, 1) := by decide +kernel
theorem dX1_sumAtBank_4 : decode cX1_sumAtBank 4 = .ok (.iload_n 2, 1) := by decide +kernel
theorem dX1_sumAtBank_5 : decode cX1_sumAtBank 5 = .ok (.aload_n 0, 1) := by decide +kernel
theorem dX1_sumAtBank_6 : decode cX1_sumAtBank 6 = .ok (.getfield 34, 3) := by decide +kernel
theorem dX1_sumAtBank_9 : decode cX1_sumAtBank 9 = .ok (.if_icmp .ge 18, 3) := by decide +kernel
theorem dX1_sumAtBank_12 : decode cX1_sumAtBank 12 = .ok (.iload_n 1, 1) := by decide +kernel
theorem dX1_sumAtBank_13 : decode cX1_sumAtBank 13 = .ok (.aload_n 0, 1) := by decide +kernel
theorem dX1_sumAtBank_14 : decode cX1_sumAtBank 14 = .ok (.getfield 18, 3) := by decide +kernel
theorem dX1_sumAtBank_17 : decode cX1_sumAtBank 17 = .ok (.iload_n 2, 1) := by decide +kernel
theorem dX1_sumAtBank_18 : decode cX1_sumAtBank 18 = .ok (.iaload, 1) := by decide +kernel
theorem dX1_sumAtBank_19 : decode cX1_sumAtBank 19 = .ok (.iadd, 1) := by decide +kernel
theorem dX1_sumAtBank_20 : decode cX1_sumAtBank 20 = .ok (.istore_n 1, 1) := by decide +kernel
theorem dX1_sumAtBank_21 : decode cX1_sumAtBank 21 = .ok (.iinc 2 1, 3) := by decide +kernel
theorem dX1_sumAtBank_24 : decode cX1_sumAtBank 24 = .ok (.goto (-20), 3) := by decide +kernel
theorem dX1_sumAtBank_27 : decode cX1_sumAtBank 27 = .ok (.iload_n 1, 1) := by decide +kernel
theorem dX1_sumAtBank_28 : decode cX1_sumAtBank 28 = .ok (.ireturn, 1) := by decide +kernel
theorem dX2_init_0 : decode cX2_init 0 = .ok (.aload_n 0, 1) := by decide +kernel
theorem dX2_init_1 : decode cX2_init 1 = .ok (.invokespecial 3, 3) := by decide +kernel
theorem dX2_init_4 : decode cX2_init 4 = .ok (.aload_n 0, 1) := by decide +kernel
theorem dX2_init_5 : decode cX2_init 5 = .ok (.bipush 6, 2) := by decide +kernel
theorem dX2_init_7 : decode cX2_init 7 = .ok (.newarray .int, 2) := by decide +kernel
theorem dX2_init_9 : decode cX2_init 9 = .ok (.putfield 9, 3) := by decide +kernel
theorem dX2_init_12 : decode cX2_init 12 = .ok (.aload_n 0, 1) := by decide +kernel
theorem dX2_init_13 : decode cX2_init 13 = .ok (.bipush 6, 2) := by decide +kernel
theorem dX2_init_15 : decode cX2_init 15 = .ok (.newarray .int, 2) := by decide +kernel
theorem dX2_init_17 : decode cX2_init 17 = .ok (.putfield 15, 3) := by decide +kernel
theorem dX2_init_20 : decode cX2_init 20 = .ok (.aload_n 0, 1) := by decide +kernel
theorem dX2_init_21 : decode cX2_init 21 = .ok (.bipush 6, 2) := by decide +kernel
theorem dX2_init_23 : decode cX2_init 23 = .ok (.newarray .int, 2) := by decide +kernel
theorem dX2_init_25 : decode cX2_init 25 = .ok (.putfield 18, 3) := by decide +kernel
theorem dX2_init_28 : decode cX2_init 28 = .ok (.return_, 1) := by decide +kernel
theorem dX2_append_0 : decode cX2_append 0 = .ok (.aload_n 0, 1) := by decide +kernel
theorem dX2_append_1 : decode cX2_append 1 = .ok (.getfield 21, 3) := by decide +kernel
theorem dX2_append_4 : decode cX2_append 4 = .ok (.bipush 6, 2) := by decide +kernel
theorem dX2_append_6 : decode cX2_append 6 = .ok (.if_icmp .lt 6, 3) := by decide +kernel
theorem dX2_append_9 : decode cX2_append 9 = .ok (.bipush (-3), 2) := by decide +kernel
theorem dX2_append_11 : decode cX2_append 11 = .ok (.ireturn, 1) := by decide +kernel
theorem dX2_append_12 : decode cX2_append 12 = .ok (.aload_n 0, 1) := by decide +kernel
theorem dX2_append_13 : decode cX2_append 13 = .ok (.getfield 9, 3) := by decide +kernel
theorem dX2_append_16 : decode cX2_append 16 = .ok (.aload_n 0, 1) := by decide +kernel
theorem dX2_append_17 : decode cX2_append 17 = .ok (.getfield 21, 3) := by decide +kernel
theorem dX2_append_20 : decode cX2_append 20 = .ok (.iload_n 1, 1) := by decide +kernel
theorem dX2_append_21 : decode cX2_append 21 = .ok (.iastore, 1) := by decide +kernel
theorem dX2_append_22 : decode cX2_append 22 = .ok (.aload_n 0, 1) := by decide +kernel
theorem dX2_append_23 : decode cX2_append 23 = .ok (.getfield 15, 3) := by decide +kernel
theorem dX2_append_26 : decode cX2_append 26 = .ok (.aload_n 0, 1) := by decide +kernel
theorem dX2_append_27 : decode cX2_append 27 = .ok (.getfield 21, 3) := by decide +kernel
theorem dX2_append_30 : decode cX2_append 30 = .ok (.iload_n 2, 1) := by decide +kernel
theorem dX2_append_31 : decode cX2_append 31 = .ok (.iastore, 1) := by decide +kernel
theorem dX2_append_32 : decode cX2_append 32 = .ok (.aload_n 0, 1) := by decide +kernel
theorem dX2_append_33 : decode cX2_append 33 = .ok (.getfield 18, 3) := by decide +kernel
theorem dX2_append_36 : decode cX2_append 36 = .ok (.aload_n 0, 1) := by decide +kernel
theorem dX2_append_37 : decode cX2_append 37 = .ok (.getfield 21, 3) := by decide +kernel
theorem dX2_append_40 : decode cX2_append 40 = .ok (.iload_n 3, 1) := by decide +kernel
theorem dX2_append_41 : decode cX2_append 41 = .ok (.ifCond .eq 7, 3) := by decide +kernel
theorem dX2_append_44 : decode cX2_append 44 = .ok (.iconst 1, 1) := by decide +kernel
theorem dX2_append_45 : decode cX2_append 45 = .ok (.goto 4, 3) := by decide +kernel
theorem dX2_append_48 : decode cX2_append 48 = .ok (.iconst 0, 1) := by decide +kernel
theorem dX2_append_49 : decode cX2_append 49 = .ok (.iastore, 1) := by decide +kernel
theorem dX2_append_50 : decode cX2_append 50 = .ok (.aload_n 0, 1) := by decide +kernel
theorem dX2_append_51 : decode cX2_append 51 = .ok (.dup, 1) := by decide +kernel
theorem dX2_append_52 : decode cX2_append 52 = .ok (.getfield 21, 3) := by decide +kernel
theorem dX2_append_55 : decode cX2_append 55 = .ok (.iconst 1, 1) := by decide +kernel
theorem dX2_append_56 : decode cX2_append 56 = .ok (.iadd, 1) := by decide +kernel
theorem dX2_append_57 : decode cX2_append 57 = .ok (.putfield 21, 3) := by decide +kernel
theorem dX2_append_60 : decode cX2_append 60 = .ok (.aload_n 0, 1) := by decide +kernel
theorem dX2_append_61 : decode cX2_append 61 = .ok (.getfield 21, 3) := by decide +kernel
theorem dX2_append_64 : decode cX2_append 64 = .ok (.ireturn, 1) := by decide +kernel
theorem dX2_agree_0 : decode cX2_agree 0 = .ok (.iconst 0, 1) := by decide +kernel
theorem dX2_agree_1 : decode cX2_agree 1 = .ok (.istore_n 3, 1) := by decide +kernel
theorem dX2_agree_2 : decode cX2_agree 2 = .ok (.iload_n 3, 1) := by decide +kernel
theorem dX2_agree_3 : decode cX2_agree 3 = .ok (.aload_n 0, 1) := by decide +kernel
theorem dX2_agree_4 : decode cX2_agree 4 = .ok (.getfield 21, 3) := by decide +kernel
theorem dX2_agree_7 : decode cX2_agree 7 = .ok (.if_icmp .ge 40, 3) := by decide +kernel
theorem dX2_agree_10 : decode cX2_agree 10 = .ok (.aload_n 0, 1) := by decide +kernel
theorem dX2_agree_11 : decode cX2_agree 11 = .ok (.getfield 15, 3) := by decide +kernel
theorem dX2_agree_14 : decode cX2_agree 14 = .ok (.iload_n 3, 1) := by decide +kernel
theorem dX2_agree_15 : decode cX2_agree 15 = .ok (.iaload, 1) := by decide +kernel
theorem dX2_agree_16 : decode cX2_agree 16 = .ok (.iload_n 1, 1) := by decide +kernel
theorem dX2_agree_17 : decode cX2_agree 17 = .ok (.if_icmp .ne 24, 3) := by decide +kernel
theorem dX2_agree_20 : decode cX2_agree 20 = .ok (.iload_n 2, 1) := by decide +kernel
theorem dX2_agree_21 : decode cX2_agree 21 = .ok (.aload_n 0, 1) := by decide +kernel
theorem dX2_agree_22 : decode cX2_agree 22 = .ok (.getfield 9, 3) := by decide +kernel
theorem dX2_agree_25 : decode cX2_agree 25 = .ok (.iload_n 3, 1) := by decide +kernel
theorem dX2_agree_26 : decode cX2_agree 26 = .ok (.iaload, 1) := by decide +kernel
theorem dX2_agree_27 : decode cX2_agree 27 = .ok (.ishr, 1) := by decide +kernel
theorem dX2_agree_28 : decode cX2_agree 28 = .ok (.iconst 1, 1) := by decide +kernel
theorem dX2_agree_29 : decode cX2_agree 29 = .ok (.iand, 1) := by decide +kernel
theorem dX2_agree_30 : decode cX2_agree 30 = .ok (.aload_n 0, 1) := by decide +kernel
theorem dX2_agree_31 : decode cX2_agree 31 = .ok (.getfield 18, 3) := by decide +kernel
theorem dX2_agree_34 : decode cX2_agree 34 = .ok (.iload_n 3, 1) := by decide +kernel
theorem dX2_agree_35 : decode cX2_agree 35 = .ok (.iaload, 1) := by decide +kernel
theorem dX2_agree_36 : decode cX2_agree 36 = .ok (.if_icmp .eq 5, 3) := by decide +kernel
theorem dX2_agree_39 : decode cX2_agree 39 = .ok (.iconst 0, 1) := by decide +kernel
theorem dX2_agree_40 : decode cX2_agree 40 = .ok (.ireturn, 1) := by decide +kernel
theorem dX2_agree_41 : decode cX2_agree 41 = .ok (.iinc 3 1, 3) := by decide +kernel
theorem dX2_agree_44 : decode cX2_agree 44 = .ok (.goto (-42), 3) := by decide +kernel
theorem dX2_agree_47 : decode cX2_agree 47 = .ok (.iconst 1, 1) := by decide +kernel
theorem dX2_agree_48 : decode cX2_agree 48 = .ok (.ireturn, 1) := by decide +kernel
theorem dX2_copyFrom_0 : decode cX2_copyFrom 0 = .ok (.aload_n 0, 1) := by decide +kernel
theorem dX2_copyFrom_1 : decode cX2_copyFrom 1 = .ok (.aload_n 1, 1) := by decide +kernel
theorem dX2_copyFrom_2 : decode cX2_copyFrom 2 = .ok (.getfield 21, 3) := by decide +kernel
theorem dX2_copyFrom_5 : decode cX2_copyFrom 5 = .ok (.putfield 21, 3) := by decide +kernel
theorem dX2_copyFrom_8 : decode cX2_copyFrom 8 = .ok (.aload_n 1, 1) := by decide +kernel
theorem dX2_copyFrom_9 : decode cX2_copyFrom 9 = .ok (.getfield 9, 3) := by decide +kernel
theorem dX2_copyFrom_12 : decode cX2_copyFrom 12 = .ok (.iconst 0, 1) := by decide +kernel
theorem dX2_copyFrom_13 : decode cX2_copyFrom 13 = .ok (.aload_n 0, 1) := by decide +kernel
theorem dX2_copyFrom_14 : decode cX2_copyFrom 14 = .ok (.getfield 9, 3) := by decide +kernel
theorem dX2_copyFrom_17 : decode cX2_copyFrom 17 = .ok (.iconst 0, 1) := by decide +kernel
theorem dX2_copyFrom_18 : decode cX2_copyFrom 18 = .ok (.bipush 6, 2) := by decide +kernel
theorem dX2_copyFrom_20 : decode cX2_copyFrom 20 = .ok (.invokestatic 25, 3) := by decide +kernel
theorem dX2_copyFrom_23 : decode cX2_copyFrom 23 = .ok (.aload_n 1, 1) := by decide +kernel
theorem dX2_copyFrom_24 : decode cX2_copyFrom 24 = .ok (.getfield 15, 3) := by decide +kernel
theorem dX2_copyFrom_27 : decode cX2_copyFrom 27 = .ok (.iconst 0, 1) := by decide +kernel
theorem dX2_copyFrom_28 : decode cX2_copyFrom 28 = .ok (.aload_n 0, 1) := by decide +kernel
theorem dX2_copyFrom_29 : decode cX2_copyFrom 29 = .ok (.getfield 15, 3) := by decide +kernel
theorem dX2_copyFrom_32 : decode cX2_copyFrom 32 = .ok (.iconst 0, 1) := by decide +kernel
theorem dX2_copyFrom_33 : decode cX2_copyFrom 33 = .ok (.bipush 6, 2) := by decide +kernel
theorem dX2_copyFrom_35 : decode cX2_copyFrom 35 = .ok (.invokestatic 25, 3) := by decide +kernel
theorem dX2_copyFrom_38 : decode cX2_copyFrom 38 = .ok (.aload_n 1, 1) := by decide +kernel
theorem dX2_copyFrom_39 : decode cX2_copyFrom 39 = .ok (.getfield 18, 3) := by decide +kernel
theorem dX2_copyFrom_42 : decode cX2_copyFrom 42 = .ok (.iconst 0, 1) := by decide +kernel
theorem dX2_copyFrom_43 : decode cX2_copyFrom 43 = .ok (.aload_n 0, 1) := by decide +kernel
theorem dX2_copyFrom_44 : decode cX2_copyFrom 44 = .ok (.getfield 18, 3) := by decide +kernel
theorem dX2_copyFrom_47 : decode cX2_copyFrom 47 = .ok (.iconst 0, 1) := by decide +kernel
theorem dX2_copyFrom_48 : decode cX2_copyFrom 48 = .ok (.bipush 6, 2) := by decide +kernel
theorem dX2_copyFrom_50 : decode cX2_copyFrom 50 = .ok (.invokestatic 25, 3) := by decide +kernel
theorem dX2_copyFrom_53 : decode cX2_copyFrom 53 = .ok (.return_, 1) := by decide +kernel
set_option maxRecDepth 20000 in
theorem ggX3_init_X5_init : GoodIn wsX3_init wsX5_init := goodIn_r _ [17, 18, 2, 3, 14, 19, 20, 21, 22, 23, 24, 35, 36, 37, 38, 39, 40, 41, 42] (by decide +kernel) (by decide +kernel)
set_option maxRecDepth 20000 in
theorem gX3_init_X5_init_n11 : GoodIn wsX3_init (wsX5_init) := ggX3_init_X5_init
set_option maxRecDepth 20000 in
theorem ggX3_init_X1_init : GoodIn wsX3_init wsX1_init := goodIn_r _ [26, 27, 2, 3, 14, 28, 29, 30, 31, 32, 33, 34, 55, 56, 57, 58, 59, 60, 61, 62, 63, 64, 65] (by decide +kernel) (by decide +kernel)
set_option maxRecDepth 20000 in
theorem gX3_init_X1_init_n20 : GoodIn wsX3_init (wsX1_init) := ggX3_init_X1_init
theorem dX3_init_0 : decode cX3_init 0 = .ok (.aload_n 0, 1) := by decide +kernel
theorem dX3_init_1 : decode cX3_init 1 = .ok (.invokespecial 3, 3) := by decide +kernel
theorem dX3_init_4 : decode cX3_init 4 = .ok (.aload_n 0, 1) := by decide +kernel
theorem dX3_init_5 : decode cX3_init 5 = .ok (.new 9, 3) := by decide +kernel
theorem dX3_init_8 : decode cX3_init 8 = .ok (.dup, 1) := by decide +kernel
theorem dX3_init_9 : decode cX3_init 9 = .ok (.invokespecial 11, 3) := by decide +kernel
theorem dX3_init_12 : decode cX3_init 12 = .ok (.putfield 12, 3) := by decide +kernel
theorem dX3_init_15 : decode cX3_init 15 = .ok (.aload_n 0, 1) := by decide +kernel
theorem dX3_init_16 : decode cX3_init 16 = .ok (.new 18, 3) := by decide +kernel
theorem dX3_init_19 : decode cX3_init 19 = .ok (.dup, 1) := by decide +kernel
theorem dX3_init_20 : decode cX3_init 20 = .ok (.invokespecial 20, 3) := by decide +kernel
theorem dX3_init_23 : decode cX3_init 23 = .ok (.putfield 21, 3) := by decide +kernel
theorem dX3_init_26 : decode cX3_init 26 = .ok (.aload_n 0, 1) := by decide +kernel
theorem dX3_init_27 : decode cX3_init 27 = .ok (.sipush 160, 3) := by decide +kernel
theorem dX3_init_30 : decode cX3_init 30 = .ok (.newarray .byte, 2) := by decide +kernel
theorem dX3_init_32 : decode cX3_init 32 = .ok (.putfield 25, 3) := by decide +kernel
theorem dX3_init_35 : decode cX3_init 35 = .ok (.aload_n 0, 1) := by decide +kernel
theorem dX3_init_36 : decode cX3_init 36 = .ok (.iconst 4, 1) := by decide +kernel
theorem dX3_init_37 : decode cX3_init 37 = .ok (.newarray .int, 2) := by decide +kernel
theorem dX3_init_39 : decode cX3_init 39 = .ok (.putfield 29, 3) := by decide +kernel
theorem dX3_init_42 : decode cX3_init 42 = .ok (.return_, 1) := by decide +kernel
theorem dX3_append_0 : decode cX3_append 0 = .ok (.aload_n 0, 1) := by decide +kernel
theorem dX3_append_1 : decode cX3_append 1 = .ok (.getfield 33, 3) := by decide +kernel
theorem dX3_append_4 : decode cX3_append 4 = .ok (.sipush 160, 3) := by decide +kernel
theorem dX3_append_7 : decode cX3_append 7 = .ok (.if_icmp .lt 6, 3) := by decide +kernel
theorem dX3_append_10 : decode cX3_append 10 = .ok (.bipush (-3), 2) := by decide +kernel
theorem dX3_append_12 : decode cX3_append 12 = .ok (.ireturn, 1) := by decide +kernel
theorem dX3_append_13 : decode cX3_append 13 = .ok (.aload_n 0, 1) := by decide +kernel
theorem dX3_append_14 : decode cX3_append 14 = .ok (.getfield 25, 3) := by decide +kernel
theorem dX3_append_17 : decode cX3_append 17 = .ok (.aload_n 0, 1) := by decide +kernel
theorem dX3_append_18 : decode cX3_append 18 = .ok (.getfield 33, 3) := by decide +kernel
theorem dX3_append_21 : decode cX3_append 21 = .ok (.iload_n 1, 1) := by decide +kernel
theorem dX3_append_22 : decode cX3_append 22 = .ok (.i2b, 1) := by decide +kernel
theorem dX3_append_23 : decode cX3_append 23 = .ok (.bastore, 1) := by decide +kernel
theorem dX3_append_24 : decode cX3_append 24 = .ok (.aload_n 0, 1) := by decide +kernel
theorem dX3_append_25 : decode cX3_append 25 = .ok (.dup, 1) := by decide +kernel
theorem dX3_append_26 : decode cX3_append 26 = .ok (.getfield 33, 3) := by decide +kernel
theorem dX3_append_29 : decode cX3_append 29 = .ok (.iconst 1, 1) := by decide +kernel
theorem dX3_append_30 : decode cX3_append 30 = .ok (.iadd, 1) := by decide +kernel
theorem dX3_append_31 : decode cX3_append 31 = .ok (.putfield 33, 3) := by decide +kernel
theorem dX3_append_34 : decode cX3_append 34 = .ok (.aload_n 0, 1) := by decide +kernel
theorem dX3_append_35 : decode cX3_append 35 = .ok (.getfield 33, 3) := by decide +kernel
theorem dX3_append_38 : decode cX3_append 38 = .ok (.ireturn, 1) := by decide +kernel
set_option maxRecDepth 20000 in
theorem ggX3_readTape_X3_begin : GoodIn wsX3_readTape wsX3_begin := goodIn_r _ [12, 3, 13, 14, 4, 5, 15, 16, 1, 17, 18, 19, 144, 145, 146, 147, 148, 149, 150, 151, 152, 153, 154, 155, 167, 168, 169, 170, 171, 172, 173, 174, 156, 157, 158, 159, 160, 161, 162, 163, 164, 165, 166] (by decide +kernel) (by decide +kernel)
set_option maxRecDepth 20000 in
theorem gX3_readTape_X3_begin : GoodIn wsX3_readTape (wsV RX3 37 RX3 yX3_begin wsX3_begin) := goodIn_app (goodIn_of _ (by decide +kernel)) ggX3_readTape_X3_begin
set_option maxRecDepth 20000 in
theorem ggX3_readTape_X3_nextToken : GoodIn wsX3_readTape wsX3_nextToken := goodIn_r _ [23, 17, 6, 24, 25, 2, 26, 27, 28, 11, 29, 30, 31, 32, 33, 34, 35, 36, 37, 1, 7, 144, 145, 146, 147, 148, 149, 150, 151, 152, 153, 154, 155] (by decide +kernel) (by decide +kernel)
set_option maxRecDepth 20000 in
theorem gX3_readTape_X3_nextToken : GoodIn wsX3_readTape (wsV RX3 40 RX3 yX3_nextToken wsX3_nextToken) := goodIn_app (goodIn_of _ (by decide +kernel)) ggX3_readTape_X3_nextToken
set_option maxRecDepth 20000 in
theorem ggX3_readTape_X3_readLine : GoodIn wsX3_readTape wsX3_readLine := goodIn_r _ [41, 2, 42, 1, 43, 44, 45, 46, 47, 11, 48, 49, 50, 51, 52, 17, 25, 24, 53, 54, 55, 56, 57, 58, 59, 60, 61, 62, 63, 64, 65, 66, 67, 68, 69, 70, 71, 72, 73, 74, 75, 76, 77, 78, 79, 80, 81, 82, 83, 84, 85, 86, 87, 88, 89, 90, 91, 92, 93, 94, 95, 96, 97, 98, 99, 100, 101, 34, 35, 36, 37, 7, 102, 103, 104, 105, 18, 19, 3, 13, 14, 4, 5, 106, 107, 108, 109, 110, 111, 112, 113, 20, 21, 22, 23, 6, 26, 27, 28, 29, 30, 31, 32, 33, 114, 115, 116, 117, 15, 16, 118, 119, 120, 121, 122, 123, 124, 125, 126, 127, 128, 129, 130, 131, 132, 133, 134, 144, 145, 146, 147, 148, 149, 150, 151, 152, 153, 154, 155, 167, 168, 169, 170, 171, 172, 173, 174, 156, 157, 158, 159, 160, 161, 162, 163, 164, 165, 166] (by decide +kernel) (by decide +kernel)
set_option maxRecDepth 20000 in
theorem gX3_readTape_X3_readLine : GoodIn wsX3_readTape (wsV RX3 49 RX3 yX3_readLine wsX3_readLine) := goodIn_app (goodIn_of _ (by decide +kernel)) ggX3_readTape_X3_readLine
set_option maxRecDepth 20000 in
theorem ggX3_readTape_X5_knowsAllOf : GoodIn wsX3_readTape wsX5_knowsAllOf := goodIn_r _ [139, 140, 141, 142, 143, 167, 168, 169, 170, 171, 172, 173, 174] (by decide +kernel) (by decide +kernel)
set_option maxRecDepth 20000 in
theorem gX3_readTape_X5_knowsAllOf : GoodIn wsX3_readTape (wsV RX3 55 RX5 yX5_knowsAllOf wsX5_knowsAllOf) := goodIn_app (goodIn_of _ (by decide +kernel)) ggX3_readTape_X5_knowsAllOf
theorem dX3_readTape_0 : decode cX3_readTape 0 = .ok (.aload_n 0, 1) := by decide +kernel
theorem dX3_readTape_1 : decode cX3_readTape 1 = .ok (.invokevirtual 37, 3) := by decide +kernel
theorem dX3_readTape_4 : decode cX3_readTape 4 = .ok (.iconst 0, 1) := by decide +kernel
theorem dX3_readTape_5 : decode cX3_readTape 5 = .ok (.istore_n 1, 1) := by decide +kernel
theorem dX3_readTape_6 : decode cX3_readTape 6 = .ok (.iconst 0, 1) := by decide +kernel
theorem dX3_readTape_7 : decode cX3_readTape 7 = .ok (.istore_n 2, 1) := by decide +kernel
theorem dX3_readTape_8 : decode cX3_readTape 8 = .ok (.iload_n 2, 1) := by decide +kernel
theorem dX3_readTape_9 : decode cX3_readTape 9 = .ok (.sipush 160, 3) := by decide +kernel
theorem dX3_readTape_12 : decode cX3_readTape 12 = .ok (.if_icmp .gt 53, 3) := by decide +kernel
theorem dX3_readTape_15 : decode cX3_readTape 15 = .ok (.aload_n 0, 1) := by decide +kernel
theorem dX3_readTape_16 : decode cX3_readTape 16 = .ok (.invokevirtual 40, 3) := by decide +kernel
theorem dX3_readTape_19 : decode cX3_readTape 19 = .ok (.aload_n 0, 1) := by decide +kernel
theorem dX3_readTape_20 : decode cX3_readTape 20 = .ok (.getfield 43, 3) := by decide +kernel
theorem dX3_readTape_23 : decode cX3_readTape 23 = .ok (.ifCond .ne 18, 3) := by decide +kernel
theorem dX3_readTape_26 : decode cX3_readTape 26 = .ok (.aload_n 0, 1) := by decide +kernel
theorem dX3_readTape_27 : decode cX3_readTape 27 = .ok (.getfield 46, 3) := by decide +kernel
theorem dX3_readTape_30 : decode cX3_readTape 30 = .ok (.iconst 3, 1) := by decide +kernel
theorem dX3_readTape_31 : decode cX3_readTape 31 = .ok (.if_icmp .eq 10, 3) := by decide +kernel
theorem dX3_readTape_34 : decode cX3_readTape 34 = .ok (.aload_n 0, 1) := by decide +kernel
theorem dX3_readTape_35 : decode cX3_readTape 35 = .ok (.invokevirtual 49, 3) := by decide +kernel
theorem dX3_readTape_38 : decode cX3_readTape 38 = .ok (.iinc 1 1, 3) := by decide +kernel
theorem dX3_readTape_41 : decode cX3_readTape 41 = .ok (.aload_n 0, 1) := by decide +kernel
theorem dX3_readTape_42 : decode cX3_readTape 42 = .ok (.getfield 43, 3) := by decide +kernel
theorem dX3_readTape_45 : decode cX3_readTape 45 = .ok (.ifCond .ne 20, 3) := by decide +kernel
theorem dX3_readTape_48 : decode cX3_readTape 48 = .ok (.aload_n 0, 1) := by decide +kernel
theorem dX3_readTape_49 : decode cX3_readTape 49 = .ok (.getfield 46, 3) := by decide +kernel
theorem dX3_readTape_52 : decode cX3_readTape 52 = .ok (.iconst 3, 1) := by decide +kernel
theorem dX3_readTape_53 : decode cX3_readTape 53 = .ok (.if_icmp .ne 6, 3) := by decide +kernel
theorem dX3_readTape_56 : decode cX3_readTape 56 = .ok (.goto 9, 3) := by decide +kernel
theorem dX3_readTape_59 : decode cX3_readTape 59 = .ok (.iinc 2 1, 3) := by decide +kernel
theorem dX3_readTape_62 : decode cX3_readTape 62 = .ok (.goto (-54), 3) := by decide +kernel
theorem dX3_readTape_65 : decode cX3_readTape 65 = .ok (.aload_n 0, 1) := by decide +kernel
theorem dX3_readTape_66 : decode cX3_readTape 66 = .ok (.getfield 43, 3) := by decide +kernel
theorem dX3_readTape_69 : decode cX3_readTape 69 = .ok (.ifCond .ne 34, 3) := by decide +kernel
theorem dX3_readTape_72 : decode cX3_readTape 72 = .ok (.aload_n 0, 1) := by decide +kernel
theorem dX3_readTape_73 : decode cX3_readTape 73 = .ok (.getfield 12, 3) := by decide +kernel
theorem dX3_readTape_76 : decode cX3_readTape 76 = .ok (.aload_n 0, 1) := by decide +kernel
theorem dX3_readTape_77 : decode cX3_readTape 77 = .ok (.getfield 21, 3) := by decide +kernel
theorem dX3_readTape_80 : decode cX3_readTape 80 = .ok (.getfield 52, 3) := by decide +kernel
theorem dX3_readTape_83 : decode cX3_readTape 83 = .ok (.invokevirtual 55, 3) := by decide +kernel
theorem dX3_readTape_86 : decode cX3_readTape 86 = .ok (.ifCond .ne 17, 3) := by decide +kernel
theorem dX3_readTape_89 : decode cX3_readTape 89 = .ok (.aload_n 0, 1) := by decide +kernel
theorem dX3_readTape_90 : decode cX3_readTape 90 = .ok (.bipush 6, 2) := by decide +kernel
theorem dX3_readTape_92 : decode cX3_readTape 92 = .ok (.putfield 43, 3) := by decide +kernel
theorem dX3_readTape_95 : decode cX3_readTape 95 = .ok (.aload_n 0, 1) := by decide +kernel
theorem dX3_readTape_96 : decode cX3_readTape 96 = .ok (.aload_n 0, 1) := by decide +kernel
theorem dX3_readTape_97 : decode cX3_readTape 97 = .ok (.getfield 33, 3) := by decide +kernel
theorem dX3_readTape_100 : decode cX3_readTape 100 = .ok (.putfield 59, 3) := by decide +kernel
theorem dX3_readTape_103 : decode cX3_readTape 103 = .ok (.aload_n 0, 1) := by decide +kernel
theorem dX3_readTape_104 : decode cX3_readTape 104 = .ok (.iconst 0, 1) := by decide +kernel
theorem dX3_readTape_105 : decode cX3_readTape 105 = .ok (.putfield 33, 3) := by decide +kernel
theorem dX3_readTape_108 : decode cX3_readTape 108 = .ok (.aload_n 0, 1) := by decide +kernel
theorem dX3_readTape_109 : decode cX3_readTape 109 = .ok (.getfield 43, 3) := by decide +kernel
theorem dX3_readTape_112 : decode cX3_readTape 112 = .ok (.ifCond .ne 7, 3) := by decide +kernel
theorem dX3_readTape_115 : decode cX3_readTape 115 = .ok (.iload_n 1, 1) := by decide +kernel
theorem dX3_readTape_116 : decode cX3_readTape 116 = .ok (.goto 10, 3) := by decide +kernel
theorem dX3_readTape_119 : decode cX3_readTape 119 = .ok (.bipush (-10), 2) := by decide +kernel
theorem dX3_readTape_121 : decode cX3_readTape 121 = .ok (.aload_n 0, 1) := by decide +kernel
theorem dX3_readTape_122 : decode cX3_readTape 122 = .ok (.getfield 59, 3) := by decide +kernel
theorem dX3_readTape_125 : decode cX3_readTape 125 = .ok (.isub, 1) := by decide +kernel
theorem dX3_readTape_126 : decode cX3_readTape 126 = .ok (.ireturn, 1) := by decide +kernel
theorem dX3_begin_0 : decode cX3_begin 0 = .ok (.aload_n 0, 1) := by decide +kernel
theorem dX3_begin_1 : decode cX3_begin 1 = .ok (.getfield 12, 3) := by decide +kernel
theorem dX3_begin_4 : decode cX3_begin 4 = .ok (.iconst 0, 1) := by decide +kernel
theorem dX3_begin_5 : decode cX3_begin 5 = .ok (.putfield 62, 3) := by decide +kernel
theorem dX3_begin_8 : decode cX3_begin 8 = .ok (.aload_n 0, 1) := by decide +kernel
theorem dX3_begin_9 : decode cX3_begin 9 = .ok (.getfield 12, 3) := by decide +kernel
theorem dX3_begin_12 : decode cX3_begin 12 = .ok (.iconst 0, 1) := by decide +kernel
theorem dX3_begin_13 : decode cX3_begin 13 = .ok (.putfield 65, 3) := by decide +kernel
theorem dX3_begin_16 : decode cX3_begin 16 = .ok (.aload_n 0, 1) := by decide +kernel
theorem dX3_begin_17 : decode cX3_begin 17 = .ok (.getfield 21, 3) := by decide +kernel
theorem dX3_begin_20 : decode cX3_begin 20 = .ok (.iconst 0, 1) := by decide +kernel
theorem dX3_begin_21 : decode cX3_begin 21 = .ok (.putfield 52, 3) := by decide +kernel
theorem dX3_begin_24 : decode cX3_begin 24 = .ok (.aload_n 0, 1) := by decide +kernel
theorem dX3_begin_25 : decode cX3_begin 25 = .ok (.getfield 21, 3) := by decide +kernel
theorem dX3_begin_28 : decode cX3_begin 28 = .ok (.iconst 1, 1) := by decide +kernel
theorem dX3_begin_29 : decode cX3_begin 29 = .ok (.putfield 68, 3) := by decide +kernel
theorem dX3_begin_32 : decode cX3_begin 32 = .ok (.aload_n 0, 1) := by decide +kernel
theorem dX3_begin_33 : decode cX3_begin 33 = .ok (.getfield 21, 3) := by decide +kernel
theorem dX3_begin_36 : decode cX3_begin 36 = .ok (.bipush 20, 2) := by decide +kernel
theorem dX3_begin_38 : decode cX3_begin 38 = .ok (.putfield 71, 3) := by decide +kernel
theorem dX3_begin_41 : decode cX3_begin 41 = .ok (.aload_n 0, 1) := by decide +kernel
theorem dX3_begin_42 : decode cX3_begin 42 = .ok (.iconst 0, 1) := by decide +kernel
theorem dX3_begin_43 : decode cX3_begin 43 = .ok (.putfield 43, 3) := by decide +kernel
theorem dX3_begin_46 : decode cX3_begin 46 = .ok (.aload_n 0, 1) := by decide +kernel
theorem dX3_begin_47 : decode cX3_begin 47 = .ok (.iconst 0, 1) := by decide +kernel
theorem dX3_begin_48 : decode cX3_begin 48 = .ok (.putfield 74, 3) := by decide +kernel
theorem dX3_begin_51 : decode cX3_begin 51 = .ok (.aload_n 0, 1) := by decide +kernel
theorem dX3_begin_52 : decode cX3_begin 52 = .ok (.iconst 0, 1) := by decide +kernel
theorem dX3_begin_53 : decode cX3_begin 53 = .ok (.putfield 77, 3) := by decide +kernel
theorem dX3_begin_56 : decode cX3_begin 56 = .ok (.aload_n 0, 1) := by decide +kernel
theorem dX3_begin_57 : decode cX3_begin 57 = .ok (.iconst 0, 1) := by decide +kernel
theorem dX3_begin_58 : decode cX3_begin 58 = .ok (.putfield 81, 3) := by decide +kernel
theorem dX3_begin_61 : decode cX3_begin 61 = .ok (.return_, 1) := by decide +kernel
theorem dX3_refuse_0 : decode cX3_refuse 0 = .ok (.aload_n 0, 1) := by decide +kernel
theorem dX3_refuse_1 : decode cX3_refuse 1 = .ok (.iload_n 1, 1) := by decide +kernel
theorem dX3_refuse_2 : decode cX3_refuse 2 = .ok (.putfield 43, 3) := by decide +kernel
theorem dX3_refuse_5 : decode cX3_refuse 5 = .ok (.aload_n 0, 1) := by decide +kernel
theorem dX3_refuse_6 : decode cX3_refuse 6 = .ok (.aload_n 0, 1) := by decide +kernel
theorem dX3_refuse_7 : decode cX3_refuse 7 = .ok (.getfield 84, 3) := by decide +kernel
theorem dX3_refuse_10 : decode cX3_refuse 10 = .ok (.putfield 59, 3) := by decide +kernel
theorem dX3_refuse_13 : decode cX3_refuse 13 = .ok (.return_, 1) := by decide +kernel
set_option maxRecDepth 20000 in
theorem ggX3_nextToken_X3_isLetter : GoodIn wsX3_nextToken wsX3_isLetter := goodIn_r _ [10, 3, 21, 22, 23, 24, 25, 26, 27, 28, 29, 30, 31, 32] (by decide +kernel) (by decide +kernel)
set_option maxRecDepth 20000 in
theorem gX3_nextToken_X3_isLetter : GoodIn wsX3_nextToken (wsV RX3 87 RX3 yX3_isLetter wsX3_isLetter) := goodIn_app (goodIn_of _ (by decide +kernel)) ggX3_nextToken_X3_isLetter
set_option maxRecDepth 20000 in
theorem ggX3_nextToken_X3_isFigure : GoodIn wsX3_nextToken wsX3_isFigure := goodIn_r _ [14, 3, 21, 22, 23, 24, 25, 26, 27, 28, 29, 30, 31, 32] (by decide +kernel) (by decide +kernel)
set_option maxRecDepth 20000 in
theorem gX3_nextToken_X3_isFigure : GoodIn wsX3_nextToken (wsV RX3 90 RX3 yX3_isFigure wsX3_isFigure) := goodIn_app (goodIn_of _ (by decide +kernel)) ggX3_nextToken_X3_isFigure
set_option maxRecDepth 20000 in
theorem ggX3_nextToken_X3_refuse : GoodIn wsX3_nextToken wsX3_refuse := goodIn_r _ [18, 19, 4, 20, 21, 22, 23, 24, 25, 26, 27, 28, 29, 30, 31, 32] (by decide +kernel) (by decide +kernel)
set_option maxRecDepth 20000 in
theorem gX3_nextToken_X3_refuse : GoodIn wsX3_nextToken (wsV RX3 93 RX3 yX3_refuse wsX3_refuse) := goodIn_app (goodIn_of _ (by decide +kernel)) ggX3_nextToken_X3_refuse
theorem dX3_nextToken_0 : decode cX3_nextToken 0 = .ok (.aload_n 0, 1) := by decide +kernel
theorem dX3_nextToken_1 : decode cX3_nextToken 1 = .ok (.getfield 74, 3) := by decide +kernel
theorem dX3_nextToken_4 : decode cX3_nextToken 4 = .ok (.aload_n 0, 1) := by decide +kernel
theorem dX3_nextToken_5 : decode cX3_nextToken 5 = .ok (.getfield 33, 3) := by decide +kernel
theorem dX3_nextToken_8 : decode cX3_nextToken 8 = .ok (.if_icmp .ge 30, 3) := by decide +kernel
theorem dX3_nextToken_11 : decode cX3_nextToken 11 = .ok (.aload_n 0, 1) := by decide +kernel
theorem dX3_nextToken_12 : decode cX3_nextToken 12 = .ok (.getfield 25, 3) := by decide +kernel
theorem dX3_nextToken_15 : decode cX3_nextToken 15 = .ok (.aload_n 0, 1) := by decide +kernel
theorem dX3_nextToken_16 : decode cX3_nextToken 16 = .ok (.getfield 74, 3) := by decide +kernel
theorem dX3_nextToken_19 : decode cX3_nextToken 19 = .ok (.baload, 1) := by decide +kernel
theorem dX3_nextToken_20 : decode cX3_nextToken 20 = .ok (.bipush 32, 2) := by decide +kernel
theorem dX3_nextToken_22 : decode cX3_nextToken 22 = .ok (.if_icmp .ne 16, 3) := by decide +kernel
theorem dX3_nextToken_25 : decode cX3_nextToken 25 = .ok (.aload_n 0, 1) := by decide +kernel
theorem dX3_nextToken_26 : decode cX3_nextToken 26 = .ok (.dup, 1) := by decide +kernel
theorem dX3_nextToken_27 : decode cX3_nextToken 27 = .ok (.getfield 74, 3) := by decide +kernel
theorem dX3_nextToken_30 : decode cX3_nextToken 30 = .ok (.iconst 1, 1) := by decide +kernel
theorem dX3_nextToken_31 : decode cX3_nextToken 31 = .ok (.iadd, 1) := by decide +kernel
theorem dX3_nextToken_32 : decode cX3_nextToken 32 = .ok (.putfield 74, 3) := by decide +kernel
theorem dX3_nextToken_35 : decode cX3_nextToken 35 = .ok (.goto (-35), 3) := by decide +kernel
theorem dX3_nextToken_38 : decode cX3_nextToken 38 = .ok (.aload_n 0, 1) := by decide +kernel
theorem dX3_nextToken_39 : decode cX3_nextToken 39 = .ok (.aload_n 0, 1) := by decide +kernel
theorem dX3_nextToken_40 : decode cX3_nextToken 40 = .ok (.getfield 74, 3) := by decide +kernel
theorem dX3_nextToken_43 : decode cX3_nextToken 43 = .ok (.putfield 84, 3) := by decide +kernel
theorem dX3_nextToken_46 : decode cX3_nextToken 46 = .ok (.aload_n 0, 1) := by decide +kernel
theorem dX3_nextToken_47 : decode cX3_nextToken 47 = .ok (.getfield 74, 3) := by decide +kernel
theorem dX3_nextToken_50 : decode cX3_nextToken 50 = .ok (.aload_n 0, 1) := by decide +kernel
theorem dX3_nextToken_51 : decode cX3_nextToken 51 = .ok (.getfield 33, 3) := by decide +kernel
theorem dX3_nextToken_54 : decode cX3_nextToken 54 = .ok (.if_icmp .lt 11, 3) := by decide +kernel
theorem dX3_nextToken_57 : decode cX3_nextToken 57 = .ok (.aload_n 0, 1) := by decide +kernel
theorem dX3_nextToken_58 : decode cX3_nextToken 58 = .ok (.iconst 3, 1) := by decide +kernel
theorem dX3_nextToken_59 : decode cX3_nextToken 59 = .ok (.putfield 46, 3) := by decide +kernel
theorem dX3_nextToken_62 : decode cX3_nextToken 62 = .ok (.goto 163, 3) := by decide +kernel
theorem dX3_nextToken_65 : decode cX3_nextToken 65 = .ok (.aload_n 0, 1) := by decide +kernel
theorem dX3_nextToken_66 : decode cX3_nextToken 66 = .ok (.aload_n 0, 1) := by decide +kernel
theorem dX3_nextToken_67 : decode cX3_nextToken 67 = .ok (.getfield 74, 3) := by decide +kernel
theorem dX3_nextToken_70 : decode cX3_nextToken 70 = .ok (.invokevirtual 87, 3) := by decide +kernel
theorem dX3_nextToken_73 : decode cX3_nextToken 73 = .ok (.ifCond .eq 43, 3) := by decide +kernel
theorem dX3_nextToken_76 : decode cX3_nextToken 76 = .ok (.aload_n 0, 1) := by decide +kernel
theorem dX3_nextToken_77 : decode cX3_nextToken 77 = .ok (.iconst 0, 1) := by decide +kernel
theorem dX3_nextToken_78 : decode cX3_nextToken 78 = .ok (.putfield 46, 3) := by decide +kernel
theorem dX3_nextToken_81 : decode cX3_nextToken 81 = .ok (.aload_n 0, 1) := by decide +kernel
theorem dX3_nextToken_82 : decode cX3_nextToken 82 = .ok (.getfield 74, 3) := by decide +kernel
theorem dX3_nextToken_85 : decode cX3_nextToken 85 = .ok (.aload_n 0, 1) := by decide +kernel
theorem dX3_nextToken_86 : decode cX3_nextToken 86 = .ok (.getfield 33, 3) := by decide +kernel
theorem dX3_nextToken_89 : decode cX3_nextToken 89 = .ok (.if_icmp .ge 136, 3) := by decide +kernel
theorem dX3_nextToken_92 : decode cX3_nextToken 92 = .ok (.aload_n 0, 1) := by decide +kernel
theorem dX3_nextToken_93 : decode cX3_nextToken 93 = .ok (.aload_n 0, 1) := by decide +kernel
theorem dX3_nextToken_94 : decode cX3_nextToken 94 = .ok (.getfield 74, 3) := by decide +kernel
theorem dX3_nextToken_97 : decode cX3_nextToken 97 = .ok (.invokevirtual 87, 3) := by decide +kernel
theorem dX3_nextToken_100 : decode cX3_nextToken 100 = .ok (.ifCond .eq 125, 3) := by decide +kernel
theorem dX3_nextToken_103 : decode cX3_nextToken 103 = .ok (.aload_n 0, 1) := by decide +kernel
theorem dX3_nextToken_104 : decode cX3_nextToken 104 = .ok (.dup, 1) := by decide +kernel
theorem dX3_nextToken_105 : decode cX3_nextToken 105 = .ok (.getfield 74, 3) := by decide +kernel
theorem dX3_nextToken_108 : decode cX3_nextToken 108 = .ok (.iconst 1, 1) := by decide +kernel
theorem dX3_nextToken_109 : decode cX3_nextToken 109 = .ok (.iadd, 1) := by decide +kernel
theorem dX3_nextToken_110 : decode cX3_nextToken 110 = .ok (.putfield 74, 3) := by decide +kernel
theorem dX3_nextToken_113 : decode cX3_nextToken 113 = .ok (.goto (-32), 3) := by decide +kernel
theorem dX3_nextToken_116 : decode cX3_nextToken 116 = .ok (.aload_n 0, 1) := by decide +kernel
theorem dX3_nextToken_117 : decode cX3_nextToken 117 = .ok (.aload_n 0, 1) := by decide +kernel
theorem dX3_nextToken_118 : decode cX3_nextToken 118 = .ok (.getfield 74, 3) := by decide +kernel
theorem dX3_nextToken_121 : decode cX3_nextToken 121 = .ok (.invokevirtual 90, 3) := by decide +kernel
theorem dX3_nextToken_124 : decode cX3_nextToken 124 = .ok (.ifCond .eq 64, 3) := by decide +kernel
theorem dX3_nextToken_127 : decode cX3_nextToken 127 = .ok (.aload_n 0, 1) := by decide +kernel
theorem dX3_nextToken_128 : decode cX3_nextToken 128 = .ok (.iconst 1, 1) := by decide +kernel
theorem dX3_nextToken_129 : decode cX3_nextToken 129 = .ok (.putfield 46, 3) := by decide +kernel
theorem dX3_nextToken_132 : decode cX3_nextToken 132 = .ok (.aload_n 0, 1) := by decide +kernel
theorem dX3_nextToken_133 : decode cX3_nextToken 133 = .ok (.getfield 74, 3) := by decide +kernel
theorem dX3_nextToken_136 : decode cX3_nextToken 136 = .ok (.aload_n 0, 1) := by decide +kernel
theorem dX3_nextToken_137 : decode cX3_nextToken 137 = .ok (.getfield 33, 3) := by decide +kernel
theorem dX3_nextToken_140 : decode cX3_nextToken 140 = .ok (.if_icmp .ge 27, 3) := by decide +kernel
theorem dX3_nextToken_143 : decode cX3_nextToken 143 = .ok (.aload_n 0, 1) := by decide +kernel
theorem dX3_nextToken_144 : decode cX3_nextToken 144 = .ok (.aload_n 0, 1) := by decide +kernel
theorem dX3_nextToken_145 : decode cX3_nextToken 145 = .ok (.getfield 74, 3) := by decide +kernel
theorem dX3_nextToken_148 : decode cX3_nextToken 148 = .ok (.invokevirtual 90, 3) := by decide +kernel
theorem dX3_nextToken_151 : decode cX3_nextToken 151 = .ok (.ifCond .eq 16, 3) := by decide +kernel
theorem dX3_nextToken_154 : decode cX3_nextToken 154 = .ok (.aload_n 0, 1) := by decide +kernel
theorem dX3_nextToken_155 : decode cX3_nextToken 155 = .ok (.dup, 1) := by decide +kernel
theorem dX3_nextToken_156 : decode cX3_nextToken 156 = .ok (.getfield 74, 3) := by decide +kernel
theorem dX3_nextToken_159 : decode cX3_nextToken 159 = .ok (.iconst 1, 1) := by decide +kernel
theorem dX3_nextToken_160 : decode cX3_nextToken 160 = .ok (.iadd, 1) := by decide +kernel
theorem dX3_nextToken_161 : decode cX3_nextToken 161 = .ok (.putfield 74, 3) := by decide +kernel
theorem dX3_nextToken_164 : decode cX3_nextToken 164 = .ok (.goto (-32), 3) := by decide +kernel
theorem dX3_nextToken_167 : decode cX3_nextToken 167 = .ok (.aload_n 0, 1) := by decide +kernel
theorem dX3_nextToken_168 : decode cX3_nextToken 168 = .ok (.getfield 74, 3) := by decide +kernel
theorem dX3_nextToken_171 : decode cX3_nextToken 171 = .ok (.aload_n 0, 1) := by decide +kernel
theorem dX3_nextToken_172 : decode cX3_nextToken 172 = .ok (.getfield 84, 3) := by decide +kernel
theorem dX3_nextToken_175 : decode cX3_nextToken 175 = .ok (.isub, 1) := by decide +kernel
theorem dX3_nextToken_176 : decode cX3_nextToken 176 = .ok (.iconst 2, 1) := by decide +kernel
theorem dX3_nextToken_177 : decode cX3_nextToken 177 = .ok (.if_icmp .le 48, 3) := by decide +kernel
theorem dX3_nextToken_180 : decode cX3_nextToken 180 = .ok (.aload_n 0, 1) := by decide +kernel
theorem dX3_nextToken_181 : decode cX3_nextToken 181 = .ok (.iconst 1, 1) := by decide +kernel
theorem dX3_nextToken_182 : decode cX3_nextToken 182 = .ok (.invokevirtual 93, 3) := by decide +kernel
theorem dX3_nextToken_185 : decode cX3_nextToken 185 = .ok (.goto 40, 3) := by decide +kernel
theorem dX3_nextToken_188 : decode cX3_nextToken 188 = .ok (.aload_n 0, 1) := by decide +kernel
theorem dX3_nextToken_189 : decode cX3_nextToken 189 = .ok (.getfield 25, 3) := by decide +kernel
theorem dX3_nextToken_192 : decode cX3_nextToken 192 = .ok (.aload_n 0, 1) := by decide +kernel
theorem dX3_nextToken_193 : decode cX3_nextToken 193 = .ok (.getfield 74, 3) := by decide +kernel
theorem dX3_nextToken_196 : decode cX3_nextToken 196 = .ok (.baload, 1) := by decide +kernel
theorem dX3_nextToken_197 : decode cX3_nextToken 197 = .ok (.bipush 59, 2) := by decide +kernel
theorem dX3_nextToken_199 : decode cX3_nextToken 199 = .ok (.if_icmp .ne 21, 3) := by decide +kernel
theorem dX3_nextToken_202 : decode cX3_nextToken 202 = .ok (.aload_n 0, 1) := by decide +kernel
theorem dX3_nextToken_203 : decode cX3_nextToken 203 = .ok (.iconst 2, 1) := by decide +kernel
theorem dX3_nextToken_204 : decode cX3_nextToken 204 = .ok (.putfield 46, 3) := by decide +kernel
theorem dX3_nextToken_207 : decode cX3_nextToken 207 = .ok (.aload_n 0, 1) := by decide +kernel
theorem dX3_nextToken_208 : decode cX3_nextToken 208 = .ok (.dup, 1) := by decide +kernel
theorem dX3_nextToken_209 : decode cX3_nextToken 209 = .ok (.getfield 74, 3) := by decide +kernel
theorem dX3_nextToken_212 : decode cX3_nextToken 212 = .ok (.iconst 1, 1) := by decide +kernel
theorem dX3_nextToken_213 : decode cX3_nextToken 213 = .ok (.iadd, 1) := by decide +kernel
theorem dX3_nextToken_214 : decode cX3_nextToken 214 = .ok (.putfield 74, 3) := by decide +kernel
theorem dX3_nextToken_217 : decode cX3_nextToken 217 = .ok (.goto 8, 3) := by decide +kernel
theorem dX3_nextToken_220 : decode cX3_nextToken 220 = .ok (.aload_n 0, 1) := by decide +kernel
theorem dX3_nextToken_221 : decode cX3_nextToken 221 = .ok (.iconst 1, 1) := by decide +kernel
theorem dX3_nextToken_222 : decode cX3_nextToken 222 = .ok (.invokevirtual 93, 3) := by decide +kernel
theorem dX3_nextToken_225 : decode cX3_nextToken 225 = .ok (.return_, 1) := by decide +kernel
theorem dX3_isLetter_0 : decode cX3_isLetter 0 = .ok (.aload_n 0, 1) := by decide +kernel
theorem dX3_isLetter_1 : decode cX3_isLetter 1 = .ok (.getfield 25, 3) := by decide +kernel
theorem dX3_isLetter_4 : decode cX3_isLetter 4 = .ok (.iload_n 1, 1) := by decide +kernel
theorem dX3_isLetter_5 : decode cX3_isLetter 5 = .ok (.baload, 1) := by decide +kernel
theorem dX3_isLetter_6 : decode cX3_isLetter 6 = .ok (.bipush 97, 2) := by decide +kernel
theorem dX3_isLetter_8 : decode cX3_isLetter 8 = .ok (.if_icmp .lt 18, 3) := by decide +kernel
theorem dX3_isLetter_11 : decode cX3_isLetter 11 = .ok (.aload_n 0, 1) := by decide +kernel
theorem dX3_isLetter_12 : decode cX3_isLetter 12 = .ok (.getfield 25, 3) := by decide +kernel
theorem dX3_isLetter_15 : decode cX3_isLetter 15 = .ok (.iload_n 1, 1) := by decide +kernel
theorem dX3_isLetter_16 : decode cX3_isLetter 16 = .ok (.baload, 1) := by decide +kernel
theorem dX3_isLetter_17 : decode cX3_isLetter 17 = .ok (.bipush 122, 2) := by decide +kernel
theorem dX3_isLetter_19 : decode cX3_isLetter 19 = .ok (.if_icmp .gt 7, 3) := by decide +kernel
theorem dX3_isLetter_22 : decode cX3_isLetter 22 = .ok (.iconst 1, 1) := by decide +kernel
theorem dX3_isLetter_23 : decode cX3_isLetter 23 = .ok (.goto 4, 3) := by decide +kernel
theorem dX3_isLetter_26 : decode cX3_isLetter 26 = .ok (.iconst 0, 1) := by decide +kernel
theorem dX3_isLetter_27 : decode cX3_isLetter 27 = .ok (.ireturn, 1) := by decide +kernel
theorem dX3_isFigure_0 : decode cX3_isFigure 0 = .ok (.aload_n 0, 1) := by decide +kernel
theorem dX3_isFigure_1 : decode cX3_isFigure 1 = .ok (.getfield 25, 3) := by decide +kernel
theorem dX3_isFigure_4 : decode cX3_isFigure 4 = .ok (.iload_n 1, 1) := by decide +kernel
theorem dX3_isFigure_5 : decode cX3_isFigure 5 = .ok (.baload, 1) := by decide +kernel
theorem dX3_isFigure_6 : decode cX3_isFigure 6 = .ok (.bipush 48, 2) := by decide +kernel
theorem dX3_isFigure_8 : decode cX3_isFigure 8 = .ok (.if_icmp .lt 18, 3) := by decide +kernel
theorem dX3_isFigure_11 : decode cX3_isFigure 11 = .ok (.aload_n 0, 1) := by decide +kernel
theorem dX3_isFigure_12 : decode cX3_isFigure 12 = .ok (.getfield 25, 3) := by decide +kernel
theorem dX3_isFigure_15 : decode cX3_isFigure 15 = .ok (.iload_n 1, 1) := by decide +kernel
theorem dX3_isFigure_16 : decode cX3_isFigure 16 = .ok (.baload, 1) := by decide +kernel
theorem dX3_isFigure_17 : decode cX3_isFigure 17 = .ok (.bipush 57, 2) := by decide +kernel
theorem dX3_isFigure_19 : decode cX3_isFigure 19 = .ok (.if_icmp .gt 7, 3) := by decide +kernel
theorem dX3_isFigure_22 : decode cX3_isFigure 22 = .ok (.iconst 1, 1) := by decide +kernel
theorem dX3_isFigure_23 : decode cX3_isFigure 23 = .ok (.goto 4, 3) := by decide +kernel
theorem dX3_isFigure_26 : decode cX3_isFigure 26 = .ok (.iconst 0, 1) := by decide +kernel
theorem dX3_isFigure_27 : decode cX3_isFigure 27 = .ok (.ireturn, 1) := by decide +kernel
set_option maxRecDepth 20000 in
theorem ggX3_readLine_X3_wordRead : GoodIn wsX3_readLine wsX3_wordRead := goodIn_r _ [10, 11, 12, 13, 9, 14, 15, 16, 17, 18, 19, 20, 21, 22, 23, 24, 25, 26, 27, 28, 29, 30, 31, 32, 33, 34, 35, 36, 37, 38, 39, 40, 41, 42, 43, 44, 45, 46, 47, 48, 49, 50, 51, 52, 53, 54, 55, 56, 57, 58, 59, 60, 61, 62, 63, 64, 65, 66, 127, 128, 129, 130, 131, 132, 133, 134, 135, 136, 137, 138] (by decide +kernel) (by decide +kernel)
set_option maxRecDepth 20000 in
theorem gX3_readLine_X3_wordRead : GoodIn wsX3_readLine (wsV RX3 97 RX3 yX3_wordRead wsX3_wordRead) := goodIn_app (goodIn_of _ (by decide +kernel)) ggX3_readLine_X3_wordRead
set_option maxRecDepth 20000 in
theorem ggX3_readLine_X3_refuse : GoodIn wsX3_readLine wsX3_refuse := goodIn_r _ [70, 3, 16, 71, 127, 128, 129, 130, 131, 132, 133, 134, 135, 136, 137, 138] (by decide +kernel) (by decide +kernel)
set_option maxRecDepth 20000 in
theorem gX3_readLine_X3_refuse : GoodIn wsX3_readLine (wsV RX3 93 RX3 yX3_refuse wsX3_refuse) := goodIn_app (goodIn_of _ (by decide +kernel)) ggX3_readLine_X3_refuse
set_option maxRecDepth 20000 in
theorem ggX3_readLine_X3_faultOfWord : GoodIn wsX3_readLine wsX3_faultOfWord := goodIn_r _ [75, 76, 77, 78, 79, 80, 81, 82, 127, 128, 129, 130, 131, 132, 133, 134, 135, 136, 137, 138, 139, 140, 141, 142, 143, 144, 145, 146, 147, 148, 149, 150, 151, 152, 153, 154, 155, 156, 157] (by decide +kernel) (by decide +kernel)
set_option maxRecDepth 20000 in
theorem gX3_readLine_X3_faultOfWord : GoodIn wsX3_readLine (wsV RX3 101 RX3 yX3_faultOfWord wsX3_faultOfWord) := goodIn_app (goodIn_of _ (by decide +kernel)) ggX3_readLine_X3_faultOfWord
set_option maxRecDepth 20000 in
theorem ggX3_readLine_X3_readNumber : GoodIn wsX3_readLine wsX3_readNumber := goodIn_r _ [86, 3, 16, 15, 17, 87, 88, 89, 9, 90, 1, 91, 92, 93, 94, 95, 96, 97, 98, 99, 100, 101, 102, 103, 67, 68, 69, 70, 71, 127, 128, 129, 130, 131, 132, 133, 134, 135, 136, 137, 138] (by decide +kernel) (by decide +kernel)
set_option maxRecDepth 20000 in
theorem gX3_readLine_X3_readNumber : GoodIn wsX3_readLine (wsV RX3 111 RX3 yX3_readNumber wsX3_readNumber) := goodIn_app (goodIn_of _ (by decide +kernel)) ggX3_readLine_X3_readNumber
set_option maxRecDepth 20000 in
theorem ggX3_readLine_X3_expect : GoodIn wsX3_readLine wsX3_expect := goodIn_r _ [90, 3, 1, 91, 92, 93, 9, 94, 15, 95, 17, 16, 96, 97, 98, 99, 100, 101, 102, 103, 67, 68, 69, 70, 71, 127, 128, 129, 130, 131, 132, 133, 134, 135, 136, 137, 138] (by decide +kernel) (by decide +kernel)
set_option maxRecDepth 20000 in
theorem gX3_readLine_X3_expect : GoodIn wsX3_readLine (wsV RX3 114 RX3 yX3_expect wsX3_expect) := goodIn_app (goodIn_of _ (by decide +kernel)) ggX3_readLine_X3_expect
set_option maxRecDepth 20000 in
theorem ggX3_readLine_X3_tell : GoodIn wsX3_readLine wsX3_tell := goodIn_r _ [107, 81, 4, 108, 76, 109, 77, 110, 82, 111, 112, 113, 114, 9, 115, 78, 79, 116, 117, 118, 119, 120, 121, 122, 123, 80, 124, 125, 126, 127, 128, 129, 130, 131, 132, 133, 134, 135, 136, 137, 138, 147, 148, 149, 150, 151, 152, 153, 154, 155, 156, 157, 139, 140, 141, 142, 143, 144, 145, 146] (by decide +kernel) (by decide +kernel)
set_option maxRecDepth 20000 in
theorem gX3_readLine_X3_tell : GoodIn wsX3_readLine (wsV RX3 117 RX3 yX3_tell wsX3_tell) := goodIn_app (goodIn_of _ (by decide +kernel)) ggX3_readLine_X3_tell
theorem dX3_readLine_0 : decode cX3_readLine 0 = .ok (.aload_n 0, 1) := by decide +kernel
theorem dX3_readLine_1 : decode cX3_readLine 1 = .ok (.getfield 46, 3) := by decide +kernel
theorem dX3_readLine_4 : decode cX3_readLine 4 = .ok (.ifCond .ne 10, 3) := by decide +kernel
theorem dX3_readLine_7 : decode cX3_readLine 7 = .ok (.aload_n 0, 1) := by decide +kernel
theorem dX3_readLine_8 : decode cX3_readLine 8 = .ok (.invokevirtual 97, 3) := by decide +kernel
theorem dX3_readLine_11 : decode cX3_readLine 11 = .ok (.goto 4, 3) := by decide +kernel
theorem dX3_readLine_14 : decode cX3_readLine 14 = .ok (.iconst (-1), 1) := by decide +kernel
theorem dX3_readLine_15 : decode cX3_readLine 15 = .ok (.istore_n 1, 1) := by decide +kernel
theorem dX3_readLine_16 : decode cX3_readLine 16 = .ok (.iload_n 1, 1) := by decide +kernel
theorem dX3_readLine_17 : decode cX3_readLine 17 = .ok (.iconst (-1), 1) := by decide +kernel
theorem dX3_readLine_18 : decode cX3_readLine 18 = .ok (.if_icmp .ne 9, 3) := by decide +kernel
theorem dX3_readLine_21 : decode cX3_readLine 21 = .ok (.aload_n 0, 1) := by decide +kernel
theorem dX3_readLine_22 : decode cX3_readLine 22 = .ok (.iconst 2, 1) := by decide +kernel
theorem dX3_readLine_23 : decode cX3_readLine 23 = .ok (.invokevirtual 93, 3) := by decide +kernel
theorem dX3_readLine_26 : decode cX3_readLine 26 = .ok (.return_, 1) := by decide +kernel
theorem dX3_readLine_27 : decode cX3_readLine 27 = .ok (.aload_n 0, 1) := by decide +kernel
theorem dX3_readLine_28 : decode cX3_readLine 28 = .ok (.iload_n 1, 1) := by decide +kernel
theorem dX3_readLine_29 : decode cX3_readLine 29 = .ok (.invokevirtual 101, 3) := by decide +kernel
theorem dX3_readLine_32 : decode cX3_readLine 32 = .ok (.istore_n 2, 1) := by decide +kernel
theorem dX3_readLine_33 : decode cX3_readLine 33 = .ok (.iload_n 2, 1) := by decide +kernel
theorem dX3_readLine_34 : decode cX3_readLine 34 = .ok (.ifCond .eq 9, 3) := by decide +kernel
theorem dX3_readLine_37 : decode cX3_readLine 37 = .ok (.aload_n 0, 1) := by decide +kernel
