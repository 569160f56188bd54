theorem dX7_best_103 : decode cX7_best 103 = .ok (.iload_n 2, 1) := by decide +kernel
theorem dX7_best_104 : decode cX7_best 104 = .ok (.bipush 10, 2) := by decide +kernel
theorem dX7_best_106 : decode cX7_best 106 = .ok (.idiv, 1) := by decide +kernel
theorem dX7_best_107 : decode cX7_best 107 = .ok (.ireturn, 1) := by decide +kernel
set_option maxRecDepth 20000 in
theorem ggX7_save_X7_isOne : GoodIn wsX7_save wsX7_isOne := goodIn_r _ [8, 9, 10, 11, 7, 12, 68, 69, 70, 71, 72, 73, 74, 75, 76, 77, 78, 79, 80, 81, 82, 83, 84, 85, 86, 87, 88, 89, 90, 91, 92, 93, 94, 95, 96, 97, 98, 99, 100, 101, 102, 103, 104, 105, 106] (by decide +kernel) (by decide +kernel)
set_option maxRecDepth 20000 in
theorem gX7_save_X7_isOne : GoodIn wsX7_save (wsV RX7 210 RX7 yX7_isOne wsX7_isOne) := goodIn_app (goodIn_of _ (by decide +kernel)) ggX7_save_X7_isOne
set_option maxRecDepth 20000 in
theorem ggX7_save_X7_isPlan : GoodIn wsX7_save wsX7_isPlan := goodIn_r _ [16, 2, 17, 3, 68, 69, 70, 71, 72, 73, 74, 75, 76, 77, 78, 79, 80, 81, 82, 83, 84, 85, 86, 87, 88, 89, 90, 91, 92, 93, 94, 95, 96, 97, 98, 99, 100, 101, 102, 103, 104, 105, 106] (by decide +kernel) (by decide +kernel)
set_option maxRecDepth 20000 in
theorem gX7_save_X7_isPlan : GoodIn wsX7_save (wsV RX7 247 RX7 yX7_isPlan wsX7_isPlan) := goodIn_app (goodIn_of _ (by decide +kernel)) ggX7_save_X7_isPlan
set_option maxRecDepth 20000 in
theorem ggX7_save_X7_bitsOf : GoodIn wsX7_save wsX7_bitsOf := goodIn_r _ [20] (by decide +kernel) (by decide +kernel)
set_option maxRecDepth 20000 in
theorem gX7_save_X7_bitsOf : GoodIn wsX7_save (va_wsS RX7 257 yX7_bitsOf wsX7_bitsOf) := goodIn_app (goodIn_of _ (by decide +kernel)) ggX7_save_X7_bitsOf
set_option maxRecDepth 20000 in
theorem ggX7_save_X7_startsBy : GoodIn wsX7_save wsX7_startsBy := goodIn_r _ [24, 25, 26, 27, 28, 7, 29, 3, 68, 69, 70, 71, 72, 73, 74, 75, 76, 77, 78, 79, 80, 81, 82, 83, 84, 85, 86, 87, 88, 89, 90, 91, 92, 93, 94, 95, 96, 97, 98, 99, 100, 101, 102, 103, 104, 105, 106] (by decide +kernel) (by decide +kernel)
set_option maxRecDepth 20000 in
theorem gX7_save_X7_startsBy : GoodIn wsX7_save (wsV RX7 250 RX7 yX7_startsBy wsX7_startsBy) := goodIn_app (goodIn_of _ (by decide +kernel)) ggX7_save_X7_startsBy
set_option maxRecDepth 20000 in
theorem ggX7_save_X7_weeksLeft : GoodIn wsX7_save wsX7_weeksLeft := goodIn_r _ [33, 3, 68, 69, 70, 71, 72, 73, 74, 75, 76, 77, 78, 79, 80, 81, 82, 83, 84, 85, 86, 87, 88, 89, 90, 91, 92, 93, 94, 95, 96, 97, 98, 99, 100, 101, 102, 103, 104, 105, 106] (by decide +kernel) (by decide +kernel)
set_option maxRecDepth 20000 in
theorem gX7_save_X7_weeksLeft : GoodIn wsX7_save (wsV RX7 253 RX7 yX7_weeksLeft wsX7_weeksLeft) := goodIn_app (goodIn_of _ (by decide +kernel)) ggX7_save_X7_weeksLeft
set_option maxRecDepth 20000 in
theorem ggX7_save_X7_weeksGo : GoodIn wsX7_save wsX7_weeksGo := goodIn_r _ [37, 38, 39, 40, 7, 41, 25, 42, 2, 17, 43, 44, 45, 9, 46, 47, 48, 49, 50, 51, 52, 53, 54, 55, 56, 57, 58, 59, 60, 61, 62, 63, 64, 65, 66, 67, 68, 69, 70, 71, 72, 73, 74, 75, 76, 77, 78, 79, 80, 81, 82, 83, 84, 85, 86, 87, 88, 89, 90, 91, 92, 93, 94, 95, 96, 97, 98, 99, 100, 101, 102, 103, 104, 105, 106] (by decide +kernel) (by decide +kernel)
set_option maxRecDepth 20000 in
theorem gX7_save_X7_weeksGo : GoodIn wsX7_save (wsV RX7 204 RX7 yX7_weeksGo wsX7_weeksGo) := goodIn_app (goodIn_of _ (by decide +kernel)) ggX7_save_X7_weeksGo
set_option maxRecDepth 20000 in
theorem ggX7_save_X7_of : GoodIn wsX7_save wsX7_of := goodIn_r _ [54, 25, 68, 69, 70, 71, 72, 73, 74, 75, 76, 77, 78, 79, 80, 81, 82, 83, 84, 85, 86, 87, 88, 89, 90, 91, 92, 93, 94, 95, 96, 97, 98, 99, 100, 101, 102, 103, 104, 105, 106] (by decide +kernel) (by decide +kernel)
set_option maxRecDepth 20000 in
theorem gX7_save_X7_of : GoodIn wsX7_save (wsV RX7 182 RX7 yX7_of wsX7_of) := goodIn_app (goodIn_of _ (by decide +kernel)) ggX7_save_X7_of
theorem dX7_save_0 : decode cX7_save 0 = .ok (.aload_n 0, 1) := by decide +kernel
theorem dX7_save_1 : decode cX7_save 1 = .ok (.iload_n 1, 1) := by decide +kernel
theorem dX7_save_2 : decode cX7_save 2 = .ok (.invokevirtual 210, 3) := by decide +kernel
theorem dX7_save_5 : decode cX7_save 5 = .ok (.ifCond .ne 5, 3) := by decide +kernel
theorem dX7_save_8 : decode cX7_save 8 = .ok (.iconst (-1), 1) := by decide +kernel
theorem dX7_save_9 : decode cX7_save 9 = .ok (.ireturn, 1) := by decide +kernel
theorem dX7_save_10 : decode cX7_save 10 = .ok (.ldc_w 256, 3) := by decide +kernel
theorem dX7_save_13 : decode cX7_save 13 = .ok (.istore_n 2, 1) := by decide +kernel
theorem dX7_save_14 : decode cX7_save 14 = .ok (.bipush (-4), 2) := by decide +kernel
theorem dX7_save_16 : decode cX7_save 16 = .ok (.istore_n 3, 1) := by decide +kernel
theorem dX7_save_17 : decode cX7_save 17 = .ok (.iconst 0, 1) := by decide +kernel
theorem dX7_save_18 : decode cX7_save 18 = .ok (.istore 4, 2) := by decide +kernel
theorem dX7_save_20 : decode cX7_save 20 = .ok (.iload 4, 2) := by decide +kernel
theorem dX7_save_22 : decode cX7_save 22 = .ok (.iconst 1, 1) := by decide +kernel
theorem dX7_save_23 : decode cX7_save 23 = .ok (.aload_n 0, 1) := by decide +kernel
theorem dX7_save_24 : decode cX7_save 24 = .ok (.getfield 102, 3) := by decide +kernel
theorem dX7_save_27 : decode cX7_save 27 = .ok (.ishl, 1) := by decide +kernel
theorem dX7_save_28 : decode cX7_save 28 = .ok (.if_icmp .ge 94, 3) := by decide +kernel
theorem dX7_save_31 : decode cX7_save 31 = .ok (.aload_n 0, 1) := by decide +kernel
theorem dX7_save_32 : decode cX7_save 32 = .ok (.iload 4, 2) := by decide +kernel
theorem dX7_save_34 : decode cX7_save 34 = .ok (.invokevirtual 247, 3) := by decide +kernel
theorem dX7_save_37 : decode cX7_save 37 = .ok (.ifCond .eq 79, 3) := by decide +kernel
theorem dX7_save_40 : decode cX7_save 40 = .ok (.iload 4, 2) := by decide +kernel
theorem dX7_save_42 : decode cX7_save 42 = .ok (.invokestatic 257, 3) := by decide +kernel
theorem dX7_save_45 : decode cX7_save 45 = .ok (.iload_n 2, 1) := by decide +kernel
theorem dX7_save_46 : decode cX7_save 46 = .ok (.if_icmp .ge 70, 3) := by decide +kernel
theorem dX7_save_49 : decode cX7_save 49 = .ok (.aload_n 0, 1) := by decide +kernel
theorem dX7_save_50 : decode cX7_save 50 = .ok (.iload 4, 2) := by decide +kernel
theorem dX7_save_52 : decode cX7_save 52 = .ok (.invokevirtual 250, 3) := by decide +kernel
theorem dX7_save_55 : decode cX7_save 55 = .ok (.aload_n 0, 1) := by decide +kernel
theorem dX7_save_56 : decode cX7_save 56 = .ok (.aload_n 0, 1) := by decide +kernel
theorem dX7_save_57 : decode cX7_save 57 = .ok (.invokevirtual 253, 3) := by decide +kernel
theorem dX7_save_60 : decode cX7_save 60 = .ok (.invokevirtual 204, 3) := by decide +kernel
theorem dX7_save_63 : decode cX7_save 63 = .ok (.aload_n 0, 1) := by decide +kernel
theorem dX7_save_64 : decode cX7_save 64 = .ok (.iload_n 1, 1) := by decide +kernel
theorem dX7_save_65 : decode cX7_save 65 = .ok (.iconst 3, 1) := by decide +kernel
theorem dX7_save_66 : decode cX7_save 66 = .ok (.invokevirtual 182, 3) := by decide +kernel
theorem dX7_save_69 : decode cX7_save 69 = .ok (.aload_n 0, 1) := by decide +kernel
theorem dX7_save_70 : decode cX7_save 70 = .ok (.getfield 7, 3) := by decide +kernel
theorem dX7_save_73 : decode cX7_save 73 = .ok (.iconst 4, 1) := by decide +kernel
theorem dX7_save_74 : decode cX7_save 74 = .ok (.iload_n 1, 1) := by decide +kernel
theorem dX7_save_75 : decode cX7_save 75 = .ok (.imul, 1) := by decide +kernel
theorem dX7_save_76 : decode cX7_save 76 = .ok (.iconst 3, 1) := by decide +kernel
theorem dX7_save_77 : decode cX7_save 77 = .ok (.iadd, 1) := by decide +kernel
theorem dX7_save_78 : decode cX7_save 78 = .ok (.iaload, 1) := by decide +kernel
theorem dX7_save_79 : decode cX7_save 79 = .ok (.if_icmp .ne 7, 3) := by decide +kernel
theorem dX7_save_82 : decode cX7_save 82 = .ok (.iconst 1, 1) := by decide +kernel
theorem dX7_save_83 : decode cX7_save 83 = .ok (.goto 4, 3) := by decide +kernel
theorem dX7_save_86 : decode cX7_save 86 = .ok (.iconst 0, 1) := by decide +kernel
theorem dX7_save_87 : decode cX7_save 87 = .ok (.istore 5, 2) := by decide +kernel
theorem dX7_save_89 : decode cX7_save 89 = .ok (.iload 5, 2) := by decide +kernel
theorem dX7_save_91 : decode cX7_save 91 = .ok (.ifCond .eq 8, 3) := by decide +kernel
theorem dX7_save_94 : decode cX7_save 94 = .ok (.iload 4, 2) := by decide +kernel
theorem dX7_save_96 : decode cX7_save 96 = .ok (.goto 4, 3) := by decide +kernel
theorem dX7_save_99 : decode cX7_save 99 = .ok (.iload_n 3, 1) := by decide +kernel
theorem dX7_save_100 : decode cX7_save 100 = .ok (.istore_n 3, 1) := by decide +kernel
theorem dX7_save_101 : decode cX7_save 101 = .ok (.iload 5, 2) := by decide +kernel
theorem dX7_save_103 : decode cX7_save 103 = .ok (.ifCond .eq 11, 3) := by decide +kernel
theorem dX7_save_106 : decode cX7_save 106 = .ok (.iload 4, 2) := by decide +kernel
theorem dX7_save_108 : decode cX7_save 108 = .ok (.invokestatic 257, 3) := by decide +kernel
theorem dX7_save_111 : decode cX7_save 111 = .ok (.goto 4, 3) := by decide +kernel
theorem dX7_save_114 : decode cX7_save 114 = .ok (.iload_n 2, 1) := by decide +kernel
theorem dX7_save_115 : decode cX7_save 115 = .ok (.istore_n 2, 1) := by decide +kernel
theorem dX7_save_116 : decode cX7_save 116 = .ok (.iinc 4 1, 3) := by decide +kernel
theorem dX7_save_119 : decode cX7_save 119 = .ok (.goto (-99), 3) := by decide +kernel
theorem dX7_save_122 : decode cX7_save 122 = .ok (.iload_n 3, 1) := by decide +kernel
theorem dX7_save_123 : decode cX7_save 123 = .ok (.ireturn, 1) := by decide +kernel
set_option maxRecDepth 20000 in
theorem ggX7_runs_X7_of : GoodIn wsX7_runs wsX7_of := goodIn_r _ [7, 2, 12, 13, 14, 15, 16, 17, 18, 19, 20, 21, 22, 23, 24, 25, 26, 27, 28, 29, 30, 31, 32, 33, 34, 35, 36, 37, 38, 39, 40, 41, 42, 43, 44, 45, 46, 47, 48, 49, 50] (by decide +kernel) (by decide +kernel)
set_option maxRecDepth 20000 in
theorem gX7_runs_X7_of : GoodIn wsX7_runs (wsV RX7 182 RX7 yX7_of wsX7_of) := goodIn_app (goodIn_of _ (by decide +kernel)) ggX7_runs_X7_of
set_option maxRecDepth 20000 in
theorem ggX7_runs_X7_more : GoodIn wsX7_runs wsX7_more := goodIn_r _ [11, 2, 12, 13, 14, 15, 16, 17, 18, 19, 20, 21, 22, 23, 24, 25, 26, 27, 28, 29, 30, 31, 32, 33, 34, 35, 36, 37, 38, 39, 40, 41, 42, 43, 44, 45, 46, 47, 48, 49, 50] (by decide +kernel) (by decide +kernel)
set_option maxRecDepth 20000 in
theorem gX7_runs_X7_more : GoodIn wsX7_runs (wsV RX7 188 RX7 yX7_more wsX7_more) := goodIn_app (goodIn_of _ (by decide +kernel)) ggX7_runs_X7_more
theorem dX7_runs_0 : decode cX7_runs 0 = .ok (.iconst 1, 1) := by decide +kernel
theorem dX7_runs_1 : decode cX7_runs 1 = .ok (.istore_n 1, 1) := by decide +kernel
theorem dX7_runs_2 : decode cX7_runs 2 = .ok (.iload_n 1, 1) := by decide +kernel
theorem dX7_runs_3 : decode cX7_runs 3 = .ok (.ifCond .eq 74, 3) := by decide +kernel
theorem dX7_runs_6 : decode cX7_runs 6 = .ok (.iconst 0, 1) := by decide +kernel
theorem dX7_runs_7 : decode cX7_runs 7 = .ok (.istore_n 1, 1) := by decide +kernel
theorem dX7_runs_8 : decode cX7_runs 8 = .ok (.iconst 0, 1) := by decide +kernel
theorem dX7_runs_9 : decode cX7_runs 9 = .ok (.istore_n 2, 1) := by decide +kernel
theorem dX7_runs_10 : decode cX7_runs 10 = .ok (.iload_n 2, 1) := by decide +kernel
theorem dX7_runs_11 : decode cX7_runs 11 = .ok (.aload_n 0, 1) := by decide +kernel
theorem dX7_runs_12 : decode cX7_runs 12 = .ok (.getfield 99, 3) := by decide +kernel
theorem dX7_runs_15 : decode cX7_runs 15 = .ok (.if_icmp .ge 59, 3) := by decide +kernel
theorem dX7_runs_18 : decode cX7_runs 18 = .ok (.aload_n 0, 1) := by decide +kernel
theorem dX7_runs_19 : decode cX7_runs 19 = .ok (.iload_n 2, 1) := by decide +kernel
theorem dX7_runs_20 : decode cX7_runs 20 = .ok (.iconst 2, 1) := by decide +kernel
theorem dX7_runs_21 : decode cX7_runs 21 = .ok (.invokevirtual 182, 3) := by decide +kernel
theorem dX7_runs_24 : decode cX7_runs 24 = .ok (.istore_n 3, 1) := by decide +kernel
theorem dX7_runs_25 : decode cX7_runs 25 = .ok (.iload_n 3, 1) := by decide +kernel
theorem dX7_runs_26 : decode cX7_runs 26 = .ok (.ifCond .le 42, 3) := by decide +kernel
theorem dX7_runs_29 : decode cX7_runs 29 = .ok (.iload_n 3, 1) := by decide +kernel
theorem dX7_runs_30 : decode cX7_runs 30 = .ok (.aload_n 0, 1) := by decide +kernel
theorem dX7_runs_31 : decode cX7_runs 31 = .ok (.getfield 13, 3) := by decide +kernel
theorem dX7_runs_34 : decode cX7_runs 34 = .ok (.bipush 24, 2) := by decide +kernel
theorem dX7_runs_36 : decode cX7_runs 36 = .ok (.iaload, 1) := by decide +kernel
theorem dX7_runs_37 : decode cX7_runs 37 = .ok (.if_icmp .gt 31, 3) := by decide +kernel
theorem dX7_runs_40 : decode cX7_runs 40 = .ok (.aload_n 0, 1) := by decide +kernel
theorem dX7_runs_41 : decode cX7_runs 41 = .ok (.getfield 13, 3) := by decide +kernel
theorem dX7_runs_44 : decode cX7_runs 44 = .ok (.bipush 24, 2) := by decide +kernel
theorem dX7_runs_46 : decode cX7_runs 46 = .ok (.dup2, 1) := by decide +kernel
theorem dX7_runs_47 : decode cX7_runs 47 = .ok (.iaload, 1) := by decide +kernel
theorem dX7_runs_48 : decode cX7_runs 48 = .ok (.iload_n 3, 1) := by decide +kernel
theorem dX7_runs_49 : decode cX7_runs 49 = .ok (.isub, 1) := by decide +kernel
theorem dX7_runs_50 : decode cX7_runs 50 = .ok (.iastore, 1) := by decide +kernel
theorem dX7_runs_51 : decode cX7_runs 51 = .ok (.aload_n 0, 1) := by decide +kernel
theorem dX7_runs_52 : decode cX7_runs 52 = .ok (.iload_n 2, 1) := by decide +kernel
theorem dX7_runs_53 : decode cX7_runs 53 = .ok (.iconst 1, 1) := by decide +kernel
theorem dX7_runs_54 : decode cX7_runs 54 = .ok (.iload_n 3, 1) := by decide +kernel
theorem dX7_runs_55 : decode cX7_runs 55 = .ok (.invokevirtual 188, 3) := by decide +kernel
theorem dX7_runs_58 : decode cX7_runs 58 = .ok (.aload_n 0, 1) := by decide +kernel
theorem dX7_runs_59 : decode cX7_runs 59 = .ok (.iload_n 2, 1) := by decide +kernel
theorem dX7_runs_60 : decode cX7_runs 60 = .ok (.iconst 2, 1) := by decide +kernel
theorem dX7_runs_61 : decode cX7_runs 61 = .ok (.iload_n 3, 1) := by decide +kernel
theorem dX7_runs_62 : decode cX7_runs 62 = .ok (.ineg, 1) := by decide +kernel
theorem dX7_runs_63 : decode cX7_runs 63 = .ok (.invokevirtual 188, 3) := by decide +kernel
theorem dX7_runs_66 : decode cX7_runs 66 = .ok (.iconst 1, 1) := by decide +kernel
theorem dX7_runs_67 : decode cX7_runs 67 = .ok (.istore_n 1, 1) := by decide +kernel
theorem dX7_runs_68 : decode cX7_runs 68 = .ok (.iinc 2 1, 3) := by decide +kernel
theorem dX7_runs_71 : decode cX7_runs 71 = .ok (.goto (-61), 3) := by decide +kernel
theorem dX7_runs_74 : decode cX7_runs 74 = .ok (.goto (-72), 3) := by decide +kernel
theorem dX7_runs_77 : decode cX7_runs 77 = .ok (.return_, 1) := by decide +kernel
set_option maxRecDepth 20000 in
theorem ggX7_allOf_X7_of : GoodIn wsX7_allOf wsX7_of := goodIn_r _ [6, 7, 8, 9, 10, 11, 12, 13, 14, 15, 16, 17, 18, 19, 20, 21, 22, 23, 24, 25, 26, 27, 28, 29, 30, 31, 32, 33, 34, 35, 36, 37, 38, 39, 40, 41, 42, 43, 44, 45, 46] (by decide +kernel) (by decide +kernel)
set_option maxRecDepth 20000 in
theorem gX7_allOf_X7_of : GoodIn wsX7_allOf (wsV RX7 182 RX7 yX7_of wsX7_of) := goodIn_app (goodIn_of _ (by decide +kernel)) ggX7_allOf_X7_of
theorem dX7_allOf_0 : decode cX7_allOf 0 = .ok (.iconst 0, 1) := by decide +kernel
theorem dX7_allOf_1 : decode cX7_allOf 1 = .ok (.istore_n 2, 1) := by decide +kernel
theorem dX7_allOf_2 : decode cX7_allOf 2 = .ok (.iconst 0, 1) := by decide +kernel
theorem dX7_allOf_3 : decode cX7_allOf 3 = .ok (.istore_n 3, 1) := by decide +kernel
theorem dX7_allOf_4 : decode cX7_allOf 4 = .ok (.iload_n 3, 1) := by decide +kernel
theorem dX7_allOf_5 : decode cX7_allOf 5 = .ok (.aload_n 0, 1) := by decide +kernel
theorem dX7_allOf_6 : decode cX7_allOf 6 = .ok (.getfield 99, 3) := by decide +kernel
theorem dX7_allOf_9 : decode cX7_allOf 9 = .ok (.if_icmp .ge 18, 3) := by decide +kernel
theorem dX7_allOf_12 : decode cX7_allOf 12 = .ok (.iload_n 2, 1) := by decide +kernel
theorem dX7_allOf_13 : decode cX7_allOf 13 = .ok (.aload_n 0, 1) := by decide +kernel
theorem dX7_allOf_14 : decode cX7_allOf 14 = .ok (.iload_n 3, 1) := by decide +kernel
theorem dX7_allOf_15 : decode cX7_allOf 15 = .ok (.iload_n 1, 1) := by decide +kernel
theorem dX7_allOf_16 : decode cX7_allOf 16 = .ok (.invokevirtual 182, 3) := by decide +kernel
theorem dX7_allOf_19 : decode cX7_allOf 19 = .ok (.iadd, 1) := by decide +kernel
theorem dX7_allOf_20 : decode cX7_allOf 20 = .ok (.istore_n 2, 1) := by decide +kernel
theorem dX7_allOf_21 : decode cX7_allOf 21 = .ok (.iinc 3 1, 3) := by decide +kernel
theorem dX7_allOf_24 : decode cX7_allOf 24 = .ok (.goto (-20), 3) := by decide +kernel
theorem dX7_allOf_27 : decode cX7_allOf 27 = .ok (.iload_n 2, 1) := by decide +kernel
theorem dX7_allOf_28 : decode cX7_allOf 28 = .ok (.ireturn, 1) := by decide +kernel
set_option maxRecDepth 20000 in
theorem ggX7_run_X7_in : GoodIn wsX7_run wsX7_in := goodIn_r _ [7] (by decide +kernel) (by decide +kernel)
set_option maxRecDepth 20000 in
theorem gX7_run_X7_in : GoodIn wsX7_run (va_wsS RX7 110 yX7_in wsX7_in) := goodIn_app (goodIn_of _ (by decide +kernel)) ggX7_run_X7_in
set_option maxRecDepth 20000 in
theorem ggX7_run_X7_starts : GoodIn wsX7_run wsX7_starts := goodIn_r _ [11, 3, 12, 32, 33, 34, 35, 36, 37, 38, 39, 40, 41, 42, 43, 44, 45, 46, 47, 48, 49, 50, 51, 52, 53, 54, 55, 56, 57, 58, 59, 60, 61, 62, 63, 64, 65, 66, 67, 68, 69, 70] (by decide +kernel) (by decide +kernel)
set_option maxRecDepth 20000 in
theorem gX7_run_X7_starts : GoodIn wsX7_run (wsV RX7 217 RX7 yX7_starts wsX7_starts) := goodIn_app (goodIn_of _ (by decide +kernel)) ggX7_run_X7_starts
set_option maxRecDepth 20000 in
theorem ggX7_run_X7_runs : GoodIn wsX7_run wsX7_runs := goodIn_r _ [16, 2, 3, 17, 18, 19, 6, 20, 21, 22, 23, 24, 32, 33, 34, 35, 36, 37, 38, 39, 40, 41, 42, 43, 44, 45, 46, 47, 48, 49, 50, 51, 52, 53, 54, 55, 56, 57, 58, 59, 60, 61, 62, 63, 64, 65, 66, 67, 68, 69, 70] (by decide +kernel) (by decide +kernel)
set_option maxRecDepth 20000 in
theorem gX7_run_X7_runs : GoodIn wsX7_run (wsV RX7 260 RX7 yX7_runs wsX7_runs) := goodIn_app (goodIn_of _ (by decide +kernel)) ggX7_run_X7_runs
set_option maxRecDepth 20000 in
theorem ggX7_run_X7_of : GoodIn wsX7_run wsX7_of := goodIn_r _ [20, 3, 32, 33, 34, 35, 36, 37, 38, 39, 40, 41, 42, 43, 44, 45, 46, 47, 48, 49, 50, 51, 52, 53, 54, 55, 56, 57, 58, 59, 60, 61, 62, 63, 64, 65, 66, 67, 68, 69, 70] (by decide +kernel) (by decide +kernel)
set_option maxRecDepth 20000 in
theorem gX7_run_X7_of : GoodIn wsX7_run (wsV RX7 182 RX7 yX7_of wsX7_of) := goodIn_app (goodIn_of _ (by decide +kernel)) ggX7_run_X7_of
set_option maxRecDepth 20000 in
theorem ggX7_run_X7_flag : GoodIn wsX7_run wsX7_flag := goodIn_r _ [27] (by decide +kernel) (by decide +kernel)
set_option maxRecDepth 20000 in
theorem gX7_run_X7_flag : GoodIn wsX7_run (va_wsS RX7 224 yX7_flag wsX7_flag) := goodIn_app (goodIn_of _ (by decide +kernel)) ggX7_run_X7_flag
set_option maxRecDepth 20000 in
theorem ggX7_run_X7_allOf : GoodIn wsX7_run wsX7_allOf := goodIn_r _ [31, 2, 17, 18, 19, 6, 20, 3, 32, 33, 34, 35, 36, 37, 38, 39, 40, 41, 42, 43, 44, 45, 46, 47, 48, 49, 50, 51, 52, 53, 54, 55, 56, 57, 58, 59, 60, 61, 62, 63, 64, 65, 66, 67, 68, 69, 70] (by decide +kernel) (by decide +kernel)
set_option maxRecDepth 20000 in
theorem gX7_run_X7_allOf : GoodIn wsX7_run (wsV RX7 263 RX7 yX7_allOf wsX7_allOf) := goodIn_app (goodIn_of _ (by decide +kernel)) ggX7_run_X7_allOf
theorem dX7_run_0 : decode cX7_run 0 = .ok (.iload_n 1, 1) := by decide +kernel
theorem dX7_run_1 : decode cX7_run 1 = .ok (.i2l, 1) := by decide +kernel
theorem dX7_run_2 : decode cX7_run 2 = .ok (.lconst 0, 1) := by decide +kernel
theorem dX7_run_3 : decode cX7_run 3 = .ok (.ldc2_w 220, 3) := by decide +kernel
theorem dX7_run_6 : decode cX7_run 6 = .ok (.invokestatic 110, 3) := by decide +kernel
theorem dX7_run_9 : decode cX7_run 9 = .ok (.ifCond .ne 5, 3) := by decide +kernel
theorem dX7_run_12 : decode cX7_run 12 = .ok (.iconst (-1), 1) := by decide +kernel
theorem dX7_run_13 : decode cX7_run 13 = .ok (.ireturn, 1) := by decide +kernel
theorem dX7_run_14 : decode cX7_run 14 = .ok (.aload_n 0, 1) := by decide +kernel
theorem dX7_run_15 : decode cX7_run 15 = .ok (.invokevirtual 217, 3) := by decide +kernel
theorem dX7_run_18 : decode cX7_run 18 = .ok (.aload_n 0, 1) := by decide +kernel
theorem dX7_run_19 : decode cX7_run 19 = .ok (.invokevirtual 260, 3) := by decide +kernel
theorem dX7_run_22 : decode cX7_run 22 = .ok (.iconst 0, 1) := by decide +kernel
theorem dX7_run_23 : decode cX7_run 23 = .ok (.istore_n 2, 1) := by decide +kernel
theorem dX7_run_24 : decode cX7_run 24 = .ok (.iconst 0, 1) := by decide +kernel
theorem dX7_run_25 : decode cX7_run 25 = .ok (.istore_n 3, 1) := by decide +kernel
theorem dX7_run_26 : decode cX7_run 26 = .ok (.iload_n 3, 1) := by decide +kernel
theorem dX7_run_27 : decode cX7_run 27 = .ok (.aload_n 0, 1) := by decide +kernel
theorem dX7_run_28 : decode cX7_run 28 = .ok (.getfield 99, 3) := by decide +kernel
theorem dX7_run_31 : decode cX7_run 31 = .ok (.if_icmp .ge 31, 3) := by decide +kernel
theorem dX7_run_34 : decode cX7_run 34 = .ok (.iload_n 2, 1) := by decide +kernel
theorem dX7_run_35 : decode cX7_run 35 = .ok (.aload_n 0, 1) := by decide +kernel
theorem dX7_run_36 : decode cX7_run 36 = .ok (.iload_n 3, 1) := by decide +kernel
theorem dX7_run_37 : decode cX7_run 37 = .ok (.iconst 2, 1) := by decide +kernel
theorem dX7_run_38 : decode cX7_run 38 = .ok (.invokevirtual 182, 3) := by decide +kernel
theorem dX7_run_41 : decode cX7_run 41 = .ok (.ifCond .ne 7, 3) := by decide +kernel
theorem dX7_run_44 : decode cX7_run 44 = .ok (.iconst 1, 1) := by decide +kernel
theorem dX7_run_45 : decode cX7_run 45 = .ok (.goto 4, 3) := by decide +kernel
theorem dX7_run_48 : decode cX7_run 48 = .ok (.iconst 0, 1) := by decide +kernel
theorem dX7_run_49 : decode cX7_run 49 = .ok (.invokestatic 224, 3) := by decide +kernel
theorem dX7_run_52 : decode cX7_run 52 = .ok (.iload_n 3, 1) := by decide +kernel
theorem dX7_run_53 : decode cX7_run 53 = .ok (.ishl, 1) := by decide +kernel
theorem dX7_run_54 : decode cX7_run 54 = .ok (.ior, 1) := by decide +kernel
theorem dX7_run_55 : decode cX7_run 55 = .ok (.istore_n 2, 1) := by decide +kernel
theorem dX7_run_56 : decode cX7_run 56 = .ok (.iinc 3 1, 3) := by decide +kernel
theorem dX7_run_59 : decode cX7_run 59 = .ok (.goto (-33), 3) := by decide +kernel
theorem dX7_run_62 : decode cX7_run 62 = .ok (.iload_n 1, 1) := by decide +kernel
theorem dX7_run_63 : decode cX7_run 63 = .ok (.ifCond .ne 11, 3) := by decide +kernel
theorem dX7_run_66 : decode cX7_run 66 = .ok (.aload_n 0, 1) := by decide +kernel
theorem dX7_run_67 : decode cX7_run 67 = .ok (.iconst 2, 1) := by decide +kernel
theorem dX7_run_68 : decode cX7_run 68 = .ok (.invokevirtual 263, 3) := by decide +kernel
theorem dX7_run_71 : decode cX7_run 71 = .ok (.goto 19, 3) := by decide +kernel
theorem dX7_run_74 : decode cX7_run 74 = .ok (.iload_n 1, 1) := by decide +kernel
theorem dX7_run_75 : decode cX7_run 75 = .ok (.iconst 1, 1) := by decide +kernel
theorem dX7_run_76 : decode cX7_run 76 = .ok (.if_icmp .ne 13, 3) := by decide +kernel
theorem dX7_run_79 : decode cX7_run 79 = .ok (.aload_n 0, 1) := by decide +kernel
theorem dX7_run_80 : decode cX7_run 80 = .ok (.getfield 13, 3) := by decide +kernel
theorem dX7_run_83 : decode cX7_run 83 = .ok (.bipush 24, 2) := by decide +kernel
theorem dX7_run_85 : decode cX7_run 85 = .ok (.iaload, 1) := by decide +kernel
theorem dX7_run_86 : decode cX7_run 86 = .ok (.goto 4, 3) := by decide +kernel
theorem dX7_run_89 : decode cX7_run 89 = .ok (.iload_n 2, 1) := by decide +kernel
theorem dX7_run_90 : decode cX7_run 90 = .ok (.ireturn, 1) := by decide +kernel
set_option maxRecDepth 20000 in
theorem ggX7_holds_X7_starts : GoodIn wsX7_holds wsX7_starts := goodIn_r _ [6, 1, 7, 25, 26, 27, 28, 29, 30, 31, 32, 33, 34, 35, 36, 37, 38, 39, 40, 41, 42, 43, 44, 45, 46, 47, 48, 49, 50, 51, 52, 53, 54, 55, 56, 57, 58, 59, 60, 61, 62, 63] (by decide +kernel) (by decide +kernel)
set_option maxRecDepth 20000 in
theorem gX7_holds_X7_starts : GoodIn wsX7_holds (wsV RX7 217 RX7 yX7_starts wsX7_starts) := goodIn_app (goodIn_of _ (by decide +kernel)) ggX7_holds_X7_starts
set_option maxRecDepth 20000 in
theorem ggX7_holds_X7_runs : GoodIn wsX7_holds wsX7_runs := goodIn_r _ [11, 12, 1, 13, 14, 15, 5, 16, 17, 18, 19, 20, 25, 26, 27, 28, 29, 30, 31, 32, 33, 34, 35, 36, 37, 38, 39, 40, 41, 42, 43, 44, 45, 46, 47, 48, 49, 50, 51, 52, 53, 54, 55, 56, 57, 58, 59, 60, 61, 62, 63] (by decide +kernel) (by decide +kernel)
set_option maxRecDepth 20000 in
theorem gX7_holds_X7_runs : GoodIn wsX7_holds (wsV RX7 260 RX7 yX7_runs wsX7_runs) := goodIn_app (goodIn_of _ (by decide +kernel)) ggX7_holds_X7_runs
set_option maxRecDepth 20000 in
theorem ggX7_holds_X7_allOf : GoodIn wsX7_holds wsX7_allOf := goodIn_r _ [24, 12, 13, 14, 15, 5, 16, 1, 25, 26, 27, 28, 29, 30, 31, 32, 33, 34, 35, 36, 37, 38, 39, 40, 41, 42, 43, 44, 45, 46, 47, 48, 49, 50, 51, 52, 53, 54, 55, 56, 57, 58, 59, 60, 61, 62, 63] (by decide +kernel) (by decide +kernel)
set_option maxRecDepth 20000 in
theorem gX7_holds_X7_allOf : GoodIn wsX7_holds (wsV RX7 263 RX7 yX7_allOf wsX7_allOf) := goodIn_app (goodIn_of _ (by decide +kernel)) ggX7_holds_X7_allOf
theorem dX7_holds_0 : decode cX7_holds 0 = .ok (.iconst 0, 1) := by decide +kernel
theorem dX7_holds_1 : decode cX7_holds 1 = .ok (.istore_n 1, 1) := by decide +kernel
theorem dX7_holds_2 : decode cX7_holds 2 = .ok (.iload_n 1, 1) := by decide +kernel
theorem dX7_holds_3 : decode cX7_holds 3 = .ok (.bipush 99, 2) := by decide +kernel
theorem dX7_holds_5 : decode cX7_holds 5 = .ok (.if_icmp .gt 35, 3) := by decide +kernel
theorem dX7_holds_8 : decode cX7_holds 8 = .ok (.aload_n 0, 1) := by decide +kernel
theorem dX7_holds_9 : decode cX7_holds 9 = .ok (.invokevirtual 217, 3) := by decide +kernel
theorem dX7_holds_12 : decode cX7_holds 12 = .ok (.aload_n 0, 1) := by decide +kernel
theorem dX7_holds_13 : decode cX7_holds 13 = .ok (.getfield 13, 3) := by decide +kernel
theorem dX7_holds_16 : decode cX7_holds 16 = .ok (.bipush 24, 2) := by decide +kernel
theorem dX7_holds_18 : decode cX7_holds 18 = .ok (.iload_n 1, 1) := by decide +kernel
theorem dX7_holds_19 : decode cX7_holds 19 = .ok (.iastore, 1) := by decide +kernel
theorem dX7_holds_20 : decode cX7_holds 20 = .ok (.aload_n 0, 1) := by decide +kernel
theorem dX7_holds_21 : decode cX7_holds 21 = .ok (.invokevirtual 260, 3) := by decide +kernel
theorem dX7_holds_24 : decode cX7_holds 24 = .ok (.aload_n 0, 1) := by decide +kernel
theorem dX7_holds_25 : decode cX7_holds 25 = .ok (.iconst 2, 1) := by decide +kernel
theorem dX7_holds_26 : decode cX7_holds 26 = .ok (.invokevirtual 263, 3) := by decide +kernel
theorem dX7_holds_29 : decode cX7_holds 29 = .ok (.ifCond .ne 5, 3) := by decide +kernel
theorem dX7_holds_32 : decode cX7_holds 32 = .ok (.iload_n 1, 1) := by decide +kernel
theorem dX7_holds_33 : decode cX7_holds 33 = .ok (.ireturn, 1) := by decide +kernel
theorem dX7_holds_34 : decode cX7_holds 34 = .ok (.iinc 1 1, 3) := by decide +kernel
theorem dX7_holds_37 : decode cX7_holds 37 = .ok (.goto (-35), 3) := by decide +kernel
theorem dX7_holds_40 : decode cX7_holds 40 = .ok (.bipush (-4), 2) := by decide +kernel
theorem dX7_holds_42 : decode cX7_holds 42 = .ok (.ireturn, 1) := by decide +kernel
set_option maxRecDepth 20000 in
theorem ggX7_leastOf_X7_in : GoodIn wsX7_leastOf wsX7_in := goodIn_r _ [6] (by decide +kernel) (by decide +kernel)
set_option maxRecDepth 20000 in
theorem gX7_leastOf_X7_in : GoodIn wsX7_leastOf (va_wsS RX7 110 yX7_in wsX7_in) := goodIn_app (goodIn_of _ (by decide +kernel)) ggX7_leastOf_X7_in
set_option maxRecDepth 20000 in
theorem ggX7_leastOf_X7_starts : GoodIn wsX7_leastOf wsX7_starts := goodIn_r _ [10, 2, 11, 57, 58, 59, 60, 61, 62, 63, 64, 65, 66, 67, 68, 69, 70, 71, 72, 73, 74, 75, 76, 77, 78, 79, 80, 81, 82, 83, 84, 85, 86, 87, 88, 89, 90, 91, 92, 93, 94, 95] (by decide +kernel) (by decide +kernel)
set_option maxRecDepth 20000 in
theorem gX7_leastOf_X7_starts : GoodIn wsX7_leastOf (wsV RX7 217 RX7 yX7_starts wsX7_starts) := goodIn_app (goodIn_of _ (by decide +kernel)) ggX7_leastOf_X7_starts
set_option maxRecDepth 20000 in
theorem ggX7_leastOf_X7_brazenIn : GoodIn wsX7_leastOf wsX7_brazenIn := goodIn_r _ [15, 16, 17, 18, 5, 19, 20, 21, 22, 23, 2, 24, 25, 26, 27, 28, 29, 30, 31, 32, 33, 34, 35, 36, 37, 38, 39, 40, 41, 42, 43, 44, 45, 46, 47, 48, 49, 50, 51, 52, 53, 54, 55, 56, 11, 57, 58, 59, 60, 61, 62, 63, 64, 65, 66, 67, 68, 69, 70, 71, 72, 73, 74, 75, 76, 77, 78, 79, 80, 81, 82, 83, 84, 85, 86, 87, 88, 89, 90, 91, 92, 93, 94, 95] (by decide +kernel) (by decide +kernel)
set_option maxRecDepth 20000 in
theorem gX7_leastOf_X7_brazenIn : GoodIn wsX7_leastOf (wsV RX7 244 RX7 yX7_brazenIn wsX7_brazenIn) := goodIn_app (goodIn_of _ (by decide +kernel)) ggX7_leastOf_X7_brazenIn
theorem dX7_leastOf_0 : decode cX7_leastOf 0 = .ok (.iload_n 3, 1) := by decide +kernel
theorem dX7_leastOf_1 : decode cX7_leastOf 1 = .ok (.i2l, 1) := by decide +kernel
theorem dX7_leastOf_2 : decode cX7_leastOf 2 = .ok (.lconst 0, 1) := by decide +kernel
theorem dX7_leastOf_3 : decode cX7_leastOf 3 = .ok (.ldc2_w 242, 3) := by decide +kernel
theorem dX7_leastOf_6 : decode cX7_leastOf 6 = .ok (.invokestatic 110, 3) := by decide +kernel
theorem dX7_leastOf_9 : decode cX7_leastOf 9 = .ok (.ifCond .ne 5, 3) := by decide +kernel
theorem dX7_leastOf_12 : decode cX7_leastOf 12 = .ok (.iconst (-1), 1) := by decide +kernel
theorem dX7_leastOf_13 : decode cX7_leastOf 13 = .ok (.ireturn, 1) := by decide +kernel
theorem dX7_leastOf_14 : decode cX7_leastOf 14 = .ok (.iconst 0, 1) := by decide +kernel
theorem dX7_leastOf_15 : decode cX7_leastOf 15 = .ok (.istore 4, 2) := by decide +kernel
theorem dX7_leastOf_17 : decode cX7_leastOf 17 = .ok (.iload 4, 2) := by decide +kernel
theorem dX7_leastOf_19 : decode cX7_leastOf 19 = .ok (.iload_n 2, 1) := by decide +kernel
theorem dX7_leastOf_20 : decode cX7_leastOf 20 = .ok (.if_icmp .gt 32, 3) := by decide +kernel
theorem dX7_leastOf_23 : decode cX7_leastOf 23 = .ok (.aload_n 0, 1) := by decide +kernel
theorem dX7_leastOf_24 : decode cX7_leastOf 24 = .ok (.invokevirtual 217, 3) := by decide +kernel
theorem dX7_leastOf_27 : decode cX7_leastOf 27 = .ok (.aload_n 0, 1) := by decide +kernel
theorem dX7_leastOf_28 : decode cX7_leastOf 28 = .ok (.getfield 13, 3) := by decide +kernel
theorem dX7_leastOf_31 : decode cX7_leastOf 31 = .ok (.iload_n 1, 1) := by decide +kernel
theorem dX7_leastOf_32 : decode cX7_leastOf 32 = .ok (.iload 4, 2) := by decide +kernel
theorem dX7_leastOf_34 : decode cX7_leastOf 34 = .ok (.iastore, 1) := by decide +kernel
theorem dX7_leastOf_35 : decode cX7_leastOf 35 = .ok (.aload_n 0, 1) := by decide +kernel
theorem dX7_leastOf_36 : decode cX7_leastOf 36 = .ok (.iload_n 3, 1) := by decide +kernel
theorem dX7_leastOf_37 : decode cX7_leastOf 37 = .ok (.invokevirtual 244, 3) := by decide +kernel
theorem dX7_leastOf_40 : decode cX7_leastOf 40 = .ok (.ifCond .ne 6, 3) := by decide +kernel
theorem dX7_leastOf_43 : decode cX7_leastOf 43 = .ok (.iload 4, 2) := by decide +kernel
theorem dX7_leastOf_45 : decode cX7_leastOf 45 = .ok (.ireturn, 1) := by decide +kernel
theorem dX7_leastOf_46 : decode cX7_leastOf 46 = .ok (.iinc 4 1, 3) := by decide +kernel
theorem dX7_leastOf_49 : decode cX7_leastOf 49 = .ok (.goto (-32), 3) := by decide +kernel
theorem dX7_leastOf_52 : decode cX7_leastOf 52 = .ok (.bipush (-4), 2) := by decide +kernel
theorem dX7_leastOf_54 : decode cX7_leastOf 54 = .ok (.ireturn, 1) := by decide +kernel
set_option maxRecDepth 20000 in
theorem ggX7_cover_X7_leastOf : GoodIn wsX7_cover wsX7_leastOf := goodIn_r _ [5, 6, 7, 8, 9, 4, 10, 11, 12, 13, 14, 15, 16, 17, 18, 19, 20, 21, 22, 23, 24, 25, 26, 27, 28, 29, 30, 31, 32, 33, 34, 35, 36, 37, 38, 39, 40, 41, 42, 43, 44, 45, 46, 47, 48, 49, 50, 51, 52, 53, 54, 55, 56, 57, 58, 59, 60, 61, 62, 63, 64, 65, 66, 67, 68, 69, 70, 71, 72, 73, 74, 75, 76, 77, 78, 79, 80, 81, 82, 83, 84, 85, 86, 87, 88, 89, 90, 91, 92, 93, 94, 95, 96, 97, 98, 99] (by decide +kernel) (by decide +kernel)
set_option maxRecDepth 20000 in
theorem gX7_cover_X7_leastOf : GoodIn wsX7_cover (wsV RX7 266 RX7 yX7_leastOf wsX7_leastOf) := goodIn_app (goodIn_of _ (by decide +kernel)) ggX7_cover_X7_leastOf
theorem dX7_cover_0 : decode cX7_cover 0 = .ok (.aload_n 0, 1) := by decide +kernel
theorem dX7_cover_1 : decode cX7_cover 1 = .ok (.bipush 24, 2) := by decide +kernel
theorem dX7_cover_3 : decode cX7_cover 3 = .ok (.bipush 99, 2) := by decide +kernel
theorem dX7_cover_5 : decode cX7_cover 5 = .ok (.iload_n 1, 1) := by decide +kernel
theorem dX7_cover_6 : decode cX7_cover 6 = .ok (.invokevirtual 266, 3) := by decide +kernel
theorem dX7_cover_9 : decode cX7_cover 9 = .ok (.ireturn, 1) := by decide +kernel
set_option maxRecDepth 20000 in
theorem ggX7_rate_X7_leastOf : GoodIn wsX7_rate wsX7_leastOf := goodIn_r _ [5, 6, 7, 8, 9, 4, 10, 11, 12, 13, 14, 15, 16, 17, 18, 19, 20, 21, 22, 23, 24, 25, 26, 27, 28, 29, 30, 31, 32, 33, 34, 35, 36, 37, 38, 39, 40, 41, 42, 43, 44, 45, 46, 47, 48, 49, 50, 51, 52, 53, 54, 55, 56, 57, 58, 59, 60, 61, 62, 63, 64, 65, 66, 67, 68, 69, 70, 71, 72, 73, 74, 75, 76, 77, 78, 79, 80, 81, 82, 83, 84, 85, 86, 87, 88, 89, 90, 91, 92, 93, 94, 95, 96, 97, 98, 99] (by decide +kernel) (by decide +kernel)
set_option maxRecDepth 20000 in
theorem gX7_rate_X7_leastOf : GoodIn wsX7_rate (wsV RX7 266 RX7 yX7_leastOf wsX7_leastOf) := goodIn_app (goodIn_of _ (by decide +kernel)) ggX7_rate_X7_leastOf
theorem dX7_rate_0 : decode cX7_rate 0 = .ok (.aload_n 0, 1) := by decide +kernel
theorem dX7_rate_1 : decode cX7_rate 1 = .ok (.bipush 23, 2) := by decide +kernel
theorem dX7_rate_3 : decode cX7_rate 3 = .ok (.bipush 9, 2) := by decide +kernel
theorem dX7_rate_5 : decode cX7_rate 5 = .ok (.iload_n 1, 1) := by decide +kernel
theorem dX7_rate_6 : decode cX7_rate 6 = .ok (.invokevirtual 266, 3) := by decide +kernel
theorem dX7_rate_9 : decode cX7_rate 9 = .ok (.ireturn, 1) := by decide +kernel
set_option maxRecDepth 20000 in
theorem ggX7_brazenAsNow_X7_starts : GoodIn wsX7_brazenAsNow wsX7_starts := goodIn_r _ [5, 6, 7, 57, 58, 59, 60, 61, 62, 63, 64, 65, 66, 67, 68, 69, 70, 71, 72, 73, 74, 75, 76, 77, 78, 79, 80, 81, 82, 83, 84, 85, 86, 87, 88, 89, 90, 91, 92, 93, 94, 95] (by decide +kernel) (by decide +kernel)
set_option maxRecDepth 20000 in
theorem gX7_brazenAsNow_X7_starts : GoodIn wsX7_brazenAsNow (wsV RX7 217 RX7 yX7_starts wsX7_starts) := goodIn_app (goodIn_of _ (by decide +kernel)) ggX7_brazenAsNow_X7_starts
set_option maxRecDepth 20000 in
theorem ggX7_brazenAsNow_X7_weeksLeft : GoodIn wsX7_brazenAsNow wsX7_weeksLeft := goodIn_r _ [11, 7, 57, 58, 59, 60, 61, 62, 63, 64, 65, 66, 67, 68, 69, 70, 71, 72, 73, 74, 75, 76, 77, 78, 79, 80, 81, 82, 83, 84, 85, 86, 87, 88, 89, 90, 91, 92, 93, 94, 95] (by decide +kernel) (by decide +kernel)
set_option maxRecDepth 20000 in
theorem gX7_brazenAsNow_X7_weeksLeft : GoodIn wsX7_brazenAsNow (wsV RX7 253 RX7 yX7_weeksLeft wsX7_weeksLeft) := goodIn_app (goodIn_of _ (by decide +kernel)) ggX7_brazenAsNow_X7_weeksLeft
set_option maxRecDepth 20000 in
theorem ggX7_brazenAsNow_X7_brazenIn : GoodIn wsX7_brazenAsNow wsX7_brazenIn := goodIn_r _ [15, 16, 17, 18, 4, 19, 20, 21, 22, 23, 6, 24, 25, 26, 27, 28, 29, 30, 31, 32, 33, 34, 35, 36, 37, 38, 39, 40, 41, 42, 43, 44, 45, 46, 47, 48, 49, 50, 51, 52, 53, 54, 55, 56, 7, 57, 58, 59, 60, 61, 62, 63, 64, 65, 66, 67, 68, 69, 70, 71, 72, 73, 74, 75, 76, 77, 78, 79, 80, 81, 82, 83, 84, 85, 86, 87, 88, 89, 90, 91, 92, 93, 94, 95] (by decide +kernel) (by decide +kernel)
set_option maxRecDepth 20000 in
theorem gX7_brazenAsNow_X7_brazenIn : GoodIn wsX7_brazenAsNow (wsV RX7 244 RX7 yX7_brazenIn wsX7_brazenIn) := goodIn_app (goodIn_of _ (by decide +kernel)) ggX7_brazenAsNow_X7_brazenIn
theorem dX7_brazenAsNow_0 : decode cX7_brazenAsNow 0 = .ok (.aload_n 0, 1) := by decide +kernel
theorem dX7_brazenAsNow_1 : decode cX7_brazenAsNow 1 = .ok (.invokevirtual 217, 3) := by decide +kernel
theorem dX7_brazenAsNow_4 : decode cX7_brazenAsNow 4 = .ok (.aload_n 0, 1) := by decide +kernel
theorem dX7_brazenAsNow_5 : decode cX7_brazenAsNow 5 = .ok (.aload_n 0, 1) := by decide +kernel
theorem dX7_brazenAsNow_6 : decode cX7_brazenAsNow 6 = .ok (.invokevirtual 253, 3) := by decide +kernel
theorem dX7_brazenAsNow_9 : decode cX7_brazenAsNow 9 = .ok (.invokevirtual 244, 3) := by decide +kernel
theorem dX7_brazenAsNow_12 : decode cX7_brazenAsNow 12 = .ok (.ireturn, 1) := by decide +kernel
set_option maxRecDepth 20000 in
theorem ggX7_gift_X7_in : GoodIn wsX7_gift wsX7_in := goodIn_r _ [6] (by decide +kernel) (by decide +kernel)
set_option maxRecDepth 20000 in
theorem gX7_gift_X7_in : GoodIn wsX7_gift (va_wsS RX7 110 yX7_in wsX7_in) := goodIn_app (goodIn_of _ (by decide +kernel)) ggX7_gift_X7_in
set_option maxRecDepth 20000 in
theorem ggX7_gift_X7_isPart : GoodIn wsX7_gift wsX7_isPart := goodIn_r _ [9, 3, 4, 5, 6] (by decide +kernel) (by decide +kernel)
set_option maxRecDepth 20000 in
theorem gX7_gift_X7_isPart : GoodIn wsX7_gift (va_wsS RX7 234 yX7_isPart wsX7_isPart) := goodIn_app (goodIn_of _ (by decide +kernel)) ggX7_gift_X7_isPart
set_option maxRecDepth 20000 in
theorem ggX7_gift_X7_brazenAsNow : GoodIn wsX7_gift wsX7_brazenAsNow := goodIn_r _ [13, 14, 15, 16, 5, 17, 18, 19, 20, 21, 22, 23, 24, 25, 26, 27, 28, 29, 30, 31, 32, 33, 34, 35, 36, 37, 38, 39, 40, 41, 2, 42, 43, 44, 45, 46, 47, 48, 49, 50, 51, 52, 53, 54, 55, 56, 57, 58, 59, 60, 61, 62, 63, 64, 65, 66, 67, 68, 69, 70, 71, 72, 73, 74, 75, 76, 77, 78, 79, 80, 81, 82, 83, 84, 85, 86, 87, 88, 89, 90, 91, 92, 93, 94, 95, 96, 97, 98, 99, 100, 101, 102, 103, 104, 105, 106] (by decide +kernel) (by decide +kernel)
set_option maxRecDepth 20000 in
theorem gX7_gift_X7_brazenAsNow : GoodIn wsX7_gift (wsV RX7 270 RX7 yX7_brazenAsNow wsX7_brazenAsNow) := goodIn_app (goodIn_of _ (by decide +kernel)) ggX7_gift_X7_brazenAsNow
set_option maxRecDepth 20000 in
theorem ggX7_gift_X7_starts : GoodIn wsX7_gift wsX7_starts := goodIn_r _ [17, 18, 19, 68, 69, 70, 71, 72, 73, 74, 75, 76, 77, 78, 79, 80, 81, 82, 83, 84, 85, 86, 87, 88, 89, 90, 91, 92, 93, 94, 95, 96, 97, 98, 99, 100, 101, 102, 103, 104, 105, 106] (by decide +kernel) (by decide +kernel)
set_option maxRecDepth 20000 in
theorem gX7_gift_X7_starts : GoodIn wsX7_gift (wsV RX7 217 RX7 yX7_starts wsX7_starts) := goodIn_app (goodIn_of _ (by decide +kernel)) ggX7_gift_X7_starts
set_option maxRecDepth 20000 in
theorem ggX7_gift_X7_more : GoodIn wsX7_gift wsX7_more := goodIn_r _ [54, 18, 68, 69, 70, 71, 72, 73, 74, 75, 76, 77, 78, 79, 80, 81, 82, 83, 84, 85, 86, 87, 88, 89, 90, 91, 92, 93, 94, 95, 96, 97, 98, 99, 100, 101, 102, 103, 104, 105, 106] (by decide +kernel) (by decide +kernel)
set_option maxRecDepth 20000 in
theorem gX7_gift_X7_more : GoodIn wsX7_gift (wsV RX7 188 RX7 yX7_more wsX7_more) := goodIn_app (goodIn_of _ (by decide +kernel)) ggX7_gift_X7_more
set_option maxRecDepth 20000 in
theorem ggX7_gift_X7_weeksLeft : GoodIn wsX7_gift wsX7_weeksLeft := goodIn_r _ [23, 19, 68, 69, 70, 71, 72, 73, 74, 75, 76, 77, 78, 79, 80, 81, 82, 83, 84, 85, 86, 87, 88, 89, 90, 91, 92, 93, 94, 95, 96, 97, 98, 99, 100, 101, 102, 103, 104, 105, 106] (by decide +kernel) (by decide +kernel)
set_option maxRecDepth 20000 in
theorem gX7_gift_X7_weeksLeft : GoodIn wsX7_gift (wsV RX7 253 RX7 yX7_weeksLeft wsX7_weeksLeft) := goodIn_app (goodIn_of _ (by decide +kernel)) ggX7_gift_X7_weeksLeft
set_option maxRecDepth 20000 in
theorem ggX7_gift_X7_brazenIn : GoodIn wsX7_gift wsX7_brazenIn := goodIn_r _ [27, 28, 29, 30, 5, 31, 32, 33, 34, 35, 18, 36, 37, 38, 39, 40, 41, 2, 42, 43, 44, 45, 46, 47, 48, 49, 50, 51, 52, 53, 54, 55, 56, 57, 58, 59, 60, 61, 62, 63, 64, 65, 66, 67, 19, 68, 69, 70, 71, 72, 73, 74, 75, 76, 77, 78, 79, 80, 81, 82, 83, 84, 85, 86, 87, 88, 89, 90, 91, 92, 93, 94, 95, 96, 97, 98, 99, 100, 101, 102, 103, 104, 105, 106] (by decide +kernel) (by decide +kernel)
set_option maxRecDepth 20000 in
theorem gX7_gift_X7_brazenIn : GoodIn wsX7_gift (wsV RX7 244 RX7 yX7_brazenIn wsX7_brazenIn) := goodIn_app (goodIn_of _ (by decide +kernel)) ggX7_gift_X7_brazenIn
theorem dX7_gift_0 : decode cX7_gift 0 = .ok (.iload_n 1, 1) := by decide +kernel
theorem dX7_gift_1 : decode cX7_gift 1 = .ok (.i2l, 1) := by decide +kernel
theorem dX7_gift_2 : decode cX7_gift 2 = .ok (.lconst 0, 1) := by decide +kernel
theorem dX7_gift_3 : decode cX7_gift 3 = .ok (.ldc2_w 222, 3) := by decide +kernel
theorem dX7_gift_6 : decode cX7_gift 6 = .ok (.invokestatic 110, 3) := by decide +kernel
theorem dX7_gift_9 : decode cX7_gift 9 = .ok (.ifCond .eq 10, 3) := by decide +kernel
theorem dX7_gift_12 : decode cX7_gift 12 = .ok (.iload_n 2, 1) := by decide +kernel
theorem dX7_gift_13 : decode cX7_gift 13 = .ok (.invokestatic 234, 3) := by decide +kernel
theorem dX7_gift_16 : decode cX7_gift 16 = .ok (.ifCond .ne 5, 3) := by decide +kernel
theorem dX7_gift_19 : decode cX7_gift 19 = .ok (.iconst (-1), 1) := by decide +kernel
theorem dX7_gift_20 : decode cX7_gift 20 = .ok (.ireturn, 1) := by decide +kernel
theorem dX7_gift_21 : decode cX7_gift 21 = .ok (.aload_n 0, 1) := by decide +kernel
theorem dX7_gift_22 : decode cX7_gift 22 = .ok (.invokevirtual 270, 3) := by decide +kernel
theorem dX7_gift_25 : decode cX7_gift 25 = .ok (.istore_n 3, 1) := by decide +kernel
theorem dX7_gift_26 : decode cX7_gift 26 = .ok (.bipush (-4), 2) := by decide +kernel
theorem dX7_gift_28 : decode cX7_gift 28 = .ok (.istore 4, 2) := by decide +kernel
theorem dX7_gift_30 : decode cX7_gift 30 = .ok (.iconst 0, 1) := by decide +kernel
theorem dX7_gift_31 : decode cX7_gift 31 = .ok (.istore 5, 2) := by decide +kernel
theorem dX7_gift_33 : decode cX7_gift 33 = .ok (.iload 5, 2) := by decide +kernel
theorem dX7_gift_35 : decode cX7_gift 35 = .ok (.aload_n 0, 1) := by decide +kernel
theorem dX7_gift_36 : decode cX7_gift 36 = .ok (.getfield 99, 3) := by decide +kernel
theorem dX7_gift_39 : decode cX7_gift 39 = .ok (.if_icmp .ge 59, 3) := by decide +kernel
theorem dX7_gift_42 : decode cX7_gift 42 = .ok (.aload_n 0, 1) := by decide +kernel
theorem dX7_gift_43 : decode cX7_gift 43 = .ok (.invokevirtual 217, 3) := by decide +kernel
theorem dX7_gift_46 : decode cX7_gift 46 = .ok (.aload_n 0, 1) := by decide +kernel
theorem dX7_gift_47 : decode cX7_gift 47 = .ok (.iload 5, 2) := by decide +kernel
theorem dX7_gift_49 : decode cX7_gift 49 = .ok (.iconst 1, 1) := by decide +kernel
theorem dX7_gift_50 : decode cX7_gift 50 = .ok (.iload_n 1, 1) := by decide +kernel
theorem dX7_gift_51 : decode cX7_gift 51 = .ok (.invokevirtual 188, 3) := by decide +kernel
theorem dX7_gift_54 : decode cX7_gift 54 = .ok (.aload_n 0, 1) := by decide +kernel
theorem dX7_gift_55 : decode cX7_gift 55 = .ok (.aload_n 0, 1) := by decide +kernel
theorem dX7_gift_56 : decode cX7_gift 56 = .ok (.invokevirtual 253, 3) := by decide +kernel
theorem dX7_gift_59 : decode cX7_gift 59 = .ok (.invokevirtual 244, 3) := by decide +kernel
theorem dX7_gift_62 : decode cX7_gift 62 = .ok (.istore 6, 2) := by decide +kernel
theorem dX7_gift_64 : decode cX7_gift 64 = .ok (.iload 6, 2) := by decide +kernel
theorem dX7_gift_66 : decode cX7_gift 66 = .ok (.iload_n 3, 1) := by decide +kernel
theorem dX7_gift_67 : decode cX7_gift 67 = .ok (.if_icmp .ge 8, 3) := by decide +kernel
theorem dX7_gift_70 : decode cX7_gift 70 = .ok (.iload 5, 2) := by decide +kernel
theorem dX7_gift_72 : decode cX7_gift 72 = .ok (.goto 5, 3) := by decide +kernel
theorem dX7_gift_75 : decode cX7_gift 75 = .ok (.iload 4, 2) := by decide +kernel
theorem dX7_gift_77 : decode cX7_gift 77 = .ok (.istore 4, 2) := by decide +kernel
theorem dX7_gift_79 : decode cX7_gift 79 = .ok (.iload 6, 2) := by decide +kernel
theorem dX7_gift_81 : decode cX7_gift 81 = .ok (.iload_n 3, 1) := by decide +kernel
theorem dX7_gift_82 : decode cX7_gift 82 = .ok (.if_icmp .ge 8, 3) := by decide +kernel
theorem dX7_gift_85 : decode cX7_gift 85 = .ok (.iload 6, 2) := by decide +kernel
theorem dX7_gift_87 : decode cX7_gift 87 = .ok (.goto 4, 3) := by decide +kernel
theorem dX7_gift_90 : decode cX7_gift 90 = .ok (.iload_n 3, 1) := by decide +kernel
theorem dX7_gift_91 : decode cX7_gift 91 = .ok (.istore_n 3, 1) := by decide +kernel
theorem dX7_gift_92 : decode cX7_gift 92 = .ok (.iinc 5 1, 3) := by decide +kernel
theorem dX7_gift_95 : decode cX7_gift 95 = .ok (.goto (-62), 3) := by decide +kernel
theorem dX7_gift_98 : decode cX7_gift 98 = .ok (.iload 4, 2) := by decide +kernel
theorem dX7_gift_100 : decode cX7_gift 100 = .ok (.bipush (-4), 2) := by decide +kernel
theorem dX7_gift_102 : decode cX7_gift 102 = .ok (.if_icmp .ne 8, 3) := by decide +kernel
theorem dX7_gift_105 : decode cX7_gift 105 = .ok (.bipush (-4), 2) := by decide +kernel
theorem dX7_gift_107 : decode cX7_gift 107 = .ok (.goto 13, 3) := by decide +kernel
theorem dX7_gift_110 : decode cX7_gift 110 = .ok (.iload_n 2, 1) := by decide +kernel
theorem dX7_gift_111 : decode cX7_gift 111 = .ok (.ifCond .ne 8, 3) := by decide +kernel
theorem dX7_gift_114 : decode cX7_gift 114 = .ok (.iload 4, 2) := by decide +kernel
theorem dX7_gift_116 : decode cX7_gift 116 = .ok (.goto 4, 3) := by decide +kernel
theorem dX7_gift_119 : decode cX7_gift 119 = .ok (.iload_n 3, 1) := by decide +kernel
theorem dX7_gift_120 : decode cX7_gift 120 = .ok (.ireturn, 1) := by decide +kernel
set_option maxRecDepth 20000 in
theorem ggX7_told_X7_isOne : GoodIn wsX7_told wsX7_isOne := goodIn_r _ [7, 1, 8, 9, 6, 10, 79, 80, 81, 82, 83, 84, 85, 86, 87, 88, 89, 90, 91, 92, 93, 94, 95, 96, 97, 98, 99, 100, 101, 102, 103, 104, 105, 106, 107, 108, 109, 110, 111, 112, 113, 114, 115, 116, 117] (by decide +kernel) (by decide +kernel)
set_option maxRecDepth 20000 in
theorem gX7_told_X7_isOne : GoodIn wsX7_told (wsV RX7 210 RX7 yX7_isOne wsX7_isOne) := goodIn_app (goodIn_of _ (by decide +kernel)) ggX7_told_X7_isOne
set_option maxRecDepth 20000 in
theorem ggX7_told_X7_isPart : GoodIn wsX7_told wsX7_isPart := goodIn_r _ [13, 8, 9, 6, 10] (by decide +kernel) (by decide +kernel)
set_option maxRecDepth 20000 in
theorem gX7_told_X7_isPart : GoodIn wsX7_told (va_wsS RX7 234 yX7_isPart wsX7_isPart) := goodIn_app (goodIn_of _ (by decide +kernel)) ggX7_told_X7_isPart
set_option maxRecDepth 20000 in
theorem ggX7_told_X7_brazenAsNow : GoodIn wsX7_told wsX7_brazenAsNow := goodIn_r _ [17, 18, 19, 20, 6, 21, 22, 23, 24, 25, 26, 27, 28, 29, 30, 31, 32, 33, 34, 35, 36, 37, 38, 39, 40, 41, 42, 43, 44, 45, 1, 46, 47, 48, 49, 50, 51, 52, 53, 54, 55, 56, 57, 58, 59, 60, 61, 62, 63, 64, 65, 66, 67, 68, 69, 70, 71, 79, 80, 81, 82, 83, 84, 85, 86, 87, 88, 89, 90, 91, 92, 93, 94, 95, 96, 97, 98, 99, 100, 101, 102, 103, 104, 105, 106, 107, 108, 109, 110, 111, 112, 113, 114, 115, 116, 117] (by decide +kernel) (by decide +kernel)
set_option maxRecDepth 20000 in
theorem gX7_told_X7_brazenAsNow : GoodIn wsX7_told (wsV RX7 270 RX7 yX7_brazenAsNow wsX7_brazenAsNow) := goodIn_app (goodIn_of _ (by decide +kernel)) ggX7_told_X7_brazenAsNow
set_option maxRecDepth 20000 in
theorem ggX7_told_X7_of : GoodIn wsX7_told wsX7_of := goodIn_r _ [54, 22, 79, 80, 81, 82, 83, 84, 85, 86, 87, 88, 89, 90, 91, 92, 93, 94, 95, 96, 97, 98, 99, 100, 101, 102, 103, 104, 105, 106, 107, 108, 109, 110, 111, 112, 113, 114, 115, 116, 117] (by decide +kernel) (by decide +kernel)
set_option maxRecDepth 20000 in
theorem gX7_told_X7_of : GoodIn wsX7_told (wsV RX7 182 RX7 yX7_of wsX7_of) := goodIn_app (goodIn_of _ (by decide +kernel)) ggX7_told_X7_of
set_option maxRecDepth 20000 in
theorem ggX7_told_X7_starts : GoodIn wsX7_told wsX7_starts := goodIn_r _ [21, 22, 23, 79, 80, 81, 82, 83, 84, 85, 86, 87, 88, 89, 90, 91, 92, 93, 94, 95, 96, 97, 98, 99, 100, 101, 102, 103, 104, 105, 106, 107, 108, 109, 110, 111, 112, 113, 114, 115, 116, 117] (by decide +kernel) (by decide +kernel)
set_option maxRecDepth 20000 in
theorem gX7_told_X7_starts : GoodIn wsX7_told (wsV RX7 217 RX7 yX7_starts wsX7_starts) := goodIn_app (goodIn_of _ (by decide +kernel)) ggX7_told_X7_starts
set_option maxRecDepth 20000 in
theorem ggX7_told_X7_rumoured : GoodIn wsX7_told wsX7_rumoured := goodIn_r _ [75, 41, 43, 42, 22, 76, 77, 6, 78, 79, 80, 81, 82, 83, 84, 85, 86, 87, 88, 89, 90, 91, 92, 93, 94, 95, 96, 97, 98, 99, 100, 101, 102, 103, 104, 105, 106, 107, 108, 109, 110, 111, 112, 113, 114, 115, 116, 117] (by decide +kernel) (by decide +kernel)
set_option maxRecDepth 20000 in
theorem gX7_told_X7_rumoured : GoodIn wsX7_told (wsV RX7 228 RX7 yX7_rumoured wsX7_rumoured) := goodIn_app (goodIn_of _ (by decide +kernel)) ggX7_told_X7_rumoured
set_option maxRecDepth 20000 in
theorem ggX7_told_X7_weeksLeft : GoodIn wsX7_told wsX7_weeksLeft := goodIn_r _ [27, 23, 79, 80, 81, 82, 83, 84, 85, 86, 87, 88, 89, 90, 91, 92, 93, 94, 95, 96, 97, 98, 99, 100, 101, 102, 103, 104, 105, 106, 107, 108, 109, 110, 111, 112, 113, 114, 115, 116, 117] (by decide +kernel) (by decide +kernel)
set_option maxRecDepth 20000 in
theorem gX7_told_X7_weeksLeft : GoodIn wsX7_told (wsV RX7 253 RX7 yX7_weeksLeft wsX7_weeksLeft) := goodIn_app (goodIn_of _ (by decide +kernel)) ggX7_told_X7_weeksLeft
set_option maxRecDepth 20000 in
theorem ggX7_told_X7_weeksGo : GoodIn wsX7_told wsX7_weeksGo := goodIn_r _ [35, 36, 37, 38, 6, 39, 22, 40, 41, 42, 43, 44, 45, 1, 46, 47, 48, 49, 50, 51, 52, 53, 54, 55, 56, 57, 58, 59, 60, 61, 62, 63, 64, 65, 66, 67, 79, 80, 81, 82, 83, 84, 85, 86, 87, 88, 89, 90, 91, 92, 93, 94, 95, 96, 97, 98, 99, 100, 101, 102, 103, 104, 105, 106, 107, 108, 109, 110, 111, 112, 113, 114, 115, 116, 117] (by decide +kernel) (by decide +kernel)
set_option maxRecDepth 20000 in
theorem gX7_told_X7_weeksGo : GoodIn wsX7_told (wsV RX7 204 RX7 yX7_weeksGo wsX7_weeksGo) := goodIn_app (goodIn_of _ (by decide +kernel)) ggX7_told_X7_weeksGo
set_option maxRecDepth 20000 in
theorem ggX7_told_X7_flag : GoodIn wsX7_told wsX7_flag := goodIn_r _ [78] (by decide +kernel) (by decide +kernel)
set_option maxRecDepth 20000 in
theorem gX7_told_X7_flag : GoodIn wsX7_told (va_wsS RX7 224 yX7_flag wsX7_flag) := goodIn_app (goodIn_of _ (by decide +kernel)) ggX7_told_X7_flag
theorem dX7_told_0 : decode cX7_told 0 = .ok (.aload_n 0, 1) := by decide +kernel
theorem dX7_told_1 : decode cX7_told 1 = .ok (.iload_n 1, 1) := by decide +kernel
theorem dX7_told_2 : decode cX7_told 2 = .ok (.invokevirtual 210, 3) := by decide +kernel
theorem dX7_told_5 : decode cX7_told 5 = .ok (.ifCond .eq 10, 3) := by decide +kernel
theorem dX7_told_8 : decode cX7_told 8 = .ok (.iload_n 2, 1) := by decide +kernel
theorem dX7_told_9 : decode cX7_told 9 = .ok (.invokestatic 234, 3) := by decide +kernel
theorem dX7_told_12 : decode cX7_told 12 = .ok (.ifCond .ne 5, 3) := by decide +kernel
theorem dX7_told_15 : decode cX7_told 15 = .ok (.iconst (-1), 1) := by decide +kernel
theorem dX7_told_16 : decode cX7_told 16 = .ok (.ireturn, 1) := by decide +kernel
theorem dX7_told_17 : decode cX7_told 17 = .ok (.aload_n 0, 1) := by decide +kernel
theorem dX7_told_18 : decode cX7_told 18 = .ok (.invokevirtual 270, 3) := by decide +kernel
theorem dX7_told_21 : decode cX7_told 21 = .ok (.pop, 1) := by decide +kernel
theorem dX7_told_22 : decode cX7_told 22 = .ok (.iconst 0, 1) := by decide +kernel
theorem dX7_told_23 : decode cX7_told 23 = .ok (.istore_n 3, 1) := by decide +kernel
theorem dX7_told_24 : decode cX7_told 24 = .ok (.iload_n 3, 1) := by decide +kernel
theorem dX7_told_25 : decode cX7_told 25 = .ok (.aload_n 0, 1) := by decide +kernel
theorem dX7_told_26 : decode cX7_told 26 = .ok (.getfield 99, 3) := by decide +kernel
theorem dX7_told_29 : decode cX7_told 29 = .ok (.if_icmp .ge 21, 3) := by decide +kernel
theorem dX7_told_32 : decode cX7_told 32 = .ok (.aload_n 0, 1) := by decide +kernel
theorem dX7_told_33 : decode cX7_told 33 = .ok (.getfield 62, 3) := by decide +kernel
theorem dX7_told_36 : decode cX7_told 36 = .ok (.iload_n 3, 1) := by decide +kernel
theorem dX7_told_37 : decode cX7_told 37 = .ok (.aload_n 0, 1) := by decide +kernel
theorem dX7_told_38 : decode cX7_told 38 = .ok (.iload_n 3, 1) := by decide +kernel
theorem dX7_told_39 : decode cX7_told 39 = .ok (.iconst 3, 1) := by decide +kernel
theorem dX7_told_40 : decode cX7_told 40 = .ok (.invokevirtual 182, 3) := by decide +kernel
theorem dX7_told_43 : decode cX7_told 43 = .ok (.iastore, 1) := by decide +kernel
theorem dX7_told_44 : decode cX7_told 44 = .ok (.iinc 3 1, 3) := by decide +kernel
theorem dX7_told_47 : decode cX7_told 47 = .ok (.goto (-23), 3) := by decide +kernel
theorem dX7_told_50 : decode cX7_told 50 = .ok (.aload_n 0, 1) := by decide +kernel
theorem dX7_told_51 : decode cX7_told 51 = .ok (.invokevirtual 217, 3) := by decide +kernel
theorem dX7_told_54 : decode cX7_told 54 = .ok (.aload_n 0, 1) := by decide +kernel
theorem dX7_told_55 : decode cX7_told 55 = .ok (.iload_n 1, 1) := by decide +kernel
theorem dX7_told_56 : decode cX7_told 56 = .ok (.invokevirtual 228, 3) := by decide +kernel
theorem dX7_told_59 : decode cX7_told 59 = .ok (.pop, 1) := by decide +kernel
theorem dX7_told_60 : decode cX7_told 60 = .ok (.aload_n 0, 1) := by decide +kernel
theorem dX7_told_61 : decode cX7_told 61 = .ok (.aload_n 0, 1) := by decide +kernel
theorem dX7_told_62 : decode cX7_told 62 = .ok (.invokevirtual 253, 3) := by decide +kernel
theorem dX7_told_65 : decode cX7_told 65 = .ok (.invokevirtual 204, 3) := by decide +kernel
theorem dX7_told_68 : decode cX7_told 68 = .ok (.iconst 0, 1) := by decide +kernel
theorem dX7_told_69 : decode cX7_told 69 = .ok (.istore_n 3, 1) := by decide +kernel
theorem dX7_told_70 : decode cX7_told 70 = .ok (.iconst 0, 1) := by decide +kernel
theorem dX7_told_71 : decode cX7_told 71 = .ok (.istore 4, 2) := by decide +kernel
theorem dX7_told_73 : decode cX7_told 73 = .ok (.iload 4, 2) := by decide +kernel
theorem dX7_told_75 : decode cX7_told 75 = .ok (.aload_n 0, 1) := by decide +kernel
theorem dX7_told_76 : decode cX7_told 76 = .ok (.getfield 99, 3) := by decide +kernel
theorem dX7_told_79 : decode cX7_told 79 = .ok (.if_icmp .ge 73, 3) := by decide +kernel
theorem dX7_told_82 : decode cX7_told 82 = .ok (.iload_n 2, 1) := by decide +kernel
theorem dX7_told_83 : decode cX7_told 83 = .ok (.ifCond .ne 28, 3) := by decide +kernel
theorem dX7_told_86 : decode cX7_told 86 = .ok (.aload_n 0, 1) := by decide +kernel
theorem dX7_told_87 : decode cX7_told 87 = .ok (.iload 4, 2) := by decide +kernel
theorem dX7_told_89 : decode cX7_told 89 = .ok (.iconst 3, 1) := by decide +kernel
theorem dX7_told_90 : decode cX7_told 90 = .ok (.invokevirtual 182, 3) := by decide +kernel
theorem dX7_told_93 : decode cX7_told 93 = .ok (.aload_n 0, 1) := by decide +kernel
theorem dX7_told_94 : decode cX7_told 94 = .ok (.getfield 62, 3) := by decide +kernel
theorem dX7_told_97 : decode cX7_told 97 = .ok (.iload 4, 2) := by decide +kernel
theorem dX7_told_99 : decode cX7_told 99 = .ok (.iaload, 1) := by decide +kernel
theorem dX7_told_100 : decode cX7_told 100 = .ok (.if_icmp .le 7, 3) := by decide +kernel
theorem dX7_told_103 : decode cX7_told 103 = .ok (.iconst 1, 1) := by decide +kernel
theorem dX7_told_104 : decode cX7_told 104 = .ok (.goto 29, 3) := by decide +kernel
theorem dX7_told_107 : decode cX7_told 107 = .ok (.iconst 0, 1) := by decide +kernel
theorem dX7_told_108 : decode cX7_told 108 = .ok (.goto 25, 3) := by decide +kernel
theorem dX7_told_111 : decode cX7_told 111 = .ok (.aload_n 0, 1) := by decide +kernel
theorem dX7_told_112 : decode cX7_told 112 = .ok (.iload 4, 2) := by decide +kernel
theorem dX7_told_114 : decode cX7_told 114 = .ok (.iconst 3, 1) := by decide +kernel
theorem dX7_told_115 : decode cX7_told 115 = .ok (.invokevirtual 182, 3) := by decide +kernel
theorem dX7_told_118 : decode cX7_told 118 = .ok (.aload_n 0, 1) := by decide +kernel
theorem dX7_told_119 : decode cX7_told 119 = .ok (.getfield 62, 3) := by decide +kernel
theorem dX7_told_122 : decode cX7_told 122 = .ok (.iload 4, 2) := by decide +kernel
theorem dX7_told_124 : decode cX7_told 124 = .ok (.iaload, 1) := by decide +kernel
theorem dX7_told_125 : decode cX7_told 125 = .ok (.if_icmp .ge 7, 3) := by decide +kernel
theorem dX7_told_128 : decode cX7_told 128 = .ok (.iconst 1, 1) := by decide +kernel
theorem dX7_told_129 : decode cX7_told 129 = .ok (.goto 4, 3) := by decide +kernel
theorem dX7_told_132 : decode cX7_told 132 = .ok (.iconst 0, 1) := by decide +kernel
theorem dX7_told_133 : decode cX7_told 133 = .ok (.istore 5, 2) := by decide +kernel
theorem dX7_told_135 : decode cX7_told 135 = .ok (.iload_n 3, 1) := by decide +kernel
theorem dX7_told_136 : decode cX7_told 136 = .ok (.iload 5, 2) := by decide +kernel
theorem dX7_told_138 : decode cX7_told 138 = .ok (.invokestatic 224, 3) := by decide +kernel
theorem dX7_told_141 : decode cX7_told 141 = .ok (.iload 4, 2) := by decide +kernel
theorem dX7_told_143 : decode cX7_told 143 = .ok (.ishl, 1) := by decide +kernel
theorem dX7_told_144 : decode cX7_told 144 = .ok (.ior, 1) := by decide +kernel
theorem dX7_told_145 : decode cX7_told 145 = .ok (.istore_n 3, 1) := by decide +kernel
theorem dX7_told_146 : decode cX7_told 146 = .ok (.iinc 4 1, 3) := by decide +kernel
theorem dX7_told_149 : decode cX7_told 149 = .ok (.goto (-76), 3) := by decide +kernel
theorem dX7_told_152 : decode cX7_told 152 = .ok (.iload_n 3, 1) := by decide +kernel
theorem dX7_told_153 : decode cX7_told 153 = .ok (.ireturn, 1) := by decide +kernel
set_option maxRecDepth 20000 in
theorem ggX7_whisper_X7_isPart : GoodIn wsX7_whisper wsX7_isPart := goodIn_r _ [5, 6, 7, 4, 8] (by decide +kernel) (by decide +kernel)
set_option maxRecDepth 20000 in
theorem gX7_whisper_X7_isPart : GoodIn wsX7_whisper (va_wsS RX7 234 yX7_isPart wsX7_isPart) := goodIn_app (goodIn_of _ (by decide +kernel)) ggX7_whisper_X7_isPart
set_option maxRecDepth 20000 in
theorem ggX7_whisper_X7_brazenAsNow : GoodIn wsX7_whisper wsX7_brazenAsNow := goodIn_r _ [12, 13, 14, 15, 4, 16, 17, 18, 19, 20, 21, 22, 23, 24, 25, 26, 27, 28, 29, 30, 31, 32, 33, 34, 35, 36, 37, 38, 39, 40, 1, 41, 42, 43, 44, 45, 46, 47, 48, 49, 50, 51, 52, 53, 54, 55, 56, 57, 58, 59, 60, 61, 62, 63, 64, 65, 66, 74, 75, 76, 77, 78, 79, 80, 81, 82, 83, 84, 85, 86, 87, 88, 89, 90, 91, 92, 93, 94, 95, 96, 97, 98, 99, 100, 101, 102, 103, 104, 105, 106, 107, 108, 109, 110, 111, 112] (by decide +kernel) (by decide +kernel)
set_option maxRecDepth 20000 in
theorem gX7_whisper_X7_brazenAsNow : GoodIn wsX7_whisper (wsV RX7 270 RX7 yX7_brazenAsNow wsX7_brazenAsNow) := goodIn_app (goodIn_of _ (by decide +kernel)) ggX7_whisper_X7_brazenAsNow
set_option maxRecDepth 20000 in
theorem ggX7_whisper_X7_starts : GoodIn wsX7_whisper wsX7_starts := goodIn_r _ [16, 17, 18, 74, 75, 76, 77, 78, 79, 80, 81, 82, 83, 84, 85, 86, 87, 88, 89, 90, 91, 92, 93, 94, 95, 96, 97, 98, 99, 100, 101, 102, 103, 104, 105, 106, 107, 108, 109, 110, 111, 112] (by decide +kernel) (by decide +kernel)
set_option maxRecDepth 20000 in
theorem gX7_whisper_X7_starts : GoodIn wsX7_whisper (wsV RX7 217 RX7 yX7_starts wsX7_starts) := goodIn_app (goodIn_of _ (by decide +kernel)) ggX7_whisper_X7_starts
set_option maxRecDepth 20000 in
theorem ggX7_whisper_X7_rumoured : GoodIn wsX7_whisper wsX7_rumoured := goodIn_r _ [70, 36, 38, 37, 17, 71, 72, 4, 73, 74, 75, 76, 77, 78, 79, 80, 81, 82, 83, 84, 85, 86, 87, 88, 89, 90, 91, 92, 93, 94, 95, 96, 97, 98, 99, 100, 101, 102, 103, 104, 105, 106, 107, 108, 109, 110, 111, 112] (by decide +kernel) (by decide +kernel)
set_option maxRecDepth 20000 in
theorem gX7_whisper_X7_rumoured : GoodIn wsX7_whisper (wsV RX7 228 RX7 yX7_rumoured wsX7_rumoured) := goodIn_app (goodIn_of _ (by decide +kernel)) ggX7_whisper_X7_rumoured
set_option maxRecDepth 20000 in
theorem ggX7_whisper_X7_weeksLeft : GoodIn wsX7_whisper wsX7_weeksLeft := goodIn_r _ [22, 18, 74, 75, 76, 77, 78, 79, 80, 81, 82, 83, 84, 85, 86, 87, 88, 89, 90, 91, 92, 93, 94, 95, 96, 97, 98, 99, 100, 101, 102, 103, 104, 105, 106, 107, 108, 109, 110, 111, 112] (by decide +kernel) (by decide +kernel)
set_option maxRecDepth 20000 in
theorem gX7_whisper_X7_weeksLeft : GoodIn wsX7_whisper (wsV RX7 253 RX7 yX7_weeksLeft wsX7_weeksLeft) := goodIn_app (goodIn_of _ (by decide +kernel)) ggX7_whisper_X7_weeksLeft
set_option maxRecDepth 20000 in
theorem ggX7_whisper_X7_brazenIn : GoodIn wsX7_whisper wsX7_brazenIn := goodIn_r _ [26, 27, 28, 29, 4, 30, 31, 32, 33, 34, 17, 35, 36, 37, 38, 39, 40, 1, 41, 42, 43, 44, 45, 46, 47, 48, 49, 50, 51, 52, 53, 54, 55, 56, 57, 58, 59, 60, 61, 62, 63, 64, 65, 66, 18, 74, 75, 76, 77, 78, 79, 80, 81, 82, 83, 84, 85, 86, 87, 88, 89, 90, 91, 92, 93, 94, 95, 96, 97, 98, 99, 100, 101, 102, 103, 104, 105, 106, 107, 108, 109, 110, 111, 112] (by decide +kernel) (by decide +kernel)
set_option maxRecDepth 20000 in
theorem gX7_whisper_X7_brazenIn : GoodIn wsX7_whisper (wsV RX7 244 RX7 yX7_brazenIn wsX7_brazenIn) := goodIn_app (goodIn_of _ (by decide +kernel)) ggX7_whisper_X7_brazenIn
theorem dX7_whisper_0 : decode cX7_whisper 0 = .ok (.iload_n 1, 1) := by decide +kernel
theorem dX7_whisper_1 : decode cX7_whisper 1 = .ok (.invokestatic 234, 3) := by decide +kernel
theorem dX7_whisper_4 : decode cX7_whisper 4 = .ok (.ifCond .ne 5, 3) := by decide +kernel
theorem dX7_whisper_7 : decode cX7_whisper 7 = .ok (.iconst (-1), 1) := by decide +kernel
theorem dX7_whisper_8 : decode cX7_whisper 8 = .ok (.ireturn, 1) := by decide +kernel
theorem dX7_whisper_9 : decode cX7_whisper 9 = .ok (.aload_n 0, 1) := by decide +kernel
theorem dX7_whisper_10 : decode cX7_whisper 10 = .ok (.invokevirtual 270, 3) := by decide +kernel
theorem dX7_whisper_13 : decode cX7_whisper 13 = .ok (.istore_n 2, 1) := by decide +kernel
theorem dX7_whisper_14 : decode cX7_whisper 14 = .ok (.bipush (-4), 2) := by decide +kernel
theorem dX7_whisper_16 : decode cX7_whisper 16 = .ok (.istore_n 3, 1) := by decide +kernel
theorem dX7_whisper_17 : decode cX7_whisper 17 = .ok (.iconst 0, 1) := by decide +kernel
theorem dX7_whisper_18 : decode cX7_whisper 18 = .ok (.istore 4, 2) := by decide +kernel
theorem dX7_whisper_20 : decode cX7_whisper 20 = .ok (.iload 4, 2) := by decide +kernel
theorem dX7_whisper_22 : decode cX7_whisper 22 = .ok (.aload_n 0, 1) := by decide +kernel
theorem dX7_whisper_23 : decode cX7_whisper 23 = .ok (.getfield 99, 3) := by decide +kernel
theorem dX7_whisper_26 : decode cX7_whisper 26 = .ok (.if_icmp .ge 56, 3) := by decide +kernel
theorem dX7_whisper_29 : decode cX7_whisper 29 = .ok (.aload_n 0, 1) := by decide +kernel
theorem dX7_whisper_30 : decode cX7_whisper 30 = .ok (.invokevirtual 217, 3) := by decide +kernel
theorem dX7_whisper_33 : decode cX7_whisper 33 = .ok (.aload_n 0, 1) := by decide +kernel
theorem dX7_whisper_34 : decode cX7_whisper 34 = .ok (.iload 4, 2) := by decide +kernel
theorem dX7_whisper_36 : decode cX7_whisper 36 = .ok (.invokevirtual 228, 3) := by decide +kernel
theorem dX7_whisper_39 : decode cX7_whisper 39 = .ok (.pop, 1) := by decide +kernel
theorem dX7_whisper_40 : decode cX7_whisper 40 = .ok (.aload_n 0, 1) := by decide +kernel
theorem dX7_whisper_41 : decode cX7_whisper 41 = .ok (.aload_n 0, 1) := by decide +kernel
theorem dX7_whisper_42 : decode cX7_whisper 42 = .ok (.invokevirtual 253, 3) := by decide +kernel
theorem dX7_whisper_45 : decode cX7_whisper 45 = .ok (.invokevirtual 244, 3) := by decide +kernel
theorem dX7_whisper_48 : decode cX7_whisper 48 = .ok (.istore 5, 2) := by decide +kernel
theorem dX7_whisper_50 : decode cX7_whisper 50 = .ok (.iload 5, 2) := by decide +kernel
theorem dX7_whisper_52 : decode cX7_whisper 52 = .ok (.iload_n 2, 1) := by decide +kernel
theorem dX7_whisper_53 : decode cX7_whisper 53 = .ok (.if_icmp .ge 8, 3) := by decide +kernel
theorem dX7_whisper_56 : decode cX7_whisper 56 = .ok (.iload 4, 2) := by decide +kernel
theorem dX7_whisper_58 : decode cX7_whisper 58 = .ok (.goto 4, 3) := by decide +kernel
theorem dX7_whisper_61 : decode cX7_whisper 61 = .ok (.iload_n 3, 1) := by decide +kernel
theorem dX7_whisper_62 : decode cX7_whisper 62 = .ok (.istore_n 3, 1) := by decide +kernel
theorem dX7_whisper_63 : decode cX7_whisper 63 = .ok (.iload 5, 2) := by decide +kernel
theorem dX7_whisper_65 : decode cX7_whisper 65 = .ok (.iload_n 2, 1) := by decide +kernel
theorem dX7_whisper_66 : decode cX7_whisper 66 = .ok (.if_icmp .ge 8, 3) := by decide +kernel
theorem dX7_whisper_69 : decode cX7_whisper 69 = .ok (.iload 5, 2) := by decide +kernel
theorem dX7_whisper_71 : decode cX7_whisper 71 = .ok (.goto 4, 3) := by decide +kernel
theorem dX7_whisper_74 : decode cX7_whisper 74 = .ok (.iload_n 2, 1) := by decide +kernel
theorem dX7_whisper_75 : decode cX7_whisper 75 = .ok (.istore_n 2, 1) := by decide +kernel
theorem dX7_whisper_76 : decode cX7_whisper 76 = .ok (.iinc 4 1, 3) := by decide +kernel
theorem dX7_whisper_79 : decode cX7_whisper 79 = .ok (.goto (-59), 3) := by decide +kernel
theorem dX7_whisper_82 : decode cX7_whisper 82 = .ok (.iload_n 3, 1) := by decide +kernel
theorem dX7_whisper_83 : decode cX7_whisper 83 = .ok (.bipush (-4), 2) := by decide +kernel
theorem dX7_whisper_85 : decode cX7_whisper 85 = .ok (.if_icmp .ne 8, 3) := by decide +kernel
theorem dX7_whisper_88 : decode cX7_whisper 88 = .ok (.bipush (-4), 2) := by decide +kernel
theorem dX7_whisper_90 : decode cX7_whisper 90 = .ok (.goto 12, 3) := by decide +kernel
theorem dX7_whisper_93 : decode cX7_whisper 93 = .ok (.iload_n 1, 1) := by decide +kernel
theorem dX7_whisper_94 : decode cX7_whisper 94 = .ok (.ifCond .ne 7, 3) := by decide +kernel
theorem dX7_whisper_97 : decode cX7_whisper 97 = .ok (.iload_n 3, 1) := by decide +kernel
theorem dX7_whisper_98 : decode cX7_whisper 98 = .ok (.goto 4, 3) := by decide +kernel
theorem dX7_whisper_101 : decode cX7_whisper 101 = .ok (.iload_n 2, 1) := by decide +kernel
theorem dX7_whisper_102 : decode cX7_whisper 102 = .ok (.ireturn, 1) := by decide +kernel
set_option maxRecDepth 20000 in
theorem ggX7_note_X7_isOne : GoodIn wsX7_note wsX7_isOne := goodIn_r _ [7, 8, 9, 10, 6, 11, 15, 16, 17, 18, 19, 20, 21, 22, 23, 24, 25, 26, 27, 28, 29, 30, 31, 32, 33, 34, 35, 36, 37, 38, 39, 40, 41, 42, 43, 44, 45, 46, 47, 48, 49, 50, 51, 52, 53] (by decide +kernel) (by decide +kernel)
set_option maxRecDepth 20000 in
theorem gX7_note_X7_isOne : GoodIn wsX7_note (wsV RX7 210 RX7 yX7_isOne wsX7_isOne) := goodIn_app (goodIn_of _ (by decide +kernel)) ggX7_note_X7_isOne
set_option maxRecDepth 20000 in
theorem ggX7_note_X7_in : GoodIn wsX7_note wsX7_in := goodIn_r _ [11] (by decide +kernel) (by decide +kernel)
set_option maxRecDepth 20000 in
theorem gX7_note_X7_in : GoodIn wsX7_note (va_wsS RX7 110 yX7_in wsX7_in) := goodIn_app (goodIn_of _ (by decide +kernel)) ggX7_note_X7_in
set_option maxRecDepth 20000 in
theorem ggX7_note_X7_flag : GoodIn wsX7_note wsX7_flag := goodIn_r _ [14] (by decide +kernel) (by decide +kernel)
set_option maxRecDepth 20000 in
theorem gX7_note_X7_flag : GoodIn wsX7_note (va_wsS RX7 224 yX7_flag wsX7_flag) := goodIn_app (goodIn_of _ (by decide +kernel)) ggX7_note_X7_flag
theorem dX7_note_0 : decode cX7_note 0 = .ok (.aload_n 0, 1) := by decide +kernel
theorem dX7_note_1 : decode cX7_note 1 = .ok (.iload_n 1, 1) := by decide +kernel
theorem dX7_note_2 : decode cX7_note 2 = .ok (.invokevirtual 210, 3) := by decide +kernel
theorem dX7_note_5 : decode cX7_note 5 = .ok (.ifCond .eq 15, 3) := by decide +kernel
theorem dX7_note_8 : decode cX7_note 8 = .ok (.iload_n 2, 1) := by decide +kernel
theorem dX7_note_9 : decode cX7_note 9 = .ok (.i2l, 1) := by decide +kernel
theorem dX7_note_10 : decode cX7_note 10 = .ok (.lconst 0, 1) := by decide +kernel
theorem dX7_note_11 : decode cX7_note 11 = .ok (.ldc2_w 237, 3) := by decide +kernel
theorem dX7_note_14 : decode cX7_note 14 = .ok (.invokestatic 110, 3) := by decide +kernel
theorem dX7_note_17 : decode cX7_note 17 = .ok (.ifCond .ne 5, 3) := by decide +kernel
theorem dX7_note_20 : decode cX7_note 20 = .ok (.iconst (-1), 1) := by decide +kernel
theorem dX7_note_21 : decode cX7_note 21 = .ok (.ireturn, 1) := by decide +kernel
theorem dX7_note_22 : decode cX7_note 22 = .ok (.iload_n 2, 1) := by decide +kernel
theorem dX7_note_23 : decode cX7_note 23 = .ok (.aload_n 0, 1) := by decide +kernel
theorem dX7_note_24 : decode cX7_note 24 = .ok (.getfield 7, 3) := by decide +kernel
theorem dX7_note_27 : decode cX7_note 27 = .ok (.bipush 25, 2) := by decide +kernel
theorem dX7_note_29 : decode cX7_note 29 = .ok (.iaload, 1) := by decide +kernel
theorem dX7_note_30 : decode cX7_note 30 = .ok (.if_icmp .ge 6, 3) := by decide +kernel
theorem dX7_note_33 : decode cX7_note 33 = .ok (.bipush (-2), 2) := by decide +kernel
theorem dX7_note_35 : decode cX7_note 35 = .ok (.ireturn, 1) := by decide +kernel
theorem dX7_note_36 : decode cX7_note 36 = .ok (.aload_n 0, 1) := by decide +kernel
theorem dX7_note_37 : decode cX7_note 37 = .ok (.getfield 7, 3) := by decide +kernel
theorem dX7_note_40 : decode cX7_note 40 = .ok (.bipush 26, 2) := by decide +kernel
theorem dX7_note_42 : decode cX7_note 42 = .ok (.iaload, 1) := by decide +kernel
theorem dX7_note_43 : decode cX7_note 43 = .ok (.bipush 6, 2) := by decide +kernel
theorem dX7_note_45 : decode cX7_note 45 = .ok (.if_icmp .ne 6, 3) := by decide +kernel
theorem dX7_note_48 : decode cX7_note 48 = .ok (.bipush (-3), 2) := by decide +kernel
theorem dX7_note_50 : decode cX7_note 50 = .ok (.ireturn, 1) := by decide +kernel
theorem dX7_note_51 : decode cX7_note 51 = .ok (.bipush 27, 2) := by decide +kernel
theorem dX7_note_53 : decode cX7_note 53 = .ok (.iconst 3, 1) := by decide +kernel
theorem dX7_note_54 : decode cX7_note 54 = .ok (.aload_n 0, 1) := by decide +kernel
theorem dX7_note_55 : decode cX7_note 55 = .ok (.getfield 7, 3) := by decide +kernel
theorem dX7_note_58 : decode cX7_note 58 = .ok (.bipush 26, 2) := by decide +kernel
theorem dX7_note_60 : decode cX7_note 60 = .ok (.iaload, 1) := by decide +kernel
theorem dX7_note_61 : decode cX7_note 61 = .ok (.imul, 1) := by decide +kernel
theorem dX7_note_62 : decode cX7_note 62 = .ok (.iadd, 1) := by decide +kernel
theorem dX7_note_63 : decode cX7_note 63 = .ok (.istore 4, 2) := by decide +kernel
theorem dX7_note_65 : decode cX7_note 65 = .ok (.aload_n 0, 1) := by decide +kernel
theorem dX7_note_66 : decode cX7_note 66 = .ok (.getfield 7, 3) := by decide +kernel
theorem dX7_note_69 : decode cX7_note 69 = .ok (.iload 4, 2) := by decide +kernel
theorem dX7_note_71 : decode cX7_note 71 = .ok (.iload_n 1, 1) := by decide +kernel
theorem dX7_note_72 : decode cX7_note 72 = .ok (.iastore, 1) := by decide +kernel
theorem dX7_note_73 : decode cX7_note 73 = .ok (.aload_n 0, 1) := by decide +kernel
theorem dX7_note_74 : decode cX7_note 74 = .ok (.getfield 7, 3) := by decide +kernel
theorem dX7_note_77 : decode cX7_note 77 = .ok (.iload 4, 2) := by decide +kernel
theorem dX7_note_79 : decode cX7_note 79 = .ok (.iconst 1, 1) := by decide +kernel
theorem dX7_note_80 : decode cX7_note 80 = .ok (.iadd, 1) := by decide +kernel
theorem dX7_note_81 : decode cX7_note 81 = .ok (.iload_n 2, 1) := by decide +kernel
theorem dX7_note_82 : decode cX7_note 82 = .ok (.iastore, 1) := by decide +kernel
theorem dX7_note_83 : decode cX7_note 83 = .ok (.aload_n 0, 1) := by decide +kernel
theorem dX7_note_84 : decode cX7_note 84 = .ok (.getfield 7, 3) := by decide +kernel
theorem dX7_note_87 : decode cX7_note 87 = .ok (.iload 4, 2) := by decide +kernel
theorem dX7_note_89 : decode cX7_note 89 = .ok (.iconst 2, 1) := by decide +kernel
theorem dX7_note_90 : decode cX7_note 90 = .ok (.iadd, 1) := by decide +kernel
theorem dX7_note_91 : decode cX7_note 91 = .ok (.iload_n 3, 1) := by decide +kernel
theorem dX7_note_92 : decode cX7_note 92 = .ok (.invokestatic 224, 3) := by decide +kernel
theorem dX7_note_95 : decode cX7_note 95 = .ok (.iastore, 1) := by decide +kernel
theorem dX7_note_96 : decode cX7_note 96 = .ok (.aload_n 0, 1) := by decide +kernel
theorem dX7_note_97 : decode cX7_note 97 = .ok (.getfield 7, 3) := by decide +kernel
theorem dX7_note_100 : decode cX7_note 100 = .ok (.bipush 26, 2) := by decide +kernel
theorem dX7_note_102 : decode cX7_note 102 = .ok (.dup2, 1) := by decide +kernel
theorem dX7_note_103 : decode cX7_note 103 = .ok (.iaload, 1) := by decide +kernel
theorem dX7_note_104 : decode cX7_note 104 = .ok (.iconst 1, 1) := by decide +kernel
theorem dX7_note_105 : decode cX7_note 105 = .ok (.iadd, 1) := by decide +kernel
theorem dX7_note_106 : decode cX7_note 106 = .ok (.iastore, 1) := by decide +kernel
theorem dX7_note_107 : decode cX7_note 107 = .ok (.aload_n 0, 1) := by decide +kernel
theorem dX7_note_108 : decode cX7_note 108 = .ok (.getfield 7, 3) := by decide +kernel
theorem dX7_note_111 : decode cX7_note 111 = .ok (.bipush 26, 2) := by decide +kernel
theorem dX7_note_113 : decode cX7_note 113 = .ok (.iaload, 1) := by decide +kernel
theorem dX7_note_114 : decode cX7_note 114 = .ok (.ireturn, 1) := by decide +kernel
set_option maxRecDepth 20000 in
theorem ggX7_forget_X7_in : GoodIn wsX7_forget wsX7_in := goodIn_r _ [5] (by decide +kernel) (by decide +kernel)
set_option maxRecDepth 20000 in
theorem gX7_forget_X7_in : GoodIn wsX7_forget (va_wsS RX7 110 yX7_in wsX7_in) := goodIn_app (goodIn_of _ (by decide +kernel)) ggX7_forget_X7_in
set_option maxRecDepth 20000 in
theorem ggX7_forget_X7_becomes : GoodIn wsX7_forget wsX7_becomes := goodIn_r _ [9, 1, 10, 11, 12, 13, 14, 15, 16, 17, 18, 19, 20, 21, 22, 23, 24, 25, 26, 27, 28, 29, 30, 31, 32, 33, 34, 35, 36, 37, 38, 39, 40, 41, 42, 43, 44, 45, 46, 47, 48] (by decide +kernel) (by decide +kernel)
set_option maxRecDepth 20000 in
theorem gX7_forget_X7_becomes : GoodIn wsX7_forget (wsV RX7 239 RX7 yX7_becomes wsX7_becomes) := goodIn_app (goodIn_of _ (by decide +kernel)) ggX7_forget_X7_becomes
theorem dX7_forget_0 : decode cX7_forget 0 = .ok (.iload_n 1, 1) := by decide +kernel
theorem dX7_forget_1 : decode cX7_forget 1 = .ok (.i2l, 1) := by decide +kernel
theorem dX7_forget_2 : decode cX7_forget 2 = .ok (.lconst 0, 1) := by decide +kernel
theorem dX7_forget_3 : decode cX7_forget 3 = .ok (.aload_n 0, 1) := by decide +kernel
theorem dX7_forget_4 : decode cX7_forget 4 = .ok (.getfield 7, 3) := by decide +kernel
theorem dX7_forget_7 : decode cX7_forget 7 = .ok (.bipush 26, 2) := by decide +kernel
theorem dX7_forget_9 : decode cX7_forget 9 = .ok (.iaload, 1) := by decide +kernel
theorem dX7_forget_10 : decode cX7_forget 10 = .ok (.i2l, 1) := by decide +kernel
theorem dX7_forget_11 : decode cX7_forget 11 = .ok (.invokestatic 110, 3) := by decide +kernel
theorem dX7_forget_14 : decode cX7_forget 14 = .ok (.ifCond .eq 13, 3) := by decide +kernel
theorem dX7_forget_17 : decode cX7_forget 17 = .ok (.aload_n 0, 1) := by decide +kernel
theorem dX7_forget_18 : decode cX7_forget 18 = .ok (.bipush 26, 2) := by decide +kernel
theorem dX7_forget_20 : decode cX7_forget 20 = .ok (.iload_n 1, 1) := by decide +kernel
theorem dX7_forget_21 : decode cX7_forget 21 = .ok (.invokevirtual 239, 3) := by decide +kernel
theorem dX7_forget_24 : decode cX7_forget 24 = .ok (.goto 4, 3) := by decide +kernel
theorem dX7_forget_27 : decode cX7_forget 27 = .ok (.iconst (-1), 1) := by decide +kernel
theorem dX7_forget_28 : decode cX7_forget 28 = .ok (.ireturn, 1) := by decide +kernel
set_option maxRecDepth 20000 in
theorem ggX7_fitsTo_X7_isPlan : GoodIn wsX7_fitsTo wsX7_isPlan := goodIn_r _ [8, 9, 10, 2, 53, 54, 55, 56, 57, 58, 59, 60, 61, 62, 63, 64, 65, 66, 67, 68, 69, 70, 71, 72, 73, 74, 75, 76, 77, 78, 79, 80, 81, 82, 83, 84, 85, 86, 87, 88, 89, 90, 91] (by decide +kernel) (by decide +kernel)
set_option maxRecDepth 20000 in
theorem gX7_fitsTo_X7_isPlan : GoodIn wsX7_fitsTo (wsV RX7 247 RX7 yX7_isPlan wsX7_isPlan) := goodIn_app (goodIn_of _ (by decide +kernel)) ggX7_fitsTo_X7_isPlan
set_option maxRecDepth 20000 in
theorem ggX7_fitsTo_X7_startsBy : GoodIn wsX7_fitsTo wsX7_startsBy := goodIn_r _ [14, 1, 15, 16, 17, 7, 18, 2, 53, 54, 55, 56, 57, 58, 59, 60, 61, 62, 63, 64, 65, 66, 67, 68, 69, 70, 71, 72, 73, 74, 75, 76, 77, 78, 79, 80, 81, 82, 83, 84, 85, 86, 87, 88, 89, 90, 91] (by decide +kernel) (by decide +kernel)
set_option maxRecDepth 20000 in
theorem gX7_fitsTo_X7_startsBy : GoodIn wsX7_fitsTo (wsV RX7 250 RX7 yX7_startsBy wsX7_startsBy) := goodIn_app (goodIn_of _ (by decide +kernel)) ggX7_fitsTo_X7_startsBy
set_option maxRecDepth 20000 in
theorem ggX7_fitsTo_X7_weeksLeft : GoodIn wsX7_fitsTo wsX7_weeksLeft := goodIn_r _ [22, 2, 53, 54, 55, 56, 57, 58, 59, 60, 61, 62, 63, 64, 65, 66, 67, 68, 69, 70, 71, 72, 73, 74, 75, 76, 77, 78, 79, 80, 81, 82, 83, 84, 85, 86, 87, 88, 89, 90, 91] (by decide +kernel) (by decide +kernel)
set_option maxRecDepth 20000 in
theorem gX7_fitsTo_X7_weeksLeft : GoodIn wsX7_fitsTo (wsV RX7 253 RX7 yX7_weeksLeft wsX7_weeksLeft) := goodIn_app (goodIn_of _ (by decide +kernel)) ggX7_fitsTo_X7_weeksLeft
set_option maxRecDepth 20000 in
theorem ggX7_fitsTo_X7_weekGoes : GoodIn wsX7_fitsTo wsX7_weekGoes := goodIn_r _ [26, 1, 3, 9, 10, 27, 28, 29, 30, 31, 32, 33, 7, 34, 35, 36, 37, 38, 39, 40, 41, 42, 43, 44, 45, 46, 47, 48, 49, 50, 51, 52, 53, 54, 55, 56, 57, 58, 59, 60, 61, 62, 63, 64, 65, 66, 67, 68, 69, 70, 71, 72, 73, 74, 75, 76, 77, 78, 79, 80, 81, 82, 83, 84, 85, 86, 87, 88, 89, 90, 91] (by decide +kernel) (by decide +kernel)
set_option maxRecDepth 20000 in
theorem gX7_fitsTo_X7_weekGoes : GoodIn wsX7_fitsTo (wsV RX7 201 RX7 yX7_weekGoes wsX7_weekGoes) := goodIn_app (goodIn_of _ (by decide +kernel)) ggX7_fitsTo_X7_weekGoes
theorem dX7_fitsTo_0 : decode cX7_fitsTo 0 = .ok (.aload_n 0, 1) := by decide +kernel
theorem dX7_fitsTo_1 : decode cX7_fitsTo 1 = .ok (.iload_n 1, 1) := by decide +kernel
theorem dX7_fitsTo_2 : decode cX7_fitsTo 2 = .ok (.invokevirtual 247, 3) := by decide +kernel
theorem dX7_fitsTo_5 : decode cX7_fitsTo 5 = .ok (.istore_n 2, 1) := by decide +kernel
theorem dX7_fitsTo_6 : decode cX7_fitsTo 6 = .ok (.aload_n 0, 1) := by decide +kernel
theorem dX7_fitsTo_7 : decode cX7_fitsTo 7 = .ok (.iload_n 1, 1) := by decide +kernel
theorem dX7_fitsTo_8 : decode cX7_fitsTo 8 = .ok (.invokevirtual 250, 3) := by decide +kernel
theorem dX7_fitsTo_11 : decode cX7_fitsTo 11 = .ok (.iconst 0, 1) := by decide +kernel
theorem dX7_fitsTo_12 : decode cX7_fitsTo 12 = .ok (.istore_n 3, 1) := by decide +kernel
theorem dX7_fitsTo_13 : decode cX7_fitsTo 13 = .ok (.iload_n 3, 1) := by decide +kernel
theorem dX7_fitsTo_14 : decode cX7_fitsTo 14 = .ok (.aload_n 0, 1) := by decide +kernel
theorem dX7_fitsTo_15 : decode cX7_fitsTo 15 = .ok (.invokevirtual 253, 3) := by decide +kernel
theorem dX7_fitsTo_18 : decode cX7_fitsTo 18 = .ok (.if_icmp .ge 106, 3) := by decide +kernel
theorem dX7_fitsTo_21 : decode cX7_fitsTo 21 = .ok (.iload_n 2, 1) := by decide +kernel
theorem dX7_fitsTo_22 : decode cX7_fitsTo 22 = .ok (.ifCond .eq 102, 3) := by decide +kernel
theorem dX7_fitsTo_25 : decode cX7_fitsTo 25 = .ok (.aload_n 0, 1) := by decide +kernel
theorem dX7_fitsTo_26 : decode cX7_fitsTo 26 = .ok (.getfield 13, 3) := by decide +kernel
theorem dX7_fitsTo_29 : decode cX7_fitsTo 29 = .ok (.bipush 25, 2) := by decide +kernel
theorem dX7_fitsTo_31 : decode cX7_fitsTo 31 = .ok (.iaload, 1) := by decide +kernel
theorem dX7_fitsTo_32 : decode cX7_fitsTo 32 = .ok (.istore 4, 2) := by decide +kernel
theorem dX7_fitsTo_34 : decode cX7_fitsTo 34 = .ok (.aload_n 0, 1) := by decide +kernel
theorem dX7_fitsTo_35 : decode cX7_fitsTo 35 = .ok (.invokevirtual 201, 3) := by decide +kernel
theorem dX7_fitsTo_38 : decode cX7_fitsTo 38 = .ok (.iconst 0, 1) := by decide +kernel
theorem dX7_fitsTo_39 : decode cX7_fitsTo 39 = .ok (.istore 5, 2) := by decide +kernel
theorem dX7_fitsTo_41 : decode cX7_fitsTo 41 = .ok (.iload 5, 2) := by decide +kernel
theorem dX7_fitsTo_43 : decode cX7_fitsTo 43 = .ok (.aload_n 0, 1) := by decide +kernel
theorem dX7_fitsTo_44 : decode cX7_fitsTo 44 = .ok (.getfield 7, 3) := by decide +kernel
theorem dX7_fitsTo_47 : decode cX7_fitsTo 47 = .ok (.bipush 26, 2) := by decide +kernel
theorem dX7_fitsTo_49 : decode cX7_fitsTo 49 = .ok (.iaload, 1) := by decide +kernel
theorem dX7_fitsTo_50 : decode cX7_fitsTo 50 = .ok (.if_icmp .ge 68, 3) := by decide +kernel
theorem dX7_fitsTo_53 : decode cX7_fitsTo 53 = .ok (.bipush 27, 2) := by decide +kernel
theorem dX7_fitsTo_55 : decode cX7_fitsTo 55 = .ok (.iconst 3, 1) := by decide +kernel
theorem dX7_fitsTo_56 : decode cX7_fitsTo 56 = .ok (.iload 5, 2) := by decide +kernel
theorem dX7_fitsTo_58 : decode cX7_fitsTo 58 = .ok (.imul, 1) := by decide +kernel
theorem dX7_fitsTo_59 : decode cX7_fitsTo 59 = .ok (.iadd, 1) := by decide +kernel
theorem dX7_fitsTo_60 : decode cX7_fitsTo 60 = .ok (.istore 6, 2) := by decide +kernel
theorem dX7_fitsTo_62 : decode cX7_fitsTo 62 = .ok (.iload_n 2, 1) := by decide +kernel
theorem dX7_fitsTo_63 : decode cX7_fitsTo 63 = .ok (.ifCond .eq 47, 3) := by decide +kernel
theorem dX7_fitsTo_66 : decode cX7_fitsTo 66 = .ok (.aload_n 0, 1) := by decide +kernel
theorem dX7_fitsTo_67 : decode cX7_fitsTo 67 = .ok (.getfield 7, 3) := by decide +kernel
theorem dX7_fitsTo_70 : decode cX7_fitsTo 70 = .ok (.iload 6, 2) := by decide +kernel
theorem dX7_fitsTo_72 : decode cX7_fitsTo 72 = .ok (.iconst 1, 1) := by decide +kernel
theorem dX7_fitsTo_73 : decode cX7_fitsTo 73 = .ok (.iadd, 1) := by decide +kernel
theorem dX7_fitsTo_74 : decode cX7_fitsTo 74 = .ok (.iaload, 1) := by decide +kernel
theorem dX7_fitsTo_75 : decode cX7_fitsTo 75 = .ok (.iload 4, 2) := by decide +kernel
theorem dX7_fitsTo_77 : decode cX7_fitsTo 77 = .ok (.if_icmp .ne 29, 3) := by decide +kernel
theorem dX7_fitsTo_80 : decode cX7_fitsTo 80 = .ok (.aload_n 0, 1) := by decide +kernel
theorem dX7_fitsTo_81 : decode cX7_fitsTo 81 = .ok (.getfield 192, 3) := by decide +kernel
theorem dX7_fitsTo_84 : decode cX7_fitsTo 84 = .ok (.aload_n 0, 1) := by decide +kernel
theorem dX7_fitsTo_85 : decode cX7_fitsTo 85 = .ok (.getfield 7, 3) := by decide +kernel
theorem dX7_fitsTo_88 : decode cX7_fitsTo 88 = .ok (.iload 6, 2) := by decide +kernel
theorem dX7_fitsTo_90 : decode cX7_fitsTo 90 = .ok (.iaload, 1) := by decide +kernel
theorem dX7_fitsTo_91 : decode cX7_fitsTo 91 = .ok (.ishr, 1) := by decide +kernel
theorem dX7_fitsTo_92 : decode cX7_fitsTo 92 = .ok (.iconst 1, 1) := by decide +kernel
theorem dX7_fitsTo_93 : decode cX7_fitsTo 93 = .ok (.iand, 1) := by decide +kernel
theorem dX7_fitsTo_94 : decode cX7_fitsTo 94 = .ok (.aload_n 0, 1) := by decide +kernel
theorem dX7_fitsTo_95 : decode cX7_fitsTo 95 = .ok (.getfield 7, 3) := by decide +kernel
theorem dX7_fitsTo_98 : decode cX7_fitsTo 98 = .ok (.iload 6, 2) := by decide +kernel
theorem dX7_fitsTo_100 : decode cX7_fitsTo 100 = .ok (.iconst 2, 1) := by decide +kernel
theorem dX7_fitsTo_101 : decode cX7_fitsTo 101 = .ok (.iadd, 1) := by decide +kernel
theorem dX7_fitsTo_102 : decode cX7_fitsTo 102 = .ok (.iaload, 1) := by decide +kernel
theorem dX7_fitsTo_103 : decode cX7_fitsTo 103 = .ok (.if_icmp .ne 7, 3) := by decide +kernel
theorem dX7_fitsTo_106 : decode cX7_fitsTo 106 = .ok (.iconst 1, 1) := by decide +kernel
theorem dX7_fitsTo_107 : decode cX7_fitsTo 107 = .ok (.goto 4, 3) := by decide +kernel
theorem dX7_fitsTo_110 : decode cX7_fitsTo 110 = .ok (.iconst 0, 1) := by decide +kernel
theorem dX7_fitsTo_111 : decode cX7_fitsTo 111 = .ok (.istore_n 2, 1) := by decide +kernel
theorem dX7_fitsTo_112 : decode cX7_fitsTo 112 = .ok (.iinc 5 1, 3) := by decide +kernel
theorem dX7_fitsTo_115 : decode cX7_fitsTo 115 = .ok (.goto (-74), 3) := by decide +kernel
theorem dX7_fitsTo_118 : decode cX7_fitsTo 118 = .ok (.iinc 3 1, 3) := by decide +kernel
theorem dX7_fitsTo_121 : decode cX7_fitsTo 121 = .ok (.goto (-108), 3) := by decide +kernel
theorem dX7_fitsTo_124 : decode cX7_fitsTo 124 = .ok (.iload_n 2, 1) := by decide +kernel
theorem dX7_fitsTo_125 : decode cX7_fitsTo 125 = .ok (.ireturn, 1) := by decide +kernel
set_option maxRecDepth 20000 in
theorem ggX7_fits_X7_in : GoodIn wsX7_fits wsX7_in := goodIn_r _ [6] (by decide +kernel) (by decide +kernel)
set_option maxRecDepth 20000 in
theorem gX7_fits_X7_in : GoodIn wsX7_fits (va_wsS RX7 110 yX7_in wsX7_in) := goodIn_app (goodIn_of _ (by decide +kernel)) ggX7_fits_X7_in
set_option maxRecDepth 20000 in
theorem ggX7_fits_X7_fitsTo : GoodIn wsX7_fits wsX7_fitsTo := goodIn_r _ [10, 11, 12, 13, 14, 15, 16, 5, 17, 2, 18, 19, 20, 21, 22, 23, 24, 25, 26, 27, 28, 29, 30, 31, 32, 33, 34, 35, 36, 37, 38, 39, 40, 41, 42, 43, 44, 45, 46, 47, 48, 49, 50, 51, 52, 53, 54, 55, 56, 57, 58, 59, 60, 61, 62, 63, 64, 65, 66, 67, 68, 69, 70, 71, 72, 73, 74, 75, 76, 77, 78, 79, 80, 81, 82, 83, 84, 85, 86, 87, 88, 89, 90, 91, 92, 93, 94, 95, 96, 97, 98, 99] (by decide +kernel) (by decide +kernel)
set_option maxRecDepth 20000 in
theorem gX7_fits_X7_fitsTo : GoodIn wsX7_fits (wsV RX7 273 RX7 yX7_fitsTo wsX7_fitsTo) := goodIn_app (goodIn_of _ (by decide +kernel)) ggX7_fits_X7_fitsTo
theorem dX7_fits_0 : decode cX7_fits 0 = .ok (.iload_n 1, 1) := by decide +kernel
theorem dX7_fits_1 : decode cX7_fits 1 = .ok (.i2l, 1) := by decide +kernel
theorem dX7_fits_2 : decode cX7_fits 2 = .ok (.lconst 0, 1) := by decide +kernel
theorem dX7_fits_3 : decode cX7_fits 3 = .ok (.ldc2_w 173, 3) := by decide +kernel
theorem dX7_fits_6 : decode cX7_fits 6 = .ok (.invokestatic 110, 3) := by decide +kernel
theorem dX7_fits_9 : decode cX7_fits 9 = .ok (.ifCond .ne 5, 3) := by decide +kernel
theorem dX7_fits_12 : decode cX7_fits 12 = .ok (.iconst (-1), 1) := by decide +kernel
theorem dX7_fits_13 : decode cX7_fits 13 = .ok (.ireturn, 1) := by decide +kernel
theorem dX7_fits_14 : decode cX7_fits 14 = .ok (.iconst 1, 1) := by decide +kernel
theorem dX7_fits_15 : decode cX7_fits 15 = .ok (.aload_n 0, 1) := by decide +kernel
theorem dX7_fits_16 : decode cX7_fits 16 = .ok (.getfield 102, 3) := by decide +kernel
theorem dX7_fits_19 : decode cX7_fits 19 = .ok (.ishl, 1) := by decide +kernel
theorem dX7_fits_20 : decode cX7_fits 20 = .ok (.iconst 1, 1) := by decide +kernel
theorem dX7_fits_21 : decode cX7_fits 21 = .ok (.isub, 1) := by decide +kernel
theorem dX7_fits_22 : decode cX7_fits 22 = .ok (.istore_n 2, 1) := by decide +kernel
theorem dX7_fits_23 : decode cX7_fits 23 = .ok (.iconst 0, 1) := by decide +kernel
theorem dX7_fits_24 : decode cX7_fits 24 = .ok (.istore_n 3, 1) := by decide +kernel
theorem dX7_fits_25 : decode cX7_fits 25 = .ok (.bipush (-4), 2) := by decide +kernel
theorem dX7_fits_27 : decode cX7_fits 27 = .ok (.istore 4, 2) := by decide +kernel
theorem dX7_fits_29 : decode cX7_fits 29 = .ok (.iload_n 2, 1) := by decide +kernel
theorem dX7_fits_30 : decode cX7_fits 30 = .ok (.istore 5, 2) := by decide +kernel
theorem dX7_fits_32 : decode cX7_fits 32 = .ok (.iconst 0, 1) := by decide +kernel
theorem dX7_fits_33 : decode cX7_fits 33 = .ok (.istore 6, 2) := by decide +kernel
theorem dX7_fits_35 : decode cX7_fits 35 = .ok (.iconst 0, 1) := by decide +kernel
theorem dX7_fits_36 : decode cX7_fits 36 = .ok (.istore 7, 2) := by decide +kernel
theorem dX7_fits_38 : decode cX7_fits 38 = .ok (.iload 7, 2) := by decide +kernel
theorem dX7_fits_40 : decode cX7_fits 40 = .ok (.iload_n 2, 1) := by decide +kernel
theorem dX7_fits_41 : decode cX7_fits 41 = .ok (.if_icmp .gt 48, 3) := by decide +kernel
theorem dX7_fits_44 : decode cX7_fits 44 = .ok (.aload_n 0, 1) := by decide +kernel
theorem dX7_fits_45 : decode cX7_fits 45 = .ok (.iload 7, 2) := by decide +kernel
theorem dX7_fits_47 : decode cX7_fits 47 = .ok (.invokevirtual 273, 3) := by decide +kernel
theorem dX7_fits_50 : decode cX7_fits 50 = .ok (.ifCond .eq 33, 3) := by decide +kernel
theorem dX7_fits_53 : decode cX7_fits 53 = .ok (.iload_n 3, 1) := by decide +kernel
theorem dX7_fits_54 : decode cX7_fits 54 = .ok (.ifCond .ne 8, 3) := by decide +kernel
theorem dX7_fits_57 : decode cX7_fits 57 = .ok (.iload 7, 2) := by decide +kernel
theorem dX7_fits_59 : decode cX7_fits 59 = .ok (.goto 5, 3) := by decide +kernel
theorem dX7_fits_62 : decode cX7_fits 62 = .ok (.iload 4, 2) := by decide +kernel
theorem dX7_fits_64 : decode cX7_fits 64 = .ok (.istore 4, 2) := by decide +kernel
theorem dX7_fits_66 : decode cX7_fits 66 = .ok (.iload 5, 2) := by decide +kernel
theorem dX7_fits_68 : decode cX7_fits 68 = .ok (.iload 7, 2) := by decide +kernel
theorem dX7_fits_70 : decode cX7_fits 70 = .ok (.iand, 1) := by decide +kernel
theorem dX7_fits_71 : decode cX7_fits 71 = .ok (.istore 5, 2) := by decide +kernel
theorem dX7_fits_73 : decode cX7_fits 73 = .ok (.iload 6, 2) := by decide +kernel
theorem dX7_fits_75 : decode cX7_fits 75 = .ok (.iload 7, 2) := by decide +kernel
theorem dX7_fits_77 : decode cX7_fits 77 = .ok (.ior, 1) := by decide +kernel
theorem dX7_fits_78 : decode cX7_fits 78 = .ok (.istore 6, 2) := by decide +kernel
theorem dX7_fits_80 : decode cX7_fits 80 = .ok (.iinc 3 1, 3) := by decide +kernel
theorem dX7_fits_83 : decode cX7_fits 83 = .ok (.iinc 7 1, 3) := by decide +kernel
theorem dX7_fits_86 : decode cX7_fits 86 = .ok (.goto (-48), 3) := by decide +kernel
theorem dX7_fits_89 : decode cX7_fits 89 = .ok (.iload_n 1, 1) := by decide +kernel
theorem dX7_fits_90 : decode cX7_fits 90 = .ok (.ifCond .eq 7, 3) := by decide +kernel
theorem dX7_fits_93 : decode cX7_fits 93 = .ok (.iload_n 3, 1) := by decide +kernel
theorem dX7_fits_94 : decode cX7_fits 94 = .ok (.ifCond .ne 14, 3) := by decide +kernel
theorem dX7_fits_97 : decode cX7_fits 97 = .ok (.iload_n 1, 1) := by decide +kernel
theorem dX7_fits_98 : decode cX7_fits 98 = .ok (.ifCond .ne 7, 3) := by decide +kernel
theorem dX7_fits_101 : decode cX7_fits 101 = .ok (.iload_n 3, 1) := by decide +kernel
theorem dX7_fits_102 : decode cX7_fits 102 = .ok (.goto 5, 3) := by decide +kernel
theorem dX7_fits_105 : decode cX7_fits 105 = .ok (.bipush (-4), 2) := by decide +kernel
theorem dX7_fits_107 : decode cX7_fits 107 = .ok (.ireturn, 1) := by decide +kernel
theorem dX7_fits_108 : decode cX7_fits 108 = .ok (.iload_n 1, 1) := by decide +kernel
theorem dX7_fits_109 : decode cX7_fits 109 = .ok (.iconst 1, 1) := by decide +kernel
theorem dX7_fits_110 : decode cX7_fits 110 = .ok (.if_icmp .ne 8, 3) := by decide +kernel
theorem dX7_fits_113 : decode cX7_fits 113 = .ok (.iload 4, 2) := by decide +kernel
theorem dX7_fits_115 : decode cX7_fits 115 = .ok (.goto 19, 3) := by decide +kernel
theorem dX7_fits_118 : decode cX7_fits 118 = .ok (.iload_n 1, 1) := by decide +kernel
theorem dX7_fits_119 : decode cX7_fits 119 = .ok (.iconst 2, 1) := by decide +kernel
theorem dX7_fits_120 : decode cX7_fits 120 = .ok (.if_icmp .ne 8, 3) := by decide +kernel
theorem dX7_fits_123 : decode cX7_fits 123 = .ok (.iload 5, 2) := by decide +kernel
theorem dX7_fits_125 : decode cX7_fits 125 = .ok (.goto 9, 3) := by decide +kernel
theorem dX7_fits_128 : decode cX7_fits 128 = .ok (.iload_n 2, 1) := by decide +kernel
theorem dX7_fits_129 : decode cX7_fits 129 = .ok (.iload 6, 2) := by decide +kernel
theorem dX7_fits_131 : decode cX7_fits 131 = .ok (.iconst (-1), 1) := by decide +kernel
theorem dX7_fits_132 : decode cX7_fits 132 = .ok (.ixor, 1) := by decide +kernel
theorem dX7_fits_133 : decode cX7_fits 133 = .ok (.iand, 1) := by decide +kernel
theorem dX7_fits_134 : decode cX7_fits 134 = .ok (.ireturn, 1) := by decide +kernel
