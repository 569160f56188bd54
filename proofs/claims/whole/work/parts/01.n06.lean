set_option maxRecDepth 20000 in
theorem ggX6_save_X6_keepsThePast : GoodIn wsX6_save wsX6_keepsThePast := goodIn_r _ [19, 3, 20, 14, 15, 21, 22, 105, 106, 107, 108, 109, 110, 111, 112, 113, 114, 115, 116, 117, 118, 119, 120, 121, 122, 123, 124, 125, 126, 127, 128, 129, 130, 131, 132] (by decide +kernel) (by decide +kernel)
set_option maxRecDepth 20000 in
theorem gX6_save_X6_keepsThePast : GoodIn wsX6_save (wsV RX6 181 RX6 yX6_keepsThePast wsX6_keepsThePast) := goodIn_app (goodIn_of _ (by decide +kernel)) ggX6_save_X6_keepsThePast
set_option maxRecDepth 20000 in
theorem ggX6_save_X6_isSmaller : GoodIn wsX6_save wsX6_isSmaller := goodIn_r _ [25, 26, 27, 28, 29, 30, 31, 32] (by decide +kernel) (by decide +kernel)
set_option maxRecDepth 20000 in
theorem gX6_save_X6_isSmaller : GoodIn wsX6_save (va_wsS RX6 187 yX6_isSmaller wsX6_isSmaller) := goodIn_app (goodIn_of _ (by decide +kernel)) ggX6_save_X6_isSmaller
set_option maxRecDepth 20000 in
theorem ggX6_save_X6_timesByPlan : GoodIn wsX6_save wsX6_timesByPlan := goodIn_r _ [36, 1, 3, 20, 14, 37, 38, 39, 40, 41, 42, 43, 44, 45, 46, 47, 48, 49, 50, 51, 52, 53, 54, 55, 56, 57, 58, 59, 60, 61, 62, 63, 64, 65, 66, 67, 68, 69, 70, 71, 72, 73, 74, 75, 76, 77, 78, 79, 80, 81, 82, 83, 84, 85, 86, 87, 88, 89, 90, 91, 92, 93, 94, 95, 96, 97, 98, 99, 100, 101, 102, 103, 104, 105, 106, 107, 108, 109, 110, 111, 112, 113, 114, 115, 116, 117, 118, 119, 120, 121, 122, 123, 124, 125, 126, 127, 128, 129, 130, 131, 132] (by decide +kernel) (by decide +kernel)
set_option maxRecDepth 20000 in
theorem gX6_save_X6_timesByPlan : GoodIn wsX6_save (wsV RX6 184 RX6 yX6_timesByPlan wsX6_timesByPlan) := goodIn_app (goodIn_of _ (by decide +kernel)) ggX6_save_X6_timesByPlan
theorem dX6_save_0 : decode cX6_save 0 = .ok (.aload_n 0, 1) := by decide +kernel
theorem dX6_save_1 : decode cX6_save 1 = .ok (.iload_n 1, 1) := by decide +kernel
theorem dX6_save_2 : decode cX6_save 2 = .ok (.invokevirtual 114, 3) := by decide +kernel
theorem dX6_save_5 : decode cX6_save 5 = .ok (.ifCond .ne 5, 3) := by decide +kernel
theorem dX6_save_8 : decode cX6_save 8 = .ok (.iconst (-1), 1) := by decide +kernel
theorem dX6_save_9 : decode cX6_save 9 = .ok (.ireturn, 1) := by decide +kernel
theorem dX6_save_10 : decode cX6_save 10 = .ok (.bipush (-4), 2) := by decide +kernel
theorem dX6_save_12 : decode cX6_save 12 = .ok (.istore_n 2, 1) := by decide +kernel
theorem dX6_save_13 : decode cX6_save 13 = .ok (.iconst 0, 1) := by decide +kernel
theorem dX6_save_14 : decode cX6_save 14 = .ok (.istore_n 3, 1) := by decide +kernel
theorem dX6_save_15 : decode cX6_save 15 = .ok (.iload_n 3, 1) := by decide +kernel
theorem dX6_save_16 : decode cX6_save 16 = .ok (.aload_n 0, 1) := by decide +kernel
theorem dX6_save_17 : decode cX6_save 17 = .ok (.invokevirtual 178, 3) := by decide +kernel
theorem dX6_save_20 : decode cX6_save 20 = .ok (.if_icmp .gt 64, 3) := by decide +kernel
theorem dX6_save_23 : decode cX6_save 23 = .ok (.aload_n 0, 1) := by decide +kernel
theorem dX6_save_24 : decode cX6_save 24 = .ok (.iload_n 3, 1) := by decide +kernel
theorem dX6_save_25 : decode cX6_save 25 = .ok (.invokevirtual 181, 3) := by decide +kernel
theorem dX6_save_28 : decode cX6_save 28 = .ok (.ifCond .eq 50, 3) := by decide +kernel
theorem dX6_save_31 : decode cX6_save 31 = .ok (.iload_n 2, 1) := by decide +kernel
theorem dX6_save_32 : decode cX6_save 32 = .ok (.bipush (-4), 2) := by decide +kernel
theorem dX6_save_34 : decode cX6_save 34 = .ok (.if_icmp .eq 11, 3) := by decide +kernel
theorem dX6_save_37 : decode cX6_save 37 = .ok (.iload_n 3, 1) := by decide +kernel
theorem dX6_save_38 : decode cX6_save 38 = .ok (.iload_n 2, 1) := by decide +kernel
theorem dX6_save_39 : decode cX6_save 39 = .ok (.invokestatic 187, 3) := by decide +kernel
theorem dX6_save_42 : decode cX6_save 42 = .ok (.ifCond .eq 36, 3) := by decide +kernel
theorem dX6_save_45 : decode cX6_save 45 = .ok (.aload_n 0, 1) := by decide +kernel
theorem dX6_save_46 : decode cX6_save 46 = .ok (.iload_n 3, 1) := by decide +kernel
theorem dX6_save_47 : decode cX6_save 47 = .ok (.invokevirtual 184, 3) := by decide +kernel
theorem dX6_save_50 : decode cX6_save 50 = .ok (.pop, 1) := by decide +kernel
theorem dX6_save_51 : decode cX6_save 51 = .ok (.aload_n 0, 1) := by decide +kernel
theorem dX6_save_52 : decode cX6_save 52 = .ok (.getfield 37, 3) := by decide +kernel
theorem dX6_save_55 : decode cX6_save 55 = .ok (.getfield 127, 3) := by decide +kernel
theorem dX6_save_58 : decode cX6_save 58 = .ok (.iload_n 1, 1) := by decide +kernel
theorem dX6_save_59 : decode cX6_save 59 = .ok (.iaload, 1) := by decide +kernel
theorem dX6_save_60 : decode cX6_save 60 = .ok (.aload_n 0, 1) := by decide +kernel
theorem dX6_save_61 : decode cX6_save 61 = .ok (.getfield 26, 3) := by decide +kernel
theorem dX6_save_64 : decode cX6_save 64 = .ok (.getfield 127, 3) := by decide +kernel
theorem dX6_save_67 : decode cX6_save 67 = .ok (.iload_n 1, 1) := by decide +kernel
theorem dX6_save_68 : decode cX6_save 68 = .ok (.iaload, 1) := by decide +kernel
theorem dX6_save_69 : decode cX6_save 69 = .ok (.if_icmp .ne 7, 3) := by decide +kernel
theorem dX6_save_72 : decode cX6_save 72 = .ok (.iload_n 3, 1) := by decide +kernel
theorem dX6_save_73 : decode cX6_save 73 = .ok (.goto 4, 3) := by decide +kernel
theorem dX6_save_76 : decode cX6_save 76 = .ok (.iload_n 2, 1) := by decide +kernel
theorem dX6_save_77 : decode cX6_save 77 = .ok (.istore_n 2, 1) := by decide +kernel
theorem dX6_save_78 : decode cX6_save 78 = .ok (.iinc 3 1, 3) := by decide +kernel
theorem dX6_save_81 : decode cX6_save 81 = .ok (.goto (-66), 3) := by decide +kernel
theorem dX6_save_84 : decode cX6_save 84 = .ok (.iload_n 2, 1) := by decide +kernel
theorem dX6_save_85 : decode cX6_save 85 = .ok (.ireturn, 1) := by decide +kernel
set_option maxRecDepth 20000 in
theorem ggX6_run_X6_isWithin : GoodIn wsX6_run wsX6_isWithin := goodIn_r _ [7] (by decide +kernel) (by decide +kernel)
set_option maxRecDepth 20000 in
theorem gX6_run_X6_isWithin : GoodIn wsX6_run (va_wsS RX6 58 yX6_isWithin wsX6_isWithin) := goodIn_app (goodIn_of _ (by decide +kernel)) ggX6_run_X6_isWithin
set_option maxRecDepth 20000 in
theorem ggX6_run_X1_copyFrom : GoodIn wsX6_run wsX1_copyFrom := goodIn_r _ [12, 13, 14, 15, 16, 17, 18, 19, 20, 21, 22, 23, 24, 25, 26, 27, 57, 58, 59, 60, 61, 62, 63, 64, 65, 66, 67] (by decide +kernel) (by decide +kernel)
set_option maxRecDepth 20000 in
theorem gX6_run_X1_copyFrom : GoodIn wsX6_run (wsV RX6 83 RX1 yX1_copyFrom wsX1_copyFrom) := goodIn_app (goodIn_of _ (by decide +kernel)) ggX6_run_X1_copyFrom
set_option maxRecDepth 20000 in
theorem ggX6_run_X1_runToCounter : GoodIn wsX6_run wsX1_runToCounter := goodIn_r _ [31, 13, 20, 25, 32, 33, 34, 11, 35, 19, 36, 37, 38, 39, 57, 58, 59, 60, 61, 62, 63, 64, 65, 66, 67] (by decide +kernel) (by decide +kernel)
set_option maxRecDepth 20000 in
theorem gX6_run_X1_runToCounter : GoodIn wsX6_run (wsV RX6 190 RX1 yX1_runToCounter wsX1_runToCounter) := goodIn_app (goodIn_of _ (by decide +kernel)) ggX6_run_X1_runToCounter
set_option maxRecDepth 20000 in
theorem ggX6_run_X1_sumAtBank : GoodIn wsX6_run wsX1_sumAtBank := goodIn_r _ [43, 13, 20, 57, 58, 59, 60, 61, 62, 63, 64, 65, 66, 67] (by decide +kernel) (by decide +kernel)
set_option maxRecDepth 20000 in
theorem gX6_run_X1_sumAtBank : GoodIn wsX6_run (wsV RX6 193 RX1 yX1_sumAtBank wsX1_sumAtBank) := goodIn_app (goodIn_of _ (by decide +kernel)) ggX6_run_X1_sumAtBank
set_option maxRecDepth 20000 in
theorem ggX6_run_X1_whoHasNothingThere : GoodIn wsX6_run wsX1_whoHasNothingThere := goodIn_r _ [47, 13, 20, 57, 58, 59, 60, 61, 62, 63, 64, 65, 66, 67] (by decide +kernel) (by decide +kernel)
set_option maxRecDepth 20000 in
theorem gX6_run_X1_whoHasNothingThere : GoodIn wsX6_run (wsV RX6 196 RX1 yX1_whoHasNothingThere wsX1_whoHasNothingThere) := goodIn_app (goodIn_of _ (by decide +kernel)) ggX6_run_X1_whoHasNothingThere
theorem dX6_run_0 : decode cX6_run 0 = .ok (.iload_n 1, 1) := by decide +kernel
theorem dX6_run_1 : decode cX6_run 1 = .ok (.iconst 2, 1) := by decide +kernel
theorem dX6_run_2 : decode cX6_run 2 = .ok (.invokestatic 58, 3) := by decide +kernel
theorem dX6_run_5 : decode cX6_run 5 = .ok (.ifCond .ne 5, 3) := by decide +kernel
theorem dX6_run_8 : decode cX6_run 8 = .ok (.iconst (-1), 1) := by decide +kernel
theorem dX6_run_9 : decode cX6_run 9 = .ok (.ireturn, 1) := by decide +kernel
theorem dX6_run_10 : decode cX6_run 10 = .ok (.aload_n 0, 1) := by decide +kernel
theorem dX6_run_11 : decode cX6_run 11 = .ok (.getfield 37, 3) := by decide +kernel
theorem dX6_run_14 : decode cX6_run 14 = .ok (.aload_n 0, 1) := by decide +kernel
theorem dX6_run_15 : decode cX6_run 15 = .ok (.getfield 26, 3) := by decide +kernel
theorem dX6_run_18 : decode cX6_run 18 = .ok (.invokevirtual 83, 3) := by decide +kernel
theorem dX6_run_21 : decode cX6_run 21 = .ok (.aload_n 0, 1) := by decide +kernel
theorem dX6_run_22 : decode cX6_run 22 = .ok (.getfield 37, 3) := by decide +kernel
theorem dX6_run_25 : decode cX6_run 25 = .ok (.invokevirtual 190, 3) := by decide +kernel
theorem dX6_run_28 : decode cX6_run 28 = .ok (.iload_n 1, 1) := by decide +kernel
theorem dX6_run_29 : decode cX6_run 29 = .ok (.lookupswitch 43 #[(0, 27), (1, 35)], 27) := by decide +kernel
theorem dX6_run_56 : decode cX6_run 56 = .ok (.aload_n 0, 1) := by decide +kernel
theorem dX6_run_57 : decode cX6_run 57 = .ok (.getfield 37, 3) := by decide +kernel
theorem dX6_run_60 : decode cX6_run 60 = .ok (.invokevirtual 193, 3) := by decide +kernel
theorem dX6_run_63 : decode cX6_run 63 = .ok (.ireturn, 1) := by decide +kernel
theorem dX6_run_64 : decode cX6_run 64 = .ok (.aload_n 0, 1) := by decide +kernel
theorem dX6_run_65 : decode cX6_run 65 = .ok (.getfield 37, 3) := by decide +kernel
theorem dX6_run_68 : decode cX6_run 68 = .ok (.getfield 105, 3) := by decide +kernel
theorem dX6_run_71 : decode cX6_run 71 = .ok (.ireturn, 1) := by decide +kernel
theorem dX6_run_72 : decode cX6_run 72 = .ok (.aload_n 0, 1) := by decide +kernel
theorem dX6_run_73 : decode cX6_run 73 = .ok (.getfield 37, 3) := by decide +kernel
theorem dX6_run_76 : decode cX6_run 76 = .ok (.invokevirtual 196, 3) := by decide +kernel
theorem dX6_run_79 : decode cX6_run 79 = .ok (.ireturn, 1) := by decide +kernel
set_option maxRecDepth 20000 in
theorem ggX6_holds_X1_copyFrom : GoodIn wsX6_holds wsX1_copyFrom := goodIn_r _ [8, 9, 10, 11, 12, 13, 14, 15, 16, 17, 18, 19, 20, 21, 22, 23, 49, 50, 51, 52, 53, 54, 55, 56, 57, 58, 59] (by decide +kernel) (by decide +kernel)
set_option maxRecDepth 20000 in
theorem gX6_holds_X1_copyFrom : GoodIn wsX6_holds (wsV RX6 83 RX1 yX1_copyFrom wsX1_copyFrom) := goodIn_app (goodIn_of _ (by decide +kernel)) ggX6_holds_X1_copyFrom
set_option maxRecDepth 20000 in
theorem ggX6_holds_X1_runToCounter : GoodIn wsX6_holds wsX1_runToCounter := goodIn_r _ [27, 9, 16, 21, 28, 29, 30, 7, 31, 15, 32, 33, 34, 35, 49, 50, 51, 52, 53, 54, 55, 56, 57, 58, 59] (by decide +kernel) (by decide +kernel)
set_option maxRecDepth 20000 in
theorem gX6_holds_X1_runToCounter : GoodIn wsX6_holds (wsV RX6 190 RX1 yX1_runToCounter wsX1_runToCounter) := goodIn_app (goodIn_of _ (by decide +kernel)) ggX6_holds_X1_runToCounter
set_option maxRecDepth 20000 in
theorem ggX6_holds_X1_sumAtBank : GoodIn wsX6_holds wsX1_sumAtBank := goodIn_r _ [39, 9, 16, 49, 50, 51, 52, 53, 54, 55, 56, 57, 58, 59] (by decide +kernel) (by decide +kernel)
set_option maxRecDepth 20000 in
theorem gX6_holds_X1_sumAtBank : GoodIn wsX6_holds (wsV RX6 193 RX1 yX1_sumAtBank wsX1_sumAtBank) := goodIn_app (goodIn_of _ (by decide +kernel)) ggX6_holds_X1_sumAtBank
theorem dX6_holds_0 : decode cX6_holds 0 = .ok (.iconst 0, 1) := by decide +kernel
theorem dX6_holds_1 : decode cX6_holds 1 = .ok (.istore_n 1, 1) := by decide +kernel
theorem dX6_holds_2 : decode cX6_holds 2 = .ok (.iload_n 1, 1) := by decide +kernel
theorem dX6_holds_3 : decode cX6_holds 3 = .ok (.bipush 99, 2) := by decide +kernel
theorem dX6_holds_5 : decode cX6_holds 5 = .ok (.if_icmp .gt 47, 3) := by decide +kernel
theorem dX6_holds_8 : decode cX6_holds 8 = .ok (.aload_n 0, 1) := by decide +kernel
theorem dX6_holds_9 : decode cX6_holds 9 = .ok (.getfield 37, 3) := by decide +kernel
theorem dX6_holds_12 : decode cX6_holds 12 = .ok (.aload_n 0, 1) := by decide +kernel
theorem dX6_holds_13 : decode cX6_holds 13 = .ok (.getfield 26, 3) := by decide +kernel
theorem dX6_holds_16 : decode cX6_holds 16 = .ok (.invokevirtual 83, 3) := by decide +kernel
theorem dX6_holds_19 : decode cX6_holds 19 = .ok (.aload_n 0, 1) := by decide +kernel
theorem dX6_holds_20 : decode cX6_holds 20 = .ok (.getfield 37, 3) := by decide +kernel
theorem dX6_holds_23 : decode cX6_holds 23 = .ok (.iload_n 1, 1) := by decide +kernel
theorem dX6_holds_24 : decode cX6_holds 24 = .ok (.putfield 105, 3) := by decide +kernel
theorem dX6_holds_27 : decode cX6_holds 27 = .ok (.aload_n 0, 1) := by decide +kernel
theorem dX6_holds_28 : decode cX6_holds 28 = .ok (.getfield 37, 3) := by decide +kernel
theorem dX6_holds_31 : decode cX6_holds 31 = .ok (.invokevirtual 190, 3) := by decide +kernel
theorem dX6_holds_34 : decode cX6_holds 34 = .ok (.aload_n 0, 1) := by decide +kernel
theorem dX6_holds_35 : decode cX6_holds 35 = .ok (.getfield 37, 3) := by decide +kernel
theorem dX6_holds_38 : decode cX6_holds 38 = .ok (.invokevirtual 193, 3) := by decide +kernel
theorem dX6_holds_41 : decode cX6_holds 41 = .ok (.ifCond .ne 5, 3) := by decide +kernel
theorem dX6_holds_44 : decode cX6_holds 44 = .ok (.iload_n 1, 1) := by decide +kernel
theorem dX6_holds_45 : decode cX6_holds 45 = .ok (.ireturn, 1) := by decide +kernel
theorem dX6_holds_46 : decode cX6_holds 46 = .ok (.iinc 1 1, 3) := by decide +kernel
theorem dX6_holds_49 : decode cX6_holds 49 = .ok (.goto (-47), 3) := by decide +kernel
theorem dX6_holds_52 : decode cX6_holds 52 = .ok (.bipush (-4), 2) := by decide +kernel
theorem dX6_holds_54 : decode cX6_holds 54 = .ok (.ireturn, 1) := by decide +kernel
set_option maxRecDepth 20000 in
theorem ggX6_cover_X6_isWithin : GoodIn wsX6_cover wsX6_isWithin := goodIn_r _ [7] (by decide +kernel) (by decide +kernel)
set_option maxRecDepth 20000 in
theorem gX6_cover_X6_isWithin : GoodIn wsX6_cover (va_wsS RX6 58 yX6_isWithin wsX6_isWithin) := goodIn_app (goodIn_of _ (by decide +kernel)) ggX6_cover_X6_isWithin
set_option maxRecDepth 20000 in
theorem ggX6_cover_X1_copyFrom : GoodIn wsX6_cover wsX1_copyFrom := goodIn_r _ [12, 13, 14, 15, 16, 17, 18, 19, 20, 21, 22, 23, 24, 25, 26, 27, 88, 89, 90, 91, 92, 93, 94, 95, 96, 97, 98] (by decide +kernel) (by decide +kernel)
set_option maxRecDepth 20000 in
theorem gX6_cover_X1_copyFrom : GoodIn wsX6_cover (wsV RX6 83 RX1 yX1_copyFrom wsX1_copyFrom) := goodIn_app (goodIn_of _ (by decide +kernel)) ggX6_cover_X1_copyFrom
set_option maxRecDepth 20000 in
theorem ggX6_cover_X6_staysModest : GoodIn wsX6_cover wsX6_staysModest := goodIn_r _ [31, 1, 32, 33, 34, 35, 36, 37, 38, 39, 40, 11, 41, 27, 42, 43, 26, 44, 45, 46, 47, 48, 49, 50, 51, 52, 53, 54, 55, 56, 57, 22, 14, 58, 59, 60, 61, 23, 62, 63, 64, 65, 20, 66, 67, 68, 69, 70, 19, 71, 72, 73, 74, 25, 21, 75, 76, 77, 78, 13, 24, 79, 80, 81, 82, 83, 84, 85, 86, 87, 88, 89, 90, 91, 92, 93, 94, 95, 96, 97, 98, 99, 100, 101, 102, 103, 104, 105, 106] (by decide +kernel) (by decide +kernel)
set_option maxRecDepth 20000 in
theorem gX6_cover_X6_staysModest : GoodIn wsX6_cover (wsV RX6 199 RX6 yX6_staysModest wsX6_staysModest) := goodIn_app (goodIn_of _ (by decide +kernel)) ggX6_cover_X6_staysModest
theorem dX6_cover_0 : decode cX6_cover 0 = .ok (.iload_n 1, 1) := by decide +kernel
theorem dX6_cover_1 : decode cX6_cover 1 = .ok (.bipush 20, 2) := by decide +kernel
theorem dX6_cover_3 : decode cX6_cover 3 = .ok (.invokestatic 58, 3) := by decide +kernel
theorem dX6_cover_6 : decode cX6_cover 6 = .ok (.ifCond .ne 5, 3) := by decide +kernel
theorem dX6_cover_9 : decode cX6_cover 9 = .ok (.iconst (-1), 1) := by decide +kernel
theorem dX6_cover_10 : decode cX6_cover 10 = .ok (.ireturn, 1) := by decide +kernel
theorem dX6_cover_11 : decode cX6_cover 11 = .ok (.iconst 0, 1) := by decide +kernel
theorem dX6_cover_12 : decode cX6_cover 12 = .ok (.istore_n 2, 1) := by decide +kernel
theorem dX6_cover_13 : decode cX6_cover 13 = .ok (.iload_n 2, 1) := by decide +kernel
theorem dX6_cover_14 : decode cX6_cover 14 = .ok (.bipush 99, 2) := by decide +kernel
theorem dX6_cover_16 : decode cX6_cover 16 = .ok (.if_icmp .gt 38, 3) := by decide +kernel
theorem dX6_cover_19 : decode cX6_cover 19 = .ok (.aload_n 0, 1) := by decide +kernel
theorem dX6_cover_20 : decode cX6_cover 20 = .ok (.getfield 37, 3) := by decide +kernel
theorem dX6_cover_23 : decode cX6_cover 23 = .ok (.aload_n 0, 1) := by decide +kernel
theorem dX6_cover_24 : decode cX6_cover 24 = .ok (.getfield 26, 3) := by decide +kernel
theorem dX6_cover_27 : decode cX6_cover 27 = .ok (.invokevirtual 83, 3) := by decide +kernel
theorem dX6_cover_30 : decode cX6_cover 30 = .ok (.aload_n 0, 1) := by decide +kernel
theorem dX6_cover_31 : decode cX6_cover 31 = .ok (.getfield 37, 3) := by decide +kernel
theorem dX6_cover_34 : decode cX6_cover 34 = .ok (.iload_n 2, 1) := by decide +kernel
theorem dX6_cover_35 : decode cX6_cover 35 = .ok (.putfield 105, 3) := by decide +kernel
theorem dX6_cover_38 : decode cX6_cover 38 = .ok (.aload_n 0, 1) := by decide +kernel
theorem dX6_cover_39 : decode cX6_cover 39 = .ok (.iload_n 1, 1) := by decide +kernel
theorem dX6_cover_40 : decode cX6_cover 40 = .ok (.invokevirtual 199, 3) := by decide +kernel
theorem dX6_cover_43 : decode cX6_cover 43 = .ok (.ifCond .eq 5, 3) := by decide +kernel
theorem dX6_cover_46 : decode cX6_cover 46 = .ok (.iload_n 2, 1) := by decide +kernel
theorem dX6_cover_47 : decode cX6_cover 47 = .ok (.ireturn, 1) := by decide +kernel
theorem dX6_cover_48 : decode cX6_cover 48 = .ok (.iinc 2 1, 3) := by decide +kernel
theorem dX6_cover_51 : decode cX6_cover 51 = .ok (.goto (-38), 3) := by decide +kernel
theorem dX6_cover_54 : decode cX6_cover 54 = .ok (.bipush (-4), 2) := by decide +kernel
theorem dX6_cover_56 : decode cX6_cover 56 = .ok (.ireturn, 1) := by decide +kernel
set_option maxRecDepth 20000 in
theorem ggX6_rate_X6_isWithin : GoodIn wsX6_rate wsX6_isWithin := goodIn_r _ [7] (by decide +kernel) (by decide +kernel)
set_option maxRecDepth 20000 in
theorem gX6_rate_X6_isWithin : GoodIn wsX6_rate (va_wsS RX6 58 yX6_isWithin wsX6_isWithin) := goodIn_app (goodIn_of _ (by decide +kernel)) ggX6_rate_X6_isWithin
set_option maxRecDepth 20000 in
theorem ggX6_rate_X1_copyFrom : GoodIn wsX6_rate wsX1_copyFrom := goodIn_r _ [12, 13, 14, 15, 16, 17, 18, 19, 20, 21, 22, 23, 24, 25, 26, 27, 88, 89, 90, 91, 92, 93, 94, 95, 96, 97, 98] (by decide +kernel) (by decide +kernel)
set_option maxRecDepth 20000 in
theorem gX6_rate_X1_copyFrom : GoodIn wsX6_rate (wsV RX6 83 RX1 yX1_copyFrom wsX1_copyFrom) := goodIn_app (goodIn_of _ (by decide +kernel)) ggX6_rate_X1_copyFrom
set_option maxRecDepth 20000 in
theorem ggX6_rate_X6_staysModest : GoodIn wsX6_rate wsX6_staysModest := goodIn_r _ [31, 1, 32, 33, 34, 35, 36, 37, 38, 39, 40, 11, 41, 27, 42, 43, 26, 44, 45, 46, 47, 48, 49, 50, 51, 52, 53, 54, 55, 56, 57, 22, 14, 58, 59, 60, 61, 23, 62, 63, 64, 65, 20, 66, 67, 68, 69, 70, 19, 71, 72, 73, 74, 25, 21, 75, 76, 77, 78, 13, 24, 79, 80, 81, 82, 83, 84, 85, 86, 87, 88, 89, 90, 91, 92, 93, 94, 95, 96, 97, 98, 99, 100, 101, 102, 103, 104, 105, 106] (by decide +kernel) (by decide +kernel)
set_option maxRecDepth 20000 in
theorem gX6_rate_X6_staysModest : GoodIn wsX6_rate (wsV RX6 199 RX6 yX6_staysModest wsX6_staysModest) := goodIn_app (goodIn_of _ (by decide +kernel)) ggX6_rate_X6_staysModest
theorem dX6_rate_0 : decode cX6_rate 0 = .ok (.iload_n 1, 1) := by decide +kernel
theorem dX6_rate_1 : decode cX6_rate 1 = .ok (.bipush 20, 2) := by decide +kernel
theorem dX6_rate_3 : decode cX6_rate 3 = .ok (.invokestatic 58, 3) := by decide +kernel
theorem dX6_rate_6 : decode cX6_rate 6 = .ok (.ifCond .ne 5, 3) := by decide +kernel
theorem dX6_rate_9 : decode cX6_rate 9 = .ok (.iconst (-1), 1) := by decide +kernel
theorem dX6_rate_10 : decode cX6_rate 10 = .ok (.ireturn, 1) := by decide +kernel
theorem dX6_rate_11 : decode cX6_rate 11 = .ok (.iconst 0, 1) := by decide +kernel
theorem dX6_rate_12 : decode cX6_rate 12 = .ok (.istore_n 2, 1) := by decide +kernel
theorem dX6_rate_13 : decode cX6_rate 13 = .ok (.iload_n 2, 1) := by decide +kernel
theorem dX6_rate_14 : decode cX6_rate 14 = .ok (.bipush 9, 2) := by decide +kernel
theorem dX6_rate_16 : decode cX6_rate 16 = .ok (.if_icmp .gt 38, 3) := by decide +kernel
theorem dX6_rate_19 : decode cX6_rate 19 = .ok (.aload_n 0, 1) := by decide +kernel
theorem dX6_rate_20 : decode cX6_rate 20 = .ok (.getfield 37, 3) := by decide +kernel
theorem dX6_rate_23 : decode cX6_rate 23 = .ok (.aload_n 0, 1) := by decide +kernel
theorem dX6_rate_24 : decode cX6_rate 24 = .ok (.getfield 26, 3) := by decide +kernel
theorem dX6_rate_27 : decode cX6_rate 27 = .ok (.invokevirtual 83, 3) := by decide +kernel
theorem dX6_rate_30 : decode cX6_rate 30 = .ok (.aload_n 0, 1) := by decide +kernel
theorem dX6_rate_31 : decode cX6_rate 31 = .ok (.getfield 37, 3) := by decide +kernel
theorem dX6_rate_34 : decode cX6_rate 34 = .ok (.iload_n 2, 1) := by decide +kernel
theorem dX6_rate_35 : decode cX6_rate 35 = .ok (.putfield 102, 3) := by decide +kernel
theorem dX6_rate_38 : decode cX6_rate 38 = .ok (.aload_n 0, 1) := by decide +kernel
theorem dX6_rate_39 : decode cX6_rate 39 = .ok (.iload_n 1, 1) := by decide +kernel
theorem dX6_rate_40 : decode cX6_rate 40 = .ok (.invokevirtual 199, 3) := by decide +kernel
theorem dX6_rate_43 : decode cX6_rate 43 = .ok (.ifCond .eq 5, 3) := by decide +kernel
theorem dX6_rate_46 : decode cX6_rate 46 = .ok (.iload_n 2, 1) := by decide +kernel
theorem dX6_rate_47 : decode cX6_rate 47 = .ok (.ireturn, 1) := by decide +kernel
theorem dX6_rate_48 : decode cX6_rate 48 = .ok (.iinc 2 1, 3) := by decide +kernel
theorem dX6_rate_51 : decode cX6_rate 51 = .ok (.goto (-38), 3) := by decide +kernel
theorem dX6_rate_54 : decode cX6_rate 54 = .ok (.bipush (-4), 2) := by decide +kernel
theorem dX6_rate_56 : decode cX6_rate 56 = .ok (.ireturn, 1) := by decide +kernel
set_option maxRecDepth 20000 in
theorem ggX6_gift_X6_isWithin : GoodIn wsX6_gift wsX6_isWithin := goodIn_r _ [9] (by decide +kernel) (by decide +kernel)
set_option maxRecDepth 20000 in
theorem gX6_gift_X6_isWithin : GoodIn wsX6_gift (va_wsS RX6 58 yX6_isWithin wsX6_isWithin) := goodIn_app (goodIn_of _ (by decide +kernel)) ggX6_gift_X6_isWithin
set_option maxRecDepth 20000 in
theorem ggX6_gift_X6_timesByPlan : GoodIn wsX6_gift wsX6_timesByPlan := goodIn_r _ [13, 4, 1, 2, 5, 14, 15, 16, 17, 18, 19, 20, 21, 22, 23, 24, 25, 26, 27, 28, 29, 30, 31, 32, 33, 34, 35, 36, 37, 38, 39, 40, 41, 42, 43, 44, 45, 46, 47, 48, 49, 50, 51, 52, 53, 54, 55, 56, 57, 58, 59, 60, 61, 62, 63, 64, 65, 66, 67, 68, 69, 70, 71, 72, 73, 74, 75, 76, 77, 78, 79, 80, 81, 83, 84, 85, 86, 87, 88, 89, 90, 91, 92, 93, 94, 95, 96, 97, 98, 99, 100, 101, 102, 103, 104, 105, 106, 107, 108, 109, 110] (by decide +kernel) (by decide +kernel)
set_option maxRecDepth 20000 in
theorem gX6_gift_X6_timesByPlan : GoodIn wsX6_gift (wsV RX6 184 RX6 yX6_timesByPlan wsX6_timesByPlan) := goodIn_app (goodIn_of _ (by decide +kernel)) ggX6_gift_X6_timesByPlan
set_option maxRecDepth 20000 in
theorem ggX6_gift_X1_copyFrom : GoodIn wsX6_gift wsX1_copyFrom := goodIn_r _ [18, 19, 20, 21, 22, 23, 24, 25, 26, 27, 28, 29, 30, 31, 32, 33, 92, 93, 94, 95, 96, 97, 98, 99, 100, 101, 102] (by decide +kernel) (by decide +kernel)
set_option maxRecDepth 20000 in
theorem gX6_gift_X1_copyFrom : GoodIn wsX6_gift (wsV RX6 83 RX1 yX1_copyFrom wsX1_copyFrom) := goodIn_app (goodIn_of _ (by decide +kernel)) ggX6_gift_X1_copyFrom
set_option maxRecDepth 20000 in
theorem ggX6_gift_X1_putInHand : GoodIn wsX6_gift wsX1_putInHand := goodIn_r _ [73, 25, 66, 67, 68, 69, 92, 93, 94, 95, 96, 97, 98, 99, 100, 101, 102] (by decide +kernel) (by decide +kernel)
set_option maxRecDepth 20000 in
theorem gX6_gift_X1_putInHand : GoodIn wsX6_gift (wsV RX6 202 RX1 yX1_putInHand wsX1_putInHand) := goodIn_app (goodIn_of _ (by decide +kernel)) ggX6_gift_X1_putInHand
set_option maxRecDepth 20000 in
theorem ggX6_gift_X1_passToLastWeek : GoodIn wsX6_gift wsX1_passToLastWeek := goodIn_r _ [37, 32, 38, 39, 40, 17, 41, 33, 42, 43, 44, 45, 46, 47, 48, 49, 50, 51, 52, 53, 54, 55, 56, 57, 28, 20, 58, 59, 60, 61, 29, 62, 63, 64, 65, 26, 66, 67, 68, 69, 70, 71, 72, 73, 25, 74, 75, 76, 77, 31, 27, 78, 79, 80, 81, 19, 30, 92, 93, 94, 95, 96, 97, 98, 99, 100, 101, 102, 103, 104, 105, 106, 107, 108, 109, 110] (by decide +kernel) (by decide +kernel)
set_option maxRecDepth 20000 in
theorem gX6_gift_X1_passToLastWeek : GoodIn wsX6_gift (wsV RX6 206 RX1 yX1_passToLastWeek wsX1_passToLastWeek) := goodIn_app (goodIn_of _ (by decide +kernel)) ggX6_gift_X1_passToLastWeek
theorem dX6_gift_0 : decode cX6_gift 0 = .ok (.iload_n 1, 1) := by decide +kernel
theorem dX6_gift_1 : decode cX6_gift 1 = .ok (.bipush 99, 2) := by decide +kernel
theorem dX6_gift_3 : decode cX6_gift 3 = .ok (.invokestatic 58, 3) := by decide +kernel
theorem dX6_gift_6 : decode cX6_gift 6 = .ok (.ifCond .eq 11, 3) := by decide +kernel
theorem dX6_gift_9 : decode cX6_gift 9 = .ok (.iload_n 2, 1) := by decide +kernel
theorem dX6_gift_10 : decode cX6_gift 10 = .ok (.iconst 1, 1) := by decide +kernel
theorem dX6_gift_11 : decode cX6_gift 11 = .ok (.invokestatic 58, 3) := by decide +kernel
theorem dX6_gift_14 : decode cX6_gift 14 = .ok (.ifCond .ne 5, 3) := by decide +kernel
theorem dX6_gift_17 : decode cX6_gift 17 = .ok (.iconst (-1), 1) := by decide +kernel
theorem dX6_gift_18 : decode cX6_gift 18 = .ok (.ireturn, 1) := by decide +kernel
theorem dX6_gift_19 : decode cX6_gift 19 = .ok (.aload_n 0, 1) := by decide +kernel
theorem dX6_gift_20 : decode cX6_gift 20 = .ok (.aload_n 0, 1) := by decide +kernel
theorem dX6_gift_21 : decode cX6_gift 21 = .ok (.getfield 26, 3) := by decide +kernel
theorem dX6_gift_24 : decode cX6_gift 24 = .ok (.getfield 111, 3) := by decide +kernel
theorem dX6_gift_27 : decode cX6_gift 27 = .ok (.invokevirtual 184, 3) := by decide +kernel
theorem dX6_gift_30 : decode cX6_gift 30 = .ok (.istore_n 3, 1) := by decide +kernel
theorem dX6_gift_31 : decode cX6_gift 31 = .ok (.bipush (-4), 2) := by decide +kernel
theorem dX6_gift_33 : decode cX6_gift 33 = .ok (.istore 4, 2) := by decide +kernel
theorem dX6_gift_35 : decode cX6_gift 35 = .ok (.iconst 0, 1) := by decide +kernel
theorem dX6_gift_36 : decode cX6_gift 36 = .ok (.istore 5, 2) := by decide +kernel
theorem dX6_gift_38 : decode cX6_gift 38 = .ok (.iload 5, 2) := by decide +kernel
theorem dX6_gift_40 : decode cX6_gift 40 = .ok (.aload_n 0, 1) := by decide +kernel
theorem dX6_gift_41 : decode cX6_gift 41 = .ok (.getfield 26, 3) := by decide +kernel
theorem dX6_gift_44 : decode cX6_gift 44 = .ok (.getfield 93, 3) := by decide +kernel
theorem dX6_gift_47 : decode cX6_gift 47 = .ok (.if_icmp .ge 56, 3) := by decide +kernel
theorem dX6_gift_50 : decode cX6_gift 50 = .ok (.aload_n 0, 1) := by decide +kernel
theorem dX6_gift_51 : decode cX6_gift 51 = .ok (.getfield 37, 3) := by decide +kernel
theorem dX6_gift_54 : decode cX6_gift 54 = .ok (.aload_n 0, 1) := by decide +kernel
theorem dX6_gift_55 : decode cX6_gift 55 = .ok (.getfield 26, 3) := by decide +kernel
theorem dX6_gift_58 : decode cX6_gift 58 = .ok (.invokevirtual 83, 3) := by decide +kernel
theorem dX6_gift_61 : decode cX6_gift 61 = .ok (.aload_n 0, 1) := by decide +kernel
theorem dX6_gift_62 : decode cX6_gift 62 = .ok (.getfield 37, 3) := by decide +kernel
theorem dX6_gift_65 : decode cX6_gift 65 = .ok (.iload 5, 2) := by decide +kernel
theorem dX6_gift_67 : decode cX6_gift 67 = .ok (.iload_n 1, 1) := by decide +kernel
theorem dX6_gift_68 : decode cX6_gift 68 = .ok (.invokevirtual 202, 3) := by decide +kernel
theorem dX6_gift_71 : decode cX6_gift 71 = .ok (.aload_n 0, 1) := by decide +kernel
theorem dX6_gift_72 : decode cX6_gift 72 = .ok (.getfield 37, 3) := by decide +kernel
theorem dX6_gift_75 : decode cX6_gift 75 = .ok (.aload_n 0, 1) := by decide +kernel
theorem dX6_gift_76 : decode cX6_gift 76 = .ok (.getfield 19, 3) := by decide +kernel
theorem dX6_gift_79 : decode cX6_gift 79 = .ok (.invokevirtual 206, 3) := by decide +kernel
theorem dX6_gift_82 : decode cX6_gift 82 = .ok (.istore 6, 2) := by decide +kernel
theorem dX6_gift_84 : decode cX6_gift 84 = .ok (.iload 6, 2) := by decide +kernel
theorem dX6_gift_86 : decode cX6_gift 86 = .ok (.iload_n 3, 1) := by decide +kernel
theorem dX6_gift_87 : decode cX6_gift 87 = .ok (.if_icmp .ge 10, 3) := by decide +kernel
theorem dX6_gift_90 : decode cX6_gift 90 = .ok (.iload 6, 2) := by decide +kernel
theorem dX6_gift_92 : decode cX6_gift 92 = .ok (.istore_n 3, 1) := by decide +kernel
theorem dX6_gift_93 : decode cX6_gift 93 = .ok (.iload 5, 2) := by decide +kernel
theorem dX6_gift_95 : decode cX6_gift 95 = .ok (.istore 4, 2) := by decide +kernel
theorem dX6_gift_97 : decode cX6_gift 97 = .ok (.iinc 5 1, 3) := by decide +kernel
theorem dX6_gift_100 : decode cX6_gift 100 = .ok (.goto (-62), 3) := by decide +kernel
theorem dX6_gift_103 : decode cX6_gift 103 = .ok (.iload 4, 2) := by decide +kernel
theorem dX6_gift_105 : decode cX6_gift 105 = .ok (.bipush (-4), 2) := by decide +kernel
theorem dX6_gift_107 : decode cX6_gift 107 = .ok (.if_icmp .eq 7, 3) := by decide +kernel
theorem dX6_gift_110 : decode cX6_gift 110 = .ok (.iload_n 2, 1) := by decide +kernel
theorem dX6_gift_111 : decode cX6_gift 111 = .ok (.ifCond .ne 8, 3) := by decide +kernel
theorem dX6_gift_114 : decode cX6_gift 114 = .ok (.iload 4, 2) := by decide +kernel
theorem dX6_gift_116 : decode cX6_gift 116 = .ok (.goto 4, 3) := by decide +kernel
theorem dX6_gift_119 : decode cX6_gift 119 = .ok (.iload_n 3, 1) := by decide +kernel
theorem dX6_gift_120 : decode cX6_gift 120 = .ok (.ireturn, 1) := by decide +kernel
set_option maxRecDepth 20000 in
theorem ggX6_told_X6_isOne : GoodIn wsX6_told wsX6_isOne := goodIn_r _ [15, 2, 10, 92, 93, 94, 95, 96, 97, 98, 99, 100, 101, 102, 103, 104, 105, 106, 107, 108, 109, 110, 111] (by decide +kernel) (by decide +kernel)
set_option maxRecDepth 20000 in
theorem gX6_told_X6_isOne : GoodIn wsX6_told (wsV RX6 114 RX6 yX6_isOne wsX6_isOne) := goodIn_app (goodIn_of _ (by decide +kernel)) ggX6_told_X6_isOne
set_option maxRecDepth 20000 in
theorem ggX6_told_X6_isWithin : GoodIn wsX6_told wsX6_isWithin := goodIn_r _ [18] (by decide +kernel) (by decide +kernel)
set_option maxRecDepth 20000 in
theorem gX6_told_X6_isWithin : GoodIn wsX6_told (va_wsS RX6 58 yX6_isWithin wsX6_isWithin) := goodIn_app (goodIn_of _ (by decide +kernel)) ggX6_told_X6_isWithin
set_option maxRecDepth 20000 in
theorem ggX6_told_X1_copyFrom : GoodIn wsX6_told wsX1_copyFrom := goodIn_r _ [23, 24, 25, 26, 7, 8, 9, 27, 28, 29, 30, 31, 32, 33, 34, 35, 101, 102, 103, 104, 105, 106, 107, 108, 109, 110, 111] (by decide +kernel) (by decide +kernel)
set_option maxRecDepth 20000 in
theorem gX6_told_X1_copyFrom : GoodIn wsX6_told (wsV RX6 83 RX1 yX1_copyFrom wsX1_copyFrom) := goodIn_app (goodIn_of _ (by decide +kernel)) ggX6_told_X1_copyFrom
set_option maxRecDepth 20000 in
theorem ggX6_told_X1_passToLastWeek : GoodIn wsX6_told wsX1_passToLastWeek := goodIn_r _ [39, 34, 40, 41, 42, 22, 43, 35, 44, 45, 46, 47, 48, 49, 50, 51, 52, 53, 54, 55, 56, 57, 58, 59, 30, 25, 60, 61, 62, 63, 31, 64, 65, 66, 67, 28, 68, 69, 70, 71, 72, 73, 74, 75, 27, 76, 77, 78, 79, 33, 29, 80, 81, 82, 83, 24, 32, 101, 102, 103, 104, 105, 106, 107, 108, 109, 110, 111, 112, 113, 114, 115, 116, 117, 118, 119] (by decide +kernel) (by decide +kernel)
set_option maxRecDepth 20000 in
theorem gX6_told_X1_passToLastWeek : GoodIn wsX6_told (wsV RX6 206 RX1 yX1_passToLastWeek wsX1_passToLastWeek) := goodIn_app (goodIn_of _ (by decide +kernel)) ggX6_told_X1_passToLastWeek
set_option maxRecDepth 20000 in
theorem ggX6_told_X6_timesByRumour : GoodIn wsX6_told wsX6_timesByRumour := goodIn_r _ [87, 1, 2, 3, 19, 20, 21, 22, 23, 24, 25, 26, 7, 8, 9, 27, 28, 29, 30, 31, 32, 33, 34, 35, 88, 89, 90, 91, 44, 54, 45, 36, 37, 38, 39, 40, 41, 42, 43, 46, 47, 48, 49, 50, 51, 52, 53, 55, 56, 57, 58, 59, 60, 61, 62, 63, 64, 65, 66, 67, 68, 69, 70, 71, 72, 73, 74, 75, 76, 77, 78, 79, 80, 81, 82, 83, 92, 93, 94, 95, 96, 97, 98, 99, 100, 101, 102, 103, 104, 105, 106, 107, 108, 109, 110, 111, 112, 113, 114, 115, 116, 117, 118, 119] (by decide +kernel) (by decide +kernel)
set_option maxRecDepth 20000 in
theorem gX6_told_X6_timesByRumour : GoodIn wsX6_told (wsV RX6 215 RX6 yX6_timesByRumour wsX6_timesByRumour) := goodIn_app (goodIn_of _ (by decide +kernel)) ggX6_told_X6_timesByRumour
theorem dX6_told_0 : decode cX6_told 0 = .ok (.aload_n 0, 1) := by decide +kernel
theorem dX6_told_1 : decode cX6_told 1 = .ok (.iload_n 1, 1) := by decide +kernel
theorem dX6_told_2 : decode cX6_told 2 = .ok (.invokevirtual 114, 3) := by decide +kernel
theorem dX6_told_5 : decode cX6_told 5 = .ok (.ifCond .eq 11, 3) := by decide +kernel
theorem dX6_told_8 : decode cX6_told 8 = .ok (.iload_n 2, 1) := by decide +kernel
theorem dX6_told_9 : decode cX6_told 9 = .ok (.iconst 1, 1) := by decide +kernel
theorem dX6_told_10 : decode cX6_told 10 = .ok (.invokestatic 58, 3) := by decide +kernel
theorem dX6_told_13 : decode cX6_told 13 = .ok (.ifCond .ne 5, 3) := by decide +kernel
theorem dX6_told_16 : decode cX6_told 16 = .ok (.iconst (-1), 1) := by decide +kernel
theorem dX6_told_17 : decode cX6_told 17 = .ok (.ireturn, 1) := by decide +kernel
theorem dX6_told_18 : decode cX6_told 18 = .ok (.aload_n 0, 1) := by decide +kernel
theorem dX6_told_19 : decode cX6_told 19 = .ok (.getfield 37, 3) := by decide +kernel
theorem dX6_told_22 : decode cX6_told 22 = .ok (.aload_n 0, 1) := by decide +kernel
theorem dX6_told_23 : decode cX6_told 23 = .ok (.getfield 26, 3) := by decide +kernel
theorem dX6_told_26 : decode cX6_told 26 = .ok (.invokevirtual 83, 3) := by decide +kernel
theorem dX6_told_29 : decode cX6_told 29 = .ok (.aload_n 0, 1) := by decide +kernel
theorem dX6_told_30 : decode cX6_told 30 = .ok (.getfield 37, 3) := by decide +kernel
theorem dX6_told_33 : decode cX6_told 33 = .ok (.aload_n 0, 1) := by decide +kernel
theorem dX6_told_34 : decode cX6_told 34 = .ok (.getfield 19, 3) := by decide +kernel
theorem dX6_told_37 : decode cX6_told 37 = .ok (.invokevirtual 206, 3) := by decide +kernel
theorem dX6_told_40 : decode cX6_told 40 = .ok (.pop, 1) := by decide +kernel
theorem dX6_told_41 : decode cX6_told 41 = .ok (.aload_n 0, 1) := by decide +kernel
theorem dX6_told_42 : decode cX6_told 42 = .ok (.getfield 37, 3) := by decide +kernel
theorem dX6_told_45 : decode cX6_told 45 = .ok (.getfield 127, 3) := by decide +kernel
theorem dX6_told_48 : decode cX6_told 48 = .ok (.iconst 0, 1) := by decide +kernel
theorem dX6_told_49 : decode cX6_told 49 = .ok (.aload_n 0, 1) := by decide +kernel
theorem dX6_told_50 : decode cX6_told 50 = .ok (.getfield 40, 3) := by decide +kernel
theorem dX6_told_53 : decode cX6_told 53 = .ok (.iconst 0, 1) := by decide +kernel
theorem dX6_told_54 : decode cX6_told 54 = .ok (.iconst 4, 1) := by decide +kernel
theorem dX6_told_55 : decode cX6_told 55 = .ok (.invokestatic 209, 3) := by decide +kernel
theorem dX6_told_58 : decode cX6_told 58 = .ok (.aload_n 0, 1) := by decide +kernel
theorem dX6_told_59 : decode cX6_told 59 = .ok (.iload_n 1, 1) := by decide +kernel
theorem dX6_told_60 : decode cX6_told 60 = .ok (.invokevirtual 215, 3) := by decide +kernel
theorem dX6_told_63 : decode cX6_told 63 = .ok (.pop, 1) := by decide +kernel
theorem dX6_told_64 : decode cX6_told 64 = .ok (.iconst 0, 1) := by decide +kernel
theorem dX6_told_65 : decode cX6_told 65 = .ok (.istore_n 3, 1) := by decide +kernel
theorem dX6_told_66 : decode cX6_told 66 = .ok (.iconst 0, 1) := by decide +kernel
theorem dX6_told_67 : decode cX6_told 67 = .ok (.istore 4, 2) := by decide +kernel
theorem dX6_told_69 : decode cX6_told 69 = .ok (.iload 4, 2) := by decide +kernel
theorem dX6_told_71 : decode cX6_told 71 = .ok (.aload_n 0, 1) := by decide +kernel
theorem dX6_told_72 : decode cX6_told 72 = .ok (.getfield 26, 3) := by decide +kernel
theorem dX6_told_75 : decode cX6_told 75 = .ok (.getfield 93, 3) := by decide +kernel
theorem dX6_told_78 : decode cX6_told 78 = .ok (.if_icmp .ge 53, 3) := by decide +kernel
theorem dX6_told_81 : decode cX6_told 81 = .ok (.aload_n 0, 1) := by decide +kernel
theorem dX6_told_82 : decode cX6_told 82 = .ok (.getfield 37, 3) := by decide +kernel
theorem dX6_told_85 : decode cX6_told 85 = .ok (.getfield 127, 3) := by decide +kernel
theorem dX6_told_88 : decode cX6_told 88 = .ok (.iload 4, 2) := by decide +kernel
theorem dX6_told_90 : decode cX6_told 90 = .ok (.iaload, 1) := by decide +kernel
theorem dX6_told_91 : decode cX6_told 91 = .ok (.aload_n 0, 1) := by decide +kernel
theorem dX6_told_92 : decode cX6_told 92 = .ok (.getfield 40, 3) := by decide +kernel
theorem dX6_told_95 : decode cX6_told 95 = .ok (.iload 4, 2) := by decide +kernel
theorem dX6_told_97 : decode cX6_told 97 = .ok (.iaload, 1) := by decide +kernel
theorem dX6_told_98 : decode cX6_told 98 = .ok (.isub, 1) := by decide +kernel
theorem dX6_told_99 : decode cX6_told 99 = .ok (.istore 5, 2) := by decide +kernel
theorem dX6_told_101 : decode cX6_told 101 = .ok (.iload_n 2, 1) := by decide +kernel
theorem dX6_told_102 : decode cX6_told 102 = .ok (.ifCond .ne 11, 3) := by decide +kernel
theorem dX6_told_105 : decode cX6_told 105 = .ok (.iload 5, 2) := by decide +kernel
theorem dX6_told_107 : decode cX6_told 107 = .ok (.ifCond .le 18, 3) := by decide +kernel
theorem dX6_told_110 : decode cX6_told 110 = .ok (.goto 8, 3) := by decide +kernel
theorem dX6_told_113 : decode cX6_told 113 = .ok (.iload 5, 2) := by decide +kernel
theorem dX6_told_115 : decode cX6_told 115 = .ok (.ifCond .ge 10, 3) := by decide +kernel
theorem dX6_told_118 : decode cX6_told 118 = .ok (.iload_n 3, 1) := by decide +kernel
theorem dX6_told_119 : decode cX6_told 119 = .ok (.iconst 1, 1) := by decide +kernel
theorem dX6_told_120 : decode cX6_told 120 = .ok (.iload 4, 2) := by decide +kernel
theorem dX6_told_122 : decode cX6_told 122 = .ok (.ishl, 1) := by decide +kernel
theorem dX6_told_123 : decode cX6_told 123 = .ok (.ior, 1) := by decide +kernel
theorem dX6_told_124 : decode cX6_told 124 = .ok (.istore_n 3, 1) := by decide +kernel
theorem dX6_told_125 : decode cX6_told 125 = .ok (.iinc 4 1, 3) := by decide +kernel
theorem dX6_told_128 : decode cX6_told 128 = .ok (.goto (-59), 3) := by decide +kernel
theorem dX6_told_131 : decode cX6_told 131 = .ok (.iload_n 3, 1) := by decide +kernel
theorem dX6_told_132 : decode cX6_told 132 = .ok (.ireturn, 1) := by decide +kernel
set_option maxRecDepth 20000 in
theorem ggX6_whisper_X6_isWithin : GoodIn wsX6_whisper wsX6_isWithin := goodIn_r _ [7] (by decide +kernel) (by decide +kernel)
set_option maxRecDepth 20000 in
theorem gX6_whisper_X6_isWithin : GoodIn wsX6_whisper (va_wsS RX6 58 yX6_isWithin wsX6_isWithin) := goodIn_app (goodIn_of _ (by decide +kernel)) ggX6_whisper_X6_isWithin
set_option maxRecDepth 20000 in
theorem ggX6_whisper_X6_timesByPlan : GoodIn wsX6_whisper wsX6_timesByPlan := goodIn_r _ [11, 12, 1, 2, 13, 14, 15, 16, 17, 18, 19, 20, 21, 22, 23, 24, 25, 26, 27, 28, 29, 30, 31, 32, 33, 34, 35, 36, 37, 38, 39, 40, 41, 42, 43, 44, 45, 46, 47, 48, 49, 50, 51, 52, 53, 54, 55, 56, 57, 58, 59, 60, 61, 62, 63, 64, 65, 66, 67, 68, 69, 70, 71, 72, 73, 74, 75, 76, 77, 78, 79, 80, 81, 90, 91, 92, 93, 94, 95, 96, 97, 98, 99, 100, 101, 102, 103, 104, 105, 106, 107, 108, 109, 110, 111, 112, 113, 114, 115, 116, 117] (by decide +kernel) (by decide +kernel)
set_option maxRecDepth 20000 in
theorem gX6_whisper_X6_timesByPlan : GoodIn wsX6_whisper (wsV RX6 184 RX6 yX6_timesByPlan wsX6_timesByPlan) := goodIn_app (goodIn_of _ (by decide +kernel)) ggX6_whisper_X6_timesByPlan
set_option maxRecDepth 20000 in
theorem ggX6_whisper_X6_timesByRumour : GoodIn wsX6_whisper wsX6_timesByRumour := goodIn_r _ [85, 12, 1, 13, 14, 15, 16, 17, 18, 19, 20, 21, 22, 23, 24, 25, 26, 27, 28, 29, 30, 31, 32, 33, 86, 87, 88, 89, 42, 52, 43, 34, 35, 36, 37, 38, 39, 40, 41, 44, 45, 46, 47, 48, 49, 50, 51, 53, 54, 55, 56, 57, 58, 59, 60, 61, 62, 63, 64, 65, 66, 67, 68, 69, 70, 71, 72, 73, 74, 75, 76, 77, 78, 79, 80, 81, 90, 91, 92, 93, 94, 95, 96, 97, 98, 99, 100, 101, 102, 103, 104, 105, 106, 107, 108, 109, 110, 111, 112, 113, 114, 115, 116, 117] (by decide +kernel) (by decide +kernel)
set_option maxRecDepth 20000 in
theorem gX6_whisper_X6_timesByRumour : GoodIn wsX6_whisper (wsV RX6 215 RX6 yX6_timesByRumour wsX6_timesByRumour) := goodIn_app (goodIn_of _ (by decide +kernel)) ggX6_whisper_X6_timesByRumour
theorem dX6_whisper_0 : decode cX6_whisper 0 = .ok (.iload_n 1, 1) := by decide +kernel
theorem dX6_whisper_1 : decode cX6_whisper 1 = .ok (.iconst 1, 1) := by decide +kernel
theorem dX6_whisper_2 : decode cX6_whisper 2 = .ok (.invokestatic 58, 3) := by decide +kernel
theorem dX6_whisper_5 : decode cX6_whisper 5 = .ok (.ifCond .ne 5, 3) := by decide +kernel
theorem dX6_whisper_8 : decode cX6_whisper 8 = .ok (.iconst (-1), 1) := by decide +kernel
theorem dX6_whisper_9 : decode cX6_whisper 9 = .ok (.ireturn, 1) := by decide +kernel
theorem dX6_whisper_10 : decode cX6_whisper 10 = .ok (.aload_n 0, 1) := by decide +kernel
theorem dX6_whisper_11 : decode cX6_whisper 11 = .ok (.aload_n 0, 1) := by decide +kernel
theorem dX6_whisper_12 : decode cX6_whisper 12 = .ok (.getfield 26, 3) := by decide +kernel
theorem dX6_whisper_15 : decode cX6_whisper 15 = .ok (.getfield 111, 3) := by decide +kernel
theorem dX6_whisper_18 : decode cX6_whisper 18 = .ok (.invokevirtual 184, 3) := by decide +kernel
theorem dX6_whisper_21 : decode cX6_whisper 21 = .ok (.istore_n 2, 1) := by decide +kernel
theorem dX6_whisper_22 : decode cX6_whisper 22 = .ok (.bipush (-4), 2) := by decide +kernel
theorem dX6_whisper_24 : decode cX6_whisper 24 = .ok (.istore_n 3, 1) := by decide +kernel
theorem dX6_whisper_25 : decode cX6_whisper 25 = .ok (.iconst 0, 1) := by decide +kernel
theorem dX6_whisper_26 : decode cX6_whisper 26 = .ok (.istore 4, 2) := by decide +kernel
theorem dX6_whisper_28 : decode cX6_whisper 28 = .ok (.iload 4, 2) := by decide +kernel
theorem dX6_whisper_30 : decode cX6_whisper 30 = .ok (.aload_n 0, 1) := by decide +kernel
theorem dX6_whisper_31 : decode cX6_whisper 31 = .ok (.getfield 26, 3) := by decide +kernel
theorem dX6_whisper_34 : decode cX6_whisper 34 = .ok (.getfield 93, 3) := by decide +kernel
theorem dX6_whisper_37 : decode cX6_whisper 37 = .ok (.if_icmp .ge 29, 3) := by decide +kernel
theorem dX6_whisper_40 : decode cX6_whisper 40 = .ok (.aload_n 0, 1) := by decide +kernel
theorem dX6_whisper_41 : decode cX6_whisper 41 = .ok (.iload 4, 2) := by decide +kernel
theorem dX6_whisper_43 : decode cX6_whisper 43 = .ok (.invokevirtual 215, 3) := by decide +kernel
theorem dX6_whisper_46 : decode cX6_whisper 46 = .ok (.istore 5, 2) := by decide +kernel
theorem dX6_whisper_48 : decode cX6_whisper 48 = .ok (.iload 5, 2) := by decide +kernel
theorem dX6_whisper_50 : decode cX6_whisper 50 = .ok (.iload_n 2, 1) := by decide +kernel
theorem dX6_whisper_51 : decode cX6_whisper 51 = .ok (.if_icmp .ge 9, 3) := by decide +kernel
theorem dX6_whisper_54 : decode cX6_whisper 54 = .ok (.iload 5, 2) := by decide +kernel
theorem dX6_whisper_56 : decode cX6_whisper 56 = .ok (.istore_n 2, 1) := by decide +kernel
theorem dX6_whisper_57 : decode cX6_whisper 57 = .ok (.iload 4, 2) := by decide +kernel
theorem dX6_whisper_59 : decode cX6_whisper 59 = .ok (.istore_n 3, 1) := by decide +kernel
theorem dX6_whisper_60 : decode cX6_whisper 60 = .ok (.iinc 4 1, 3) := by decide +kernel
theorem dX6_whisper_63 : decode cX6_whisper 63 = .ok (.goto (-35), 3) := by decide +kernel
theorem dX6_whisper_66 : decode cX6_whisper 66 = .ok (.iload_n 3, 1) := by decide +kernel
theorem dX6_whisper_67 : decode cX6_whisper 67 = .ok (.bipush (-4), 2) := by decide +kernel
theorem dX6_whisper_69 : decode cX6_whisper 69 = .ok (.if_icmp .eq 7, 3) := by decide +kernel
theorem dX6_whisper_72 : decode cX6_whisper 72 = .ok (.iload_n 1, 1) := by decide +kernel
theorem dX6_whisper_73 : decode cX6_whisper 73 = .ok (.ifCond .ne 7, 3) := by decide +kernel
theorem dX6_whisper_76 : decode cX6_whisper 76 = .ok (.iload_n 3, 1) := by decide +kernel
theorem dX6_whisper_77 : decode cX6_whisper 77 = .ok (.goto 4, 3) := by decide +kernel
theorem dX6_whisper_80 : decode cX6_whisper 80 = .ok (.iload_n 2, 1) := by decide +kernel
theorem dX6_whisper_81 : decode cX6_whisper 81 = .ok (.ireturn, 1) := by decide +kernel
set_option maxRecDepth 20000 in
theorem ggX6_note_X6_isOne : GoodIn wsX6_note wsX6_isOne := goodIn_r _ [8, 1, 9, 22, 23, 24, 25, 26, 27, 28, 29, 30, 31, 32, 33, 34, 35, 36, 37, 38, 39, 40, 41] (by decide +kernel) (by decide +kernel)
set_option maxRecDepth 20000 in
theorem gX6_note_X6_isOne : GoodIn wsX6_note (wsV RX6 114 RX6 yX6_isOne wsX6_isOne) := goodIn_app (goodIn_of _ (by decide +kernel)) ggX6_note_X6_isOne
set_option maxRecDepth 20000 in
theorem ggX6_note_X6_isWithin : GoodIn wsX6_note wsX6_isWithin := goodIn_r _ [12] (by decide +kernel) (by decide +kernel)
set_option maxRecDepth 20000 in
theorem gX6_note_X6_isWithin : GoodIn wsX6_note (va_wsS RX6 58 yX6_isWithin wsX6_isWithin) := goodIn_app (goodIn_of _ (by decide +kernel)) ggX6_note_X6_isWithin
set_option maxRecDepth 20000 in
theorem ggX6_note_X2_append : GoodIn wsX6_note wsX2_append := goodIn_r _ [17, 18, 19, 20, 21, 42, 43, 44, 45] (by decide +kernel) (by decide +kernel)
set_option maxRecDepth 20000 in
theorem gX6_note_X2_append : GoodIn wsX6_note (wsV RX6 218 RX2 yX2_append wsX2_append) := goodIn_app (goodIn_of _ (by decide +kernel)) ggX6_note_X2_append
theorem dX6_note_0 : decode cX6_note 0 = .ok (.aload_n 0, 1) := by decide +kernel
theorem dX6_note_1 : decode cX6_note 1 = .ok (.iload_n 1, 1) := by decide +kernel
theorem dX6_note_2 : decode cX6_note 2 = .ok (.invokevirtual 114, 3) := by decide +kernel
theorem dX6_note_5 : decode cX6_note 5 = .ok (.ifCond .eq 12, 3) := by decide +kernel
theorem dX6_note_8 : decode cX6_note 8 = .ok (.iload_n 2, 1) := by decide +kernel
theorem dX6_note_9 : decode cX6_note 9 = .ok (.bipush 9, 2) := by decide +kernel
theorem dX6_note_11 : decode cX6_note 11 = .ok (.invokestatic 58, 3) := by decide +kernel
theorem dX6_note_14 : decode cX6_note 14 = .ok (.ifCond .ne 5, 3) := by decide +kernel
theorem dX6_note_17 : decode cX6_note 17 = .ok (.iconst (-1), 1) := by decide +kernel
theorem dX6_note_18 : decode cX6_note 18 = .ok (.ireturn, 1) := by decide +kernel
theorem dX6_note_19 : decode cX6_note 19 = .ok (.iload_n 2, 1) := by decide +kernel
theorem dX6_note_20 : decode cX6_note 20 = .ok (.aload_n 0, 1) := by decide +kernel
theorem dX6_note_21 : decode cX6_note 21 = .ok (.getfield 26, 3) := by decide +kernel
theorem dX6_note_24 : decode cX6_note 24 = .ok (.getfield 108, 3) := by decide +kernel
theorem dX6_note_27 : decode cX6_note 27 = .ok (.if_icmp .ge 6, 3) := by decide +kernel
theorem dX6_note_30 : decode cX6_note 30 = .ok (.bipush (-2), 2) := by decide +kernel
theorem dX6_note_32 : decode cX6_note 32 = .ok (.ireturn, 1) := by decide +kernel
theorem dX6_note_33 : decode cX6_note 33 = .ok (.aload_n 0, 1) := by decide +kernel
theorem dX6_note_34 : decode cX6_note 34 = .ok (.getfield 33, 3) := by decide +kernel
theorem dX6_note_37 : decode cX6_note 37 = .ok (.iload_n 1, 1) := by decide +kernel
theorem dX6_note_38 : decode cX6_note 38 = .ok (.iload_n 2, 1) := by decide +kernel
theorem dX6_note_39 : decode cX6_note 39 = .ok (.iload_n 3, 1) := by decide +kernel
theorem dX6_note_40 : decode cX6_note 40 = .ok (.invokevirtual 218, 3) := by decide +kernel
theorem dX6_note_43 : decode cX6_note 43 = .ok (.ireturn, 1) := by decide +kernel
set_option maxRecDepth 20000 in
theorem ggX6_forget_X6_isWithin : GoodIn wsX6_forget wsX6_isWithin := goodIn_r _ [6] (by decide +kernel) (by decide +kernel)
set_option maxRecDepth 20000 in
theorem gX6_forget_X6_isWithin : GoodIn wsX6_forget (va_wsS RX6 58 yX6_isWithin wsX6_isWithin) := goodIn_app (goodIn_of _ (by decide +kernel)) ggX6_forget_X6_isWithin
theorem dX6_forget_0 : decode cX6_forget 0 = .ok (.iload_n 1, 1) := by decide +kernel
theorem dX6_forget_1 : decode cX6_forget 1 = .ok (.aload_n 0, 1) := by decide +kernel
theorem dX6_forget_2 : decode cX6_forget 2 = .ok (.getfield 33, 3) := by decide +kernel
theorem dX6_forget_5 : decode cX6_forget 5 = .ok (.getfield 86, 3) := by decide +kernel
theorem dX6_forget_8 : decode cX6_forget 8 = .ok (.invokestatic 58, 3) := by decide +kernel
theorem dX6_forget_11 : decode cX6_forget 11 = .ok (.ifCond .ne 5, 3) := by decide +kernel
theorem dX6_forget_14 : decode cX6_forget 14 = .ok (.iconst (-1), 1) := by decide +kernel
theorem dX6_forget_15 : decode cX6_forget 15 = .ok (.ireturn, 1) := by decide +kernel
theorem dX6_forget_16 : decode cX6_forget 16 = .ok (.aload_n 0, 1) := by decide +kernel
theorem dX6_forget_17 : decode cX6_forget 17 = .ok (.getfield 33, 3) := by decide +kernel
theorem dX6_forget_20 : decode cX6_forget 20 = .ok (.getfield 86, 3) := by decide +kernel
theorem dX6_forget_23 : decode cX6_forget 23 = .ok (.istore_n 2, 1) := by decide +kernel
theorem dX6_forget_24 : decode cX6_forget 24 = .ok (.aload_n 0, 1) := by decide +kernel
theorem dX6_forget_25 : decode cX6_forget 25 = .ok (.getfield 33, 3) := by decide +kernel
theorem dX6_forget_28 : decode cX6_forget 28 = .ok (.iload_n 1, 1) := by decide +kernel
theorem dX6_forget_29 : decode cX6_forget 29 = .ok (.putfield 86, 3) := by decide +kernel
theorem dX6_forget_32 : decode cX6_forget 32 = .ok (.iload_n 2, 1) := by decide +kernel
theorem dX6_forget_33 : decode cX6_forget 33 = .ok (.ireturn, 1) := by decide +kernel
set_option maxRecDepth 20000 in
theorem ggX6_fits_X6_isWithin : GoodIn wsX6_fits wsX6_isWithin := goodIn_r _ [4] (by decide +kernel) (by decide +kernel)
set_option maxRecDepth 20000 in
theorem gX6_fits_X6_isWithin : GoodIn wsX6_fits (va_wsS RX6 58 yX6_isWithin wsX6_isWithin) := goodIn_app (goodIn_of _ (by decide +kernel)) ggX6_fits_X6_isWithin
set_option maxRecDepth 20000 in
theorem ggX6_fits_X6_allIncidents : GoodIn wsX6_fits wsX6_allIncidents := goodIn_r _ [8, 9, 10, 99, 100, 101, 102, 103, 104, 105, 106, 107, 108, 109, 110, 111, 112, 113, 114, 115] (by decide +kernel) (by decide +kernel)
set_option maxRecDepth 20000 in
theorem gX6_fits_X6_allIncidents : GoodIn wsX6_fits (wsV RX6 178 RX6 yX6_allIncidents wsX6_allIncidents) := goodIn_app (goodIn_of _ (by decide +kernel)) ggX6_fits_X6_allIncidents
set_option maxRecDepth 20000 in
theorem ggX6_fits_X6_keepsThePast : GoodIn wsX6_fits wsX6_keepsThePast := goodIn_r _ [14, 15, 16, 9, 10, 17, 18, 99, 100, 101, 102, 103, 104, 105, 106, 107, 116, 117, 118, 119, 120, 121, 122, 123, 124, 125, 126, 108, 109, 110, 111, 112, 113, 114, 115] (by decide +kernel) (by decide +kernel)
set_option maxRecDepth 20000 in
theorem gX6_fits_X6_keepsThePast : GoodIn wsX6_fits (wsV RX6 181 RX6 yX6_keepsThePast wsX6_keepsThePast) := goodIn_app (goodIn_of _ (by decide +kernel)) ggX6_fits_X6_keepsThePast
set_option maxRecDepth 20000 in
theorem ggX6_fits_X6_isAsNoted : GoodIn wsX6_fits wsX6_isAsNoted := goodIn_r _ [22, 23, 15, 16, 18, 9, 24, 25, 26, 27, 28, 29, 30, 31, 32, 33, 34, 35, 36, 37, 38, 39, 40, 41, 42, 43, 44, 45, 46, 47, 48, 49, 50, 51, 52, 53, 54, 55, 56, 57, 58, 59, 60, 61, 62, 63, 64, 65, 66, 67, 68, 69, 70, 71, 72, 73, 74, 75, 76, 77, 78, 79, 80, 81, 82, 83, 84, 85, 86, 87, 88, 89, 90, 91, 92, 93, 94, 95, 96, 97, 98, 99, 100, 101, 102, 103, 104, 105, 106, 107, 116, 117, 118, 119, 120, 121, 122, 123, 124, 125, 126, 108, 109, 110, 111, 112, 113, 114, 115, 127, 128, 129, 130] (by decide +kernel) (by decide +kernel)
set_option maxRecDepth 20000 in
theorem gX6_fits_X6_isAsNoted : GoodIn wsX6_fits (wsV RX6 221 RX6 yX6_isAsNoted wsX6_isAsNoted) := goodIn_app (goodIn_of _ (by decide +kernel)) ggX6_fits_X6_isAsNoted
theorem dX6_fits_0 : decode cX6_fits 0 = .ok (.iload_n 1, 1) := by decide +kernel
theorem dX6_fits_1 : decode cX6_fits 1 = .ok (.iconst 3, 1) := by decide +kernel
theorem dX6_fits_2 : decode cX6_fits 2 = .ok (.invokestatic 58, 3) := by decide +kernel
theorem dX6_fits_5 : decode cX6_fits 5 = .ok (.ifCond .ne 5, 3) := by decide +kernel
theorem dX6_fits_8 : decode cX6_fits 8 = .ok (.iconst (-1), 1) := by decide +kernel
theorem dX6_fits_9 : decode cX6_fits 9 = .ok (.ireturn, 1) := by decide +kernel
theorem dX6_fits_10 : decode cX6_fits 10 = .ok (.iconst 0, 1) := by decide +kernel
theorem dX6_fits_11 : decode cX6_fits 11 = .ok (.istore_n 2, 1) := by decide +kernel
theorem dX6_fits_12 : decode cX6_fits 12 = .ok (.bipush (-4), 2) := by decide +kernel
theorem dX6_fits_14 : decode cX6_fits 14 = .ok (.istore_n 3, 1) := by decide +kernel
theorem dX6_fits_15 : decode cX6_fits 15 = .ok (.aload_n 0, 1) := by decide +kernel
theorem dX6_fits_16 : decode cX6_fits 16 = .ok (.invokevirtual 178, 3) := by decide +kernel
theorem dX6_fits_19 : decode cX6_fits 19 = .ok (.istore 4, 2) := by decide +kernel
theorem dX6_fits_21 : decode cX6_fits 21 = .ok (.iconst 0, 1) := by decide +kernel
theorem dX6_fits_22 : decode cX6_fits 22 = .ok (.istore 5, 2) := by decide +kernel
theorem dX6_fits_24 : decode cX6_fits 24 = .ok (.iconst 0, 1) := by decide +kernel
theorem dX6_fits_25 : decode cX6_fits 25 = .ok (.istore 6, 2) := by decide +kernel
theorem dX6_fits_27 : decode cX6_fits 27 = .ok (.iload 6, 2) := by decide +kernel
theorem dX6_fits_29 : decode cX6_fits 29 = .ok (.aload_n 0, 1) := by decide +kernel
theorem dX6_fits_30 : decode cX6_fits 30 = .ok (.invokevirtual 178, 3) := by decide +kernel
theorem dX6_fits_33 : decode cX6_fits 33 = .ok (.if_icmp .gt 55, 3) := by decide +kernel
theorem dX6_fits_36 : decode cX6_fits 36 = .ok (.aload_n 0, 1) := by decide +kernel
theorem dX6_fits_37 : decode cX6_fits 37 = .ok (.iload 6, 2) := by decide +kernel
theorem dX6_fits_39 : decode cX6_fits 39 = .ok (.invokevirtual 181, 3) := by decide +kernel
theorem dX6_fits_42 : decode cX6_fits 42 = .ok (.ifCond .eq 40, 3) := by decide +kernel
theorem dX6_fits_45 : decode cX6_fits 45 = .ok (.aload_n 0, 1) := by decide +kernel
theorem dX6_fits_46 : decode cX6_fits 46 = .ok (.iload 6, 2) := by decide +kernel
theorem dX6_fits_48 : decode cX6_fits 48 = .ok (.invokevirtual 221, 3) := by decide +kernel
theorem dX6_fits_51 : decode cX6_fits 51 = .ok (.ifCond .eq 31, 3) := by decide +kernel
theorem dX6_fits_54 : decode cX6_fits 54 = .ok (.iload_n 2, 1) := by decide +kernel
theorem dX6_fits_55 : decode cX6_fits 55 = .ok (.ifCond .ne 8, 3) := by decide +kernel
theorem dX6_fits_58 : decode cX6_fits 58 = .ok (.iload 6, 2) := by decide +kernel
theorem dX6_fits_60 : decode cX6_fits 60 = .ok (.goto 4, 3) := by decide +kernel
theorem dX6_fits_63 : decode cX6_fits 63 = .ok (.iload_n 3, 1) := by decide +kernel
theorem dX6_fits_64 : decode cX6_fits 64 = .ok (.istore_n 3, 1) := by decide +kernel
theorem dX6_fits_65 : decode cX6_fits 65 = .ok (.iinc 2 1, 3) := by decide +kernel
theorem dX6_fits_68 : decode cX6_fits 68 = .ok (.iload 4, 2) := by decide +kernel
theorem dX6_fits_70 : decode cX6_fits 70 = .ok (.iload 6, 2) := by decide +kernel
theorem dX6_fits_72 : decode cX6_fits 72 = .ok (.iand, 1) := by decide +kernel
theorem dX6_fits_73 : decode cX6_fits 73 = .ok (.istore 4, 2) := by decide +kernel
theorem dX6_fits_75 : decode cX6_fits 75 = .ok (.iload 5, 2) := by decide +kernel
theorem dX6_fits_77 : decode cX6_fits 77 = .ok (.iload 6, 2) := by decide +kernel
theorem dX6_fits_79 : decode cX6_fits 79 = .ok (.ior, 1) := by decide +kernel
theorem dX6_fits_80 : decode cX6_fits 80 = .ok (.istore 5, 2) := by decide +kernel
theorem dX6_fits_82 : decode cX6_fits 82 = .ok (.iinc 6 1, 3) := by decide +kernel
theorem dX6_fits_85 : decode cX6_fits 85 = .ok (.goto (-58), 3) := by decide +kernel
theorem dX6_fits_88 : decode cX6_fits 88 = .ok (.iload_n 1, 1) := by decide +kernel
theorem dX6_fits_89 : decode cX6_fits 89 = .ok (.ifCond .ne 5, 3) := by decide +kernel
theorem dX6_fits_92 : decode cX6_fits 92 = .ok (.iload_n 2, 1) := by decide +kernel
theorem dX6_fits_93 : decode cX6_fits 93 = .ok (.ireturn, 1) := by decide +kernel
theorem dX6_fits_94 : decode cX6_fits 94 = .ok (.iload_n 1, 1) := by decide +kernel
theorem dX6_fits_95 : decode cX6_fits 95 = .ok (.iconst 1, 1) := by decide +kernel
theorem dX6_fits_96 : decode cX6_fits 96 = .ok (.if_icmp .eq 7, 3) := by decide +kernel
theorem dX6_fits_99 : decode cX6_fits 99 = .ok (.iload_n 2, 1) := by decide +kernel
theorem dX6_fits_100 : decode cX6_fits 100 = .ok (.ifCond .ne 5, 3) := by decide +kernel
theorem dX6_fits_103 : decode cX6_fits 103 = .ok (.iload_n 3, 1) := by decide +kernel
theorem dX6_fits_104 : decode cX6_fits 104 = .ok (.ireturn, 1) := by decide +kernel
theorem dX6_fits_105 : decode cX6_fits 105 = .ok (.iload_n 1, 1) := by decide +kernel
theorem dX6_fits_106 : decode cX6_fits 106 = .ok (.iconst 2, 1) := by decide +kernel
theorem dX6_fits_107 : decode cX6_fits 107 = .ok (.if_icmp .ne 8, 3) := by decide +kernel
theorem dX6_fits_110 : decode cX6_fits 110 = .ok (.iload 4, 2) := by decide +kernel
theorem dX6_fits_112 : decode cX6_fits 112 = .ok (.goto 12, 3) := by decide +kernel
theorem dX6_fits_115 : decode cX6_fits 115 = .ok (.aload_n 0, 1) := by decide +kernel
theorem dX6_fits_116 : decode cX6_fits 116 = .ok (.invokevirtual 178, 3) := by decide +kernel
theorem dX6_fits_119 : decode cX6_fits 119 = .ok (.iload 5, 2) := by decide +kernel
theorem dX6_fits_121 : decode cX6_fits 121 = .ok (.iconst (-1), 1) := by decide +kernel
theorem dX6_fits_122 : decode cX6_fits 122 = .ok (.ixor, 1) := by decide +kernel
theorem dX6_fits_123 : decode cX6_fits 123 = .ok (.iand, 1) := by decide +kernel
theorem dX6_fits_124 : decode cX6_fits 124 = .ok (.ireturn, 1) := by decide +kernel
set_option maxRecDepth 20000 in
theorem ggX6_drift_X6_isWithin : GoodIn wsX6_drift wsX6_isWithin := goodIn_r _ [9] (by decide +kernel) (by decide +kernel)
set_option maxRecDepth 20000 in
theorem gX6_drift_X6_isWithin : GoodIn wsX6_drift (va_wsS RX6 58 yX6_isWithin wsX6_isWithin) := goodIn_app (goodIn_of _ (by decide +kernel)) ggX6_drift_X6_isWithin
set_option maxRecDepth 20000 in
theorem ggX6_drift_X1_copyFrom : GoodIn wsX6_drift wsX1_copyFrom := goodIn_r _ [14, 15, 16, 17, 18, 19, 20, 21, 22, 23, 24, 25, 26, 27, 28, 29, 88, 89, 90, 91, 92, 93, 94, 95, 96, 97, 98] (by decide +kernel) (by decide +kernel)
set_option maxRecDepth 20000 in
theorem gX6_drift_X1_copyFrom : GoodIn wsX6_drift (wsV RX6 83 RX1 yX1_copyFrom wsX1_copyFrom) := goodIn_app (goodIn_of _ (by decide +kernel)) ggX6_drift_X1_copyFrom
set_option maxRecDepth 20000 in
theorem ggX6_drift_X1_putInHand : GoodIn wsX6_drift wsX1_putInHand := goodIn_r _ [33, 21, 34, 35, 36, 37, 88, 89, 90, 91, 92, 93, 94, 95, 96, 97, 98] (by decide +kernel) (by decide +kernel)
set_option maxRecDepth 20000 in
theorem gX6_drift_X1_putInHand : GoodIn wsX6_drift (wsV RX6 202 RX1 yX1_putInHand wsX1_putInHand) := goodIn_app (goodIn_of _ (by decide +kernel)) ggX6_drift_X1_putInHand
set_option maxRecDepth 20000 in
theorem ggX6_drift_X1_passWeek : GoodIn wsX6_drift wsX1_passWeek := goodIn_r _ [41, 29, 42, 43, 28, 44, 45, 46, 47, 48, 49, 50, 13, 51, 52, 53, 54, 55, 56, 57, 24, 16, 58, 59, 60, 61, 25, 62, 63, 64, 65, 22, 34, 35, 36, 37, 66, 31, 32, 33, 21, 67, 68, 69, 70, 27, 23, 71, 72, 73, 74, 15, 26, 88, 89, 90, 91, 92, 93, 94, 95, 96, 97, 98, 99, 100, 101, 102, 103, 104, 105, 106] (by decide +kernel) (by decide +kernel)
set_option maxRecDepth 20000 in
theorem gX6_drift_X1_passWeek : GoodIn wsX6_drift (wsV RX6 171 RX1 yX1_passWeek wsX1_passWeek) := goodIn_app (goodIn_of _ (by decide +kernel)) ggX6_drift_X1_passWeek
set_option maxRecDepth 20000 in
theorem ggX6_drift_X1_sumInHand : GoodIn wsX6_drift wsX1_sumInHand := goodIn_r _ [78, 15, 21, 88, 89, 90, 91, 92, 93, 94, 95, 96, 97, 98] (by decide +kernel) (by decide +kernel)
set_option maxRecDepth 20000 in
theorem gX6_drift_X1_sumInHand : GoodIn wsX6_drift (wsV RX6 225 RX1 yX1_sumInHand wsX1_sumInHand) := goodIn_app (goodIn_of _ (by decide +kernel)) ggX6_drift_X1_sumInHand
theorem dX6_drift_0 : decode cX6_drift 0 = .ok (.iload_n 2, 1) := by decide +kernel
theorem dX6_drift_1 : decode cX6_drift 1 = .ok (.iconst 1, 1) := by decide +kernel
theorem dX6_drift_2 : decode cX6_drift 2 = .ok (.if_icmp .lt 17, 3) := by decide +kernel
theorem dX6_drift_5 : decode cX6_drift 5 = .ok (.iload_n 2, 1) := by decide +kernel
theorem dX6_drift_6 : decode cX6_drift 6 = .ok (.bipush 20, 2) := by decide +kernel
theorem dX6_drift_8 : decode cX6_drift 8 = .ok (.if_icmp .gt 11, 3) := by decide +kernel
theorem dX6_drift_11 : decode cX6_drift 11 = .ok (.iload_n 3, 1) := by decide +kernel
theorem dX6_drift_12 : decode cX6_drift 12 = .ok (.iconst 1, 1) := by decide +kernel
theorem dX6_drift_13 : decode cX6_drift 13 = .ok (.invokestatic 58, 3) := by decide +kernel
theorem dX6_drift_16 : decode cX6_drift 16 = .ok (.ifCond .ne 5, 3) := by decide +kernel
theorem dX6_drift_19 : decode cX6_drift 19 = .ok (.iconst (-1), 1) := by decide +kernel
theorem dX6_drift_20 : decode cX6_drift 20 = .ok (.ireturn, 1) := by decide +kernel
theorem dX6_drift_21 : decode cX6_drift 21 = .ok (.aload_n 0, 1) := by decide +kernel
theorem dX6_drift_22 : decode cX6_drift 22 = .ok (.getfield 26, 3) := by decide +kernel
theorem dX6_drift_25 : decode cX6_drift 25 = .ok (.getfield 93, 3) := by decide +kernel
theorem dX6_drift_28 : decode cX6_drift 28 = .ok (.ifCond .ne 6, 3) := by decide +kernel
theorem dX6_drift_31 : decode cX6_drift 31 = .ok (.bipush (-2), 2) := by decide +kernel
theorem dX6_drift_33 : decode cX6_drift 33 = .ok (.ireturn, 1) := by decide +kernel
theorem dX6_drift_34 : decode cX6_drift 34 = .ok (.aload_n 0, 1) := by decide +kernel
theorem dX6_drift_35 : decode cX6_drift 35 = .ok (.getfield 37, 3) := by decide +kernel
theorem dX6_drift_38 : decode cX6_drift 38 = .ok (.aload_n 0, 1) := by decide +kernel
theorem dX6_drift_39 : decode cX6_drift 39 = .ok (.getfield 26, 3) := by decide +kernel
theorem dX6_drift_42 : decode cX6_drift 42 = .ok (.invokevirtual 83, 3) := by decide +kernel
theorem dX6_drift_45 : decode cX6_drift 45 = .ok (.iconst 0, 1) := by decide +kernel
theorem dX6_drift_46 : decode cX6_drift 46 = .ok (.istore 4, 2) := by decide +kernel
theorem dX6_drift_48 : decode cX6_drift 48 = .ok (.iload_n 1, 1) := by decide +kernel
theorem dX6_drift_49 : decode cX6_drift 49 = .ok (.istore 5, 2) := by decide +kernel
theorem dX6_drift_51 : decode cX6_drift 51 = .ok (.iconst 0, 1) := by decide +kernel
theorem dX6_drift_52 : decode cX6_drift 52 = .ok (.istore 6, 2) := by decide +kernel
theorem dX6_drift_54 : decode cX6_drift 54 = .ok (.iload 6, 2) := by decide +kernel
theorem dX6_drift_56 : decode cX6_drift 56 = .ok (.iload_n 2, 1) := by decide +kernel
theorem dX6_drift_57 : decode cX6_drift 57 = .ok (.if_icmp .ge 69, 3) := by decide +kernel
theorem dX6_drift_60 : decode cX6_drift 60 = .ok (.iload 5, 2) := by decide +kernel
theorem dX6_drift_62 : decode cX6_drift 62 = .ok (.ldc 224, 2) := by decide +kernel
theorem dX6_drift_64 : decode cX6_drift 64 = .ok (.imul, 1) := by decide +kernel
theorem dX6_drift_65 : decode cX6_drift 65 = .ok (.sipush 12345, 3) := by decide +kernel
theorem dX6_drift_68 : decode cX6_drift 68 = .ok (.iadd, 1) := by decide +kernel
theorem dX6_drift_69 : decode cX6_drift 69 = .ok (.istore 5, 2) := by decide +kernel
theorem dX6_drift_71 : decode cX6_drift 71 = .ok (.iload 5, 2) := by decide +kernel
theorem dX6_drift_73 : decode cX6_drift 73 = .ok (.bipush 16, 2) := by decide +kernel
theorem dX6_drift_75 : decode cX6_drift 75 = .ok (.iushr, 1) := by decide +kernel
theorem dX6_drift_76 : decode cX6_drift 76 = .ok (.sipush 32767, 3) := by decide +kernel
theorem dX6_drift_79 : decode cX6_drift 79 = .ok (.iand, 1) := by decide +kernel
theorem dX6_drift_80 : decode cX6_drift 80 = .ok (.istore 7, 2) := by decide +kernel
theorem dX6_drift_82 : decode cX6_drift 82 = .ok (.aload_n 0, 1) := by decide +kernel
theorem dX6_drift_83 : decode cX6_drift 83 = .ok (.getfield 37, 3) := by decide +kernel
theorem dX6_drift_86 : decode cX6_drift 86 = .ok (.iload 7, 2) := by decide +kernel
theorem dX6_drift_88 : decode cX6_drift 88 = .ok (.aload_n 0, 1) := by decide +kernel
theorem dX6_drift_89 : decode cX6_drift 89 = .ok (.getfield 26, 3) := by decide +kernel
theorem dX6_drift_92 : decode cX6_drift 92 = .ok (.getfield 93, 3) := by decide +kernel
theorem dX6_drift_95 : decode cX6_drift 95 = .ok (.irem, 1) := by decide +kernel
theorem dX6_drift_96 : decode cX6_drift 96 = .ok (.iload 7, 2) := by decide +kernel
theorem dX6_drift_98 : decode cX6_drift 98 = .ok (.bipush 10, 2) := by decide +kernel
theorem dX6_drift_100 : decode cX6_drift 100 = .ok (.irem, 1) := by decide +kernel
theorem dX6_drift_101 : decode cX6_drift 101 = .ok (.invokevirtual 202, 3) := by decide +kernel
theorem dX6_drift_104 : decode cX6_drift 104 = .ok (.iload 4, 2) := by decide +kernel
theorem dX6_drift_106 : decode cX6_drift 106 = .ok (.aload_n 0, 1) := by decide +kernel
theorem dX6_drift_107 : decode cX6_drift 107 = .ok (.getfield 37, 3) := by decide +kernel
theorem dX6_drift_110 : decode cX6_drift 110 = .ok (.aload_n 0, 1) := by decide +kernel
theorem dX6_drift_111 : decode cX6_drift 111 = .ok (.getfield 19, 3) := by decide +kernel
theorem dX6_drift_114 : decode cX6_drift 114 = .ok (.invokevirtual 171, 3) := by decide +kernel
theorem dX6_drift_117 : decode cX6_drift 117 = .ok (.iadd, 1) := by decide +kernel
theorem dX6_drift_118 : decode cX6_drift 118 = .ok (.istore 4, 2) := by decide +kernel
theorem dX6_drift_120 : decode cX6_drift 120 = .ok (.iinc 6 1, 3) := by decide +kernel
theorem dX6_drift_123 : decode cX6_drift 123 = .ok (.goto (-69), 3) := by decide +kernel
theorem dX6_drift_126 : decode cX6_drift 126 = .ok (.iload_n 3, 1) := by decide +kernel
theorem dX6_drift_127 : decode cX6_drift 127 = .ok (.ifCond .ne 8, 3) := by decide +kernel
theorem dX6_drift_130 : decode cX6_drift 130 = .ok (.iload 4, 2) := by decide +kernel
theorem dX6_drift_132 : decode cX6_drift 132 = .ok (.goto 10, 3) := by decide +kernel
theorem dX6_drift_135 : decode cX6_drift 135 = .ok (.aload_n 0, 1) := by decide +kernel
theorem dX6_drift_136 : decode cX6_drift 136 = .ok (.getfield 37, 3) := by decide +kernel
theorem dX6_drift_139 : decode cX6_drift 139 = .ok (.invokevirtual 225, 3) := by decide +kernel
theorem dX6_drift_142 : decode cX6_drift 142 = .ok (.ireturn, 1) := by decide +kernel
set_option maxRecDepth 20000 in
theorem ggX6_keep_X6_isWithin : GoodIn wsX6_keep wsX6_isWithin := goodIn_r _ [10] (by decide +kernel) (by decide +kernel)
set_option maxRecDepth 20000 in
theorem gX6_keep_X6_isWithin : GoodIn wsX6_keep (va_wsS RX6 58 yX6_isWithin wsX6_isWithin) := goodIn_app (goodIn_of _ (by decide +kernel)) ggX6_keep_X6_isWithin
set_option maxRecDepth 20000 in
theorem ggX6_keep_X1_copyFrom : GoodIn wsX6_keep wsX1_copyFrom := goodIn_r _ [15, 16, 17, 18, 19, 20, 21, 22, 23, 24, 25, 26, 27, 28, 29, 30, 53, 54, 55, 56, 57, 58, 59, 60, 61, 62, 63] (by decide +kernel) (by decide +kernel)
set_option maxRecDepth 20000 in
theorem gX6_keep_X1_copyFrom : GoodIn wsX6_keep (wsV RX6 83 RX1 yX1_copyFrom wsX1_copyFrom) := goodIn_app (goodIn_of _ (by decide +kernel)) ggX6_keep_X1_copyFrom
set_option maxRecDepth 20000 in
theorem ggX6_keep_X2_copyFrom : GoodIn wsX6_keep wsX2_copyFrom := goodIn_r _ [35, 36, 37, 38, 19, 20, 21, 39, 40, 64, 65, 66, 67] (by decide +kernel) (by decide +kernel)
set_option maxRecDepth 20000 in
theorem gX6_keep_X2_copyFrom : GoodIn wsX6_keep (wsV RX6 230 RX2 yX2_copyFrom wsX2_copyFrom) := goodIn_app (goodIn_of _ (by decide +kernel)) ggX6_keep_X2_copyFrom
theorem dX6_keep_0 : decode cX6_keep 0 = .ok (.iload_n 1, 1) := by decide +kernel
theorem dX6_keep_1 : decode cX6_keep 1 = .ok (.iconst 1, 1) := by decide +kernel
theorem dX6_keep_2 : decode cX6_keep 2 = .ok (.invokestatic 58, 3) := by decide +kernel
theorem dX6_keep_5 : decode cX6_keep 5 = .ok (.ifCond .ne 5, 3) := by decide +kernel
theorem dX6_keep_8 : decode cX6_keep 8 = .ok (.iconst (-1), 1) := by decide +kernel
theorem dX6_keep_9 : decode cX6_keep 9 = .ok (.ireturn, 1) := by decide +kernel
theorem dX6_keep_10 : decode cX6_keep 10 = .ok (.aload_n 0, 1) := by decide +kernel
theorem dX6_keep_11 : decode cX6_keep 11 = .ok (.getfield 46, 3) := by decide +kernel
theorem dX6_keep_14 : decode cX6_keep 14 = .ok (.iload_n 1, 1) := by decide +kernel
theorem dX6_keep_15 : decode cX6_keep 15 = .ok (.aaload, 1) := by decide +kernel
theorem dX6_keep_16 : decode cX6_keep 16 = .ok (.astore_n 2, 1) := by decide +kernel
theorem dX6_keep_17 : decode cX6_keep 17 = .ok (.aload_n 2, 1) := by decide +kernel
theorem dX6_keep_18 : decode cX6_keep 18 = .ok (.getfield 89, 3) := by decide +kernel
theorem dX6_keep_21 : decode cX6_keep 21 = .ok (.ifCond .eq 7, 3) := by decide +kernel
theorem dX6_keep_24 : decode cX6_keep 24 = .ok (.iconst 1, 1) := by decide +kernel
theorem dX6_keep_25 : decode cX6_keep 25 = .ok (.goto 4, 3) := by decide +kernel
theorem dX6_keep_28 : decode cX6_keep 28 = .ok (.iconst 0, 1) := by decide +kernel
theorem dX6_keep_29 : decode cX6_keep 29 = .ok (.istore_n 3, 1) := by decide +kernel
theorem dX6_keep_30 : decode cX6_keep 30 = .ok (.aload_n 2, 1) := by decide +kernel
theorem dX6_keep_31 : decode cX6_keep 31 = .ok (.getfield 228, 3) := by decide +kernel
theorem dX6_keep_34 : decode cX6_keep 34 = .ok (.aload_n 0, 1) := by decide +kernel
theorem dX6_keep_35 : decode cX6_keep 35 = .ok (.getfield 26, 3) := by decide +kernel
theorem dX6_keep_38 : decode cX6_keep 38 = .ok (.invokevirtual 83, 3) := by decide +kernel
theorem dX6_keep_41 : decode cX6_keep 41 = .ok (.aload_n 2, 1) := by decide +kernel
theorem dX6_keep_42 : decode cX6_keep 42 = .ok (.getfield 229, 3) := by decide +kernel
theorem dX6_keep_45 : decode cX6_keep 45 = .ok (.aload_n 0, 1) := by decide +kernel
theorem dX6_keep_46 : decode cX6_keep 46 = .ok (.getfield 33, 3) := by decide +kernel
theorem dX6_keep_49 : decode cX6_keep 49 = .ok (.invokevirtual 230, 3) := by decide +kernel
theorem dX6_keep_52 : decode cX6_keep 52 = .ok (.aload_n 2, 1) := by decide +kernel
theorem dX6_keep_53 : decode cX6_keep 53 = .ok (.iconst 1, 1) := by decide +kernel
theorem dX6_keep_54 : decode cX6_keep 54 = .ok (.putfield 89, 3) := by decide +kernel
theorem dX6_keep_57 : decode cX6_keep 57 = .ok (.iload_n 3, 1) := by decide +kernel
theorem dX6_keep_58 : decode cX6_keep 58 = .ok (.ireturn, 1) := by decide +kernel
set_option maxRecDepth 20000 in
theorem ggX6_back_X6_isWithin : GoodIn wsX6_back wsX6_isWithin := goodIn_r _ [11] (by decide +kernel) (by decide +kernel)
set_option maxRecDepth 20000 in
theorem gX6_back_X6_isWithin : GoodIn wsX6_back (va_wsS RX6 58 yX6_isWithin wsX6_isWithin) := goodIn_app (goodIn_of _ (by decide +kernel)) ggX6_back_X6_isWithin
set_option maxRecDepth 20000 in
theorem ggX6_back_X1_copyFrom : GoodIn wsX6_back wsX1_copyFrom := goodIn_r _ [16, 17, 18, 19, 20, 21, 22, 23, 24, 25, 26, 27, 28, 29, 30, 31, 54, 55, 56, 57, 58, 59, 60, 61, 62, 63, 64] (by decide +kernel) (by decide +kernel)
set_option maxRecDepth 20000 in
theorem gX6_back_X1_copyFrom : GoodIn wsX6_back (wsV RX6 83 RX1 yX1_copyFrom wsX1_copyFrom) := goodIn_app (goodIn_of _ (by decide +kernel)) ggX6_back_X1_copyFrom
set_option maxRecDepth 20000 in
theorem ggX6_back_X2_copyFrom : GoodIn wsX6_back wsX2_copyFrom := goodIn_r _ [36, 37, 38, 39, 20, 21, 22, 40, 41, 65, 66, 67, 68] (by decide +kernel) (by decide +kernel)
set_option maxRecDepth 20000 in
theorem gX6_back_X2_copyFrom : GoodIn wsX6_back (wsV RX6 230 RX2 yX2_copyFrom wsX2_copyFrom) := goodIn_app (goodIn_of _ (by decide +kernel)) ggX6_back_X2_copyFrom
theorem dX6_back_0 : decode cX6_back 0 = .ok (.iload_n 1, 1) := by decide +kernel
theorem dX6_back_1 : decode cX6_back 1 = .ok (.iconst 1, 1) := by decide +kernel
theorem dX6_back_2 : decode cX6_back 2 = .ok (.invokestatic 58, 3) := by decide +kernel
theorem dX6_back_5 : decode cX6_back 5 = .ok (.ifCond .ne 5, 3) := by decide +kernel
theorem dX6_back_8 : decode cX6_back 8 = .ok (.iconst (-1), 1) := by decide +kernel
theorem dX6_back_9 : decode cX6_back 9 = .ok (.ireturn, 1) := by decide +kernel
theorem dX6_back_10 : decode cX6_back 10 = .ok (.aload_n 0, 1) := by decide +kernel
theorem dX6_back_11 : decode cX6_back 11 = .ok (.getfield 46, 3) := by decide +kernel
theorem dX6_back_14 : decode cX6_back 14 = .ok (.iload_n 1, 1) := by decide +kernel
theorem dX6_back_15 : decode cX6_back 15 = .ok (.aaload, 1) := by decide +kernel
theorem dX6_back_16 : decode cX6_back 16 = .ok (.astore_n 2, 1) := by decide +kernel
theorem dX6_back_17 : decode cX6_back 17 = .ok (.aload_n 2, 1) := by decide +kernel
theorem dX6_back_18 : decode cX6_back 18 = .ok (.getfield 89, 3) := by decide +kernel
theorem dX6_back_21 : decode cX6_back 21 = .ok (.ifCond .ne 6, 3) := by decide +kernel
theorem dX6_back_24 : decode cX6_back 24 = .ok (.bipush (-2), 2) := by decide +kernel
theorem dX6_back_26 : decode cX6_back 26 = .ok (.ireturn, 1) := by decide +kernel
theorem dX6_back_27 : decode cX6_back 27 = .ok (.aload_n 0, 1) := by decide +kernel
theorem dX6_back_28 : decode cX6_back 28 = .ok (.getfield 26, 3) := by decide +kernel
theorem dX6_back_31 : decode cX6_back 31 = .ok (.aload_n 2, 1) := by decide +kernel
theorem dX6_back_32 : decode cX6_back 32 = .ok (.getfield 228, 3) := by decide +kernel
theorem dX6_back_35 : decode cX6_back 35 = .ok (.invokevirtual 83, 3) := by decide +kernel
theorem dX6_back_38 : decode cX6_back 38 = .ok (.aload_n 0, 1) := by decide +kernel
theorem dX6_back_39 : decode cX6_back 39 = .ok (.getfield 33, 3) := by decide +kernel
theorem dX6_back_42 : decode cX6_back 42 = .ok (.aload_n 2, 1) := by decide +kernel
theorem dX6_back_43 : decode cX6_back 43 = .ok (.getfield 229, 3) := by decide +kernel
theorem dX6_back_46 : decode cX6_back 46 = .ok (.invokevirtual 230, 3) := by decide +kernel
theorem dX6_back_49 : decode cX6_back 49 = .ok (.aload_n 0, 1) := by decide +kernel
theorem dX6_back_50 : decode cX6_back 50 = .ok (.getfield 26, 3) := by decide +kernel
theorem dX6_back_53 : decode cX6_back 53 = .ok (.getfield 108, 3) := by decide +kernel
theorem dX6_back_56 : decode cX6_back 56 = .ok (.ireturn, 1) := by decide +kernel
set_option maxRecDepth 20000 in
theorem ggX6_sheet_X6_isWithin : GoodIn wsX6_sheet wsX6_isWithin := goodIn_r _ [5] (by decide +kernel) (by decide +kernel)
set_option maxRecDepth 20000 in
theorem gX6_sheet_X6_isWithin : GoodIn wsX6_sheet (va_wsS RX6 58 yX6_isWithin wsX6_isWithin) := goodIn_app (goodIn_of _ (by decide +kernel)) ggX6_sheet_X6_isWithin
set_option maxRecDepth 20000 in
theorem ggX6_sheet_X4_renew : GoodIn wsX6_sheet wsX4_renew := goodIn_r _ [10, 11, 12, 13, 14, 15, 16, 17, 27, 28, 29] (by decide +kernel) (by decide +kernel)
set_option maxRecDepth 20000 in
theorem gX6_sheet_X4_renew : GoodIn wsX6_sheet (wsV RX6 233 RX4 yX4_renew wsX4_renew) := goodIn_app (goodIn_of _ (by decide +kernel)) ggX6_sheet_X4_renew
theorem dX6_sheet_0 : decode cX6_sheet 0 = .ok (.iload_n 1, 1) := by decide +kernel
theorem dX6_sheet_1 : decode cX6_sheet 1 = .ok (.iconst 3, 1) := by decide +kernel
theorem dX6_sheet_2 : decode cX6_sheet 2 = .ok (.invokestatic 58, 3) := by decide +kernel
theorem dX6_sheet_5 : decode cX6_sheet 5 = .ok (.ifCond .eq 17, 3) := by decide +kernel
theorem dX6_sheet_8 : decode cX6_sheet 8 = .ok (.iload_n 2, 1) := by decide +kernel
theorem dX6_sheet_9 : decode cX6_sheet 9 = .ok (.iconst 2, 1) := by decide +kernel
theorem dX6_sheet_10 : decode cX6_sheet 10 = .ok (.invokestatic 58, 3) := by decide +kernel
theorem dX6_sheet_13 : decode cX6_sheet 13 = .ok (.ifCond .eq 9, 3) := by decide +kernel
theorem dX6_sheet_16 : decode cX6_sheet 16 = .ok (.iload_n 3, 1) := by decide +kernel
theorem dX6_sheet_17 : decode cX6_sheet 17 = .ok (.bipush 40, 2) := by decide +kernel
theorem dX6_sheet_19 : decode cX6_sheet 19 = .ok (.if_icmp .le 5, 3) := by decide +kernel
theorem dX6_sheet_22 : decode cX6_sheet 22 = .ok (.iconst (-1), 1) := by decide +kernel
theorem dX6_sheet_23 : decode cX6_sheet 23 = .ok (.ireturn, 1) := by decide +kernel
theorem dX6_sheet_24 : decode cX6_sheet 24 = .ok (.iload_n 3, 1) := by decide +kernel
theorem dX6_sheet_25 : decode cX6_sheet 25 = .ok (.ifCond .ge 6, 3) := by decide +kernel
theorem dX6_sheet_28 : decode cX6_sheet 28 = .ok (.bipush (-14), 2) := by decide +kernel
theorem dX6_sheet_30 : decode cX6_sheet 30 = .ok (.ireturn, 1) := by decide +kernel
theorem dX6_sheet_31 : decode cX6_sheet 31 = .ok (.aload_n 0, 1) := by decide +kernel
theorem dX6_sheet_32 : decode cX6_sheet 32 = .ok (.getfield 52, 3) := by decide +kernel
theorem dX6_sheet_35 : decode cX6_sheet 35 = .ok (.iload_n 1, 1) := by decide +kernel
theorem dX6_sheet_36 : decode cX6_sheet 36 = .ok (.aaload, 1) := by decide +kernel
theorem dX6_sheet_37 : decode cX6_sheet 37 = .ok (.iload_n 2, 1) := by decide +kernel
theorem dX6_sheet_38 : decode cX6_sheet 38 = .ok (.iload_n 3, 1) := by decide +kernel
theorem dX6_sheet_39 : decode cX6_sheet 39 = .ok (.invokevirtual 233, 3) := by decide +kernel
theorem dX6_sheet_42 : decode cX6_sheet 42 = .ok (.iconst 1, 1) := by decide +kernel
theorem dX6_sheet_43 : decode cX6_sheet 43 = .ok (.ireturn, 1) := by decide +kernel
set_option maxRecDepth 20000 in
theorem ggX6_lay_X6_isWithin : GoodIn wsX6_lay wsX6_isWithin := goodIn_r _ [6] (by decide +kernel) (by decide +kernel)
set_option maxRecDepth 20000 in
theorem gX6_lay_X6_isWithin : GoodIn wsX6_lay (va_wsS RX6 58 yX6_isWithin wsX6_isWithin) := goodIn_app (goodIn_of _ (by decide +kernel)) ggX6_lay_X6_isWithin
set_option maxRecDepth 20000 in
theorem ggX6_lay_X4_faultAt : GoodIn wsX6_lay wsX4_faultAt := goodIn_r _ [11, 12, 13, 28, 29, 30] (by decide +kernel) (by decide +kernel)
set_option maxRecDepth 20000 in
theorem gX6_lay_X4_faultAt : GoodIn wsX6_lay (wsV RX6 239 RX4 yX4_faultAt wsX4_faultAt) := goodIn_app (goodIn_of _ (by decide +kernel)) ggX6_lay_X4_faultAt
set_option maxRecDepth 20000 in
theorem ggX6_lay_X4_put : GoodIn wsX6_lay wsX4_put := goodIn_r _ [17, 12, 18, 28, 29, 30] (by decide +kernel) (by decide +kernel)
set_option maxRecDepth 20000 in
theorem gX6_lay_X4_put : GoodIn wsX6_lay (wsV RX6 242 RX4 yX4_put wsX4_put) := goodIn_app (goodIn_of _ (by decide +kernel)) ggX6_lay_X4_put
theorem dX6_lay_0 : decode cX6_lay 0 = .ok (.iload_n 1, 1) := by decide +kernel
theorem dX6_lay_1 : decode cX6_lay 1 = .ok (.iconst 3, 1) := by decide +kernel
theorem dX6_lay_2 : decode cX6_lay 2 = .ok (.invokestatic 58, 3) := by decide +kernel
theorem dX6_lay_5 : decode cX6_lay 5 = .ok (.ifCond .ne 5, 3) := by decide +kernel
theorem dX6_lay_8 : decode cX6_lay 8 = .ok (.iconst (-1), 1) := by decide +kernel
theorem dX6_lay_9 : decode cX6_lay 9 = .ok (.ireturn, 1) := by decide +kernel
theorem dX6_lay_10 : decode cX6_lay 10 = .ok (.aload_n 0, 1) := by decide +kernel
theorem dX6_lay_11 : decode cX6_lay 11 = .ok (.getfield 52, 3) := by decide +kernel
theorem dX6_lay_14 : decode cX6_lay 14 = .ok (.iload_n 1, 1) := by decide +kernel
theorem dX6_lay_15 : decode cX6_lay 15 = .ok (.aaload, 1) := by decide +kernel
theorem dX6_lay_16 : decode cX6_lay 16 = .ok (.astore 4, 2) := by decide +kernel
theorem dX6_lay_18 : decode cX6_lay 18 = .ok (.aload 4, 2) := by decide +kernel
theorem dX6_lay_20 : decode cX6_lay 20 = .ok (.aload 4, 2) := by decide +kernel
theorem dX6_lay_22 : decode cX6_lay 22 = .ok (.getfield 236, 3) := by decide +kernel
theorem dX6_lay_25 : decode cX6_lay 25 = .ok (.iload_n 2, 1) := by decide +kernel
theorem dX6_lay_26 : decode cX6_lay 26 = .ok (.invokevirtual 239, 3) := by decide +kernel
theorem dX6_lay_29 : decode cX6_lay 29 = .ok (.istore 5, 2) := by decide +kernel
theorem dX6_lay_31 : decode cX6_lay 31 = .ok (.iload 5, 2) := by decide +kernel
theorem dX6_lay_33 : decode cX6_lay 33 = .ok (.ifCond .eq 9, 3) := by decide +kernel
theorem dX6_lay_36 : decode cX6_lay 36 = .ok (.bipush (-10), 2) := by decide +kernel
theorem dX6_lay_38 : decode cX6_lay 38 = .ok (.iload 5, 2) := by decide +kernel
theorem dX6_lay_40 : decode cX6_lay 40 = .ok (.isub, 1) := by decide +kernel
theorem dX6_lay_41 : decode cX6_lay 41 = .ok (.ireturn, 1) := by decide +kernel
theorem dX6_lay_42 : decode cX6_lay 42 = .ok (.aload 4, 2) := by decide +kernel
theorem dX6_lay_44 : decode cX6_lay 44 = .ok (.iload_n 2, 1) := by decide +kernel
theorem dX6_lay_45 : decode cX6_lay 45 = .ok (.iload_n 3, 1) := by decide +kernel
theorem dX6_lay_46 : decode cX6_lay 46 = .ok (.invokevirtual 242, 3) := by decide +kernel
theorem dX6_lay_49 : decode cX6_lay 49 = .ok (.iconst 1, 1) := by decide +kernel
theorem dX6_lay_50 : decode cX6_lay 50 = .ok (.ireturn, 1) := by decide +kernel
set_option maxRecDepth 20000 in
theorem ggX6_read_X6_isWithin : GoodIn wsX6_read wsX6_isWithin := goodIn_r _ [9] (by decide +kernel) (by decide +kernel)
set_option maxRecDepth 20000 in
theorem gX6_read_X6_isWithin : GoodIn wsX6_read (va_wsS RX6 58 yX6_isWithin wsX6_isWithin) := goodIn_app (goodIn_of _ (by decide +kernel)) ggX6_read_X6_isWithin
set_option maxRecDepth 20000 in
theorem ggX6_read_X1_copyFrom : GoodIn wsX6_read wsX1_copyFrom := goodIn_r _ [14, 15, 16, 17, 18, 19, 20, 21, 22, 23, 24, 25, 26, 27, 28, 29, 57, 58, 59, 60, 61, 62, 63, 64, 65, 66, 67] (by decide +kernel) (by decide +kernel)
set_option maxRecDepth 20000 in
theorem gX6_read_X1_copyFrom : GoodIn wsX6_read (wsV RX6 83 RX1 yX1_copyFrom wsX1_copyFrom) := goodIn_app (goodIn_of _ (by decide +kernel)) ggX6_read_X1_copyFrom
set_option maxRecDepth 20000 in
theorem ggX6_read_X4_faultOfPair : GoodIn wsX6_read wsX4_faultOfPair := goodIn_r _ [34, 35, 36, 37, 33, 38, 39, 40, 54, 55, 56] (by decide +kernel) (by decide +kernel)
set_option maxRecDepth 20000 in
theorem gX6_read_X4_faultOfPair : GoodIn wsX6_read (wsV RX6 245 RX4 yX4_faultOfPair wsX4_faultOfPair) := goodIn_app (goodIn_of _ (by decide +kernel)) ggX6_read_X4_faultOfPair
set_option maxRecDepth 20000 in
theorem ggX6_read_X1_takeOut : GoodIn wsX6_read wsX1_takeOut := goodIn_r _ [44, 15, 22, 27, 21, 7, 8, 9, 57, 58, 59, 60, 61, 62, 63, 64, 65, 66, 67] (by decide +kernel) (by decide +kernel)
set_option maxRecDepth 20000 in
theorem gX6_read_X1_takeOut : GoodIn wsX6_read (wsV RX6 161 RX1 yX1_takeOut wsX1_takeOut) := goodIn_app (goodIn_of _ (by decide +kernel)) ggX6_read_X1_takeOut
theorem dX6_read_0 : decode cX6_read 0 = .ok (.iload_n 1, 1) := by decide +kernel
theorem dX6_read_1 : decode cX6_read 1 = .ok (.iconst 3, 1) := by decide +kernel
theorem dX6_read_2 : decode cX6_read 2 = .ok (.invokestatic 58, 3) := by decide +kernel
theorem dX6_read_5 : decode cX6_read 5 = .ok (.ifCond .eq 21, 3) := by decide +kernel
theorem dX6_read_8 : decode cX6_read 8 = .ok (.iload_n 2, 1) := by decide +kernel
theorem dX6_read_9 : decode cX6_read 9 = .ok (.iconst 2, 1) := by decide +kernel
theorem dX6_read_10 : decode cX6_read 10 = .ok (.invokestatic 58, 3) := by decide +kernel
theorem dX6_read_13 : decode cX6_read 13 = .ok (.ifCond .eq 13, 3) := by decide +kernel
theorem dX6_read_16 : decode cX6_read 16 = .ok (.iload 4, 2) := by decide +kernel
theorem dX6_read_18 : decode cX6_read 18 = .ok (.bipush 20, 2) := by decide +kernel
theorem dX6_read_20 : decode cX6_read 20 = .ok (.invokestatic 58, 3) := by decide +kernel
theorem dX6_read_23 : decode cX6_read 23 = .ok (.ifCond .ne 5, 3) := by decide +kernel
theorem dX6_read_26 : decode cX6_read 26 = .ok (.iconst (-1), 1) := by decide +kernel
theorem dX6_read_27 : decode cX6_read 27 = .ok (.ireturn, 1) := by decide +kernel
theorem dX6_read_28 : decode cX6_read 28 = .ok (.aload_n 0, 1) := by decide +kernel
theorem dX6_read_29 : decode cX6_read 29 = .ok (.getfield 52, 3) := by decide +kernel
theorem dX6_read_32 : decode cX6_read 32 = .ok (.iload_n 1, 1) := by decide +kernel
theorem dX6_read_33 : decode cX6_read 33 = .ok (.aaload, 1) := by decide +kernel
theorem dX6_read_34 : decode cX6_read 34 = .ok (.astore 5, 2) := by decide +kernel
theorem dX6_read_36 : decode cX6_read 36 = .ok (.aload_n 0, 1) := by decide +kernel
theorem dX6_read_37 : decode cX6_read 37 = .ok (.getfield 37, 3) := by decide +kernel
theorem dX6_read_40 : decode cX6_read 40 = .ok (.aload_n 0, 1) := by decide +kernel
theorem dX6_read_41 : decode cX6_read 41 = .ok (.getfield 26, 3) := by decide +kernel
theorem dX6_read_44 : decode cX6_read 44 = .ok (.invokevirtual 83, 3) := by decide +kernel
theorem dX6_read_47 : decode cX6_read 47 = .ok (.iconst 0, 1) := by decide +kernel
theorem dX6_read_48 : decode cX6_read 48 = .ok (.istore 6, 2) := by decide +kernel
theorem dX6_read_50 : decode cX6_read 50 = .ok (.iconst 0, 1) := by decide +kernel
theorem dX6_read_51 : decode cX6_read 51 = .ok (.istore 7, 2) := by decide +kernel
theorem dX6_read_53 : decode cX6_read 53 = .ok (.iconst 0, 1) := by decide +kernel
theorem dX6_read_54 : decode cX6_read 54 = .ok (.istore 8, 2) := by decide +kernel
theorem dX6_read_56 : decode cX6_read 56 = .ok (.iload 8, 2) := by decide +kernel
theorem dX6_read_58 : decode cX6_read 58 = .ok (.iload 4, 2) := by decide +kernel
theorem dX6_read_60 : decode cX6_read 60 = .ok (.if_icmp .ge 74, 3) := by decide +kernel
theorem dX6_read_63 : decode cX6_read 63 = .ok (.iload 7, 2) := by decide +kernel
theorem dX6_read_65 : decode cX6_read 65 = .ok (.ifCond .ne 69, 3) := by decide +kernel
theorem dX6_read_68 : decode cX6_read 68 = .ok (.iload_n 3, 1) := by decide +kernel
theorem dX6_read_69 : decode cX6_read 69 = .ok (.iconst 2, 1) := by decide +kernel
theorem dX6_read_70 : decode cX6_read 70 = .ok (.iload 8, 2) := by decide +kernel
theorem dX6_read_72 : decode cX6_read 72 = .ok (.imul, 1) := by decide +kernel
theorem dX6_read_73 : decode cX6_read 73 = .ok (.iadd, 1) := by decide +kernel
theorem dX6_read_74 : decode cX6_read 74 = .ok (.istore 9, 2) := by decide +kernel
theorem dX6_read_76 : decode cX6_read 76 = .ok (.aload 5, 2) := by decide +kernel
theorem dX6_read_78 : decode cX6_read 78 = .ok (.iload_n 2, 1) := by decide +kernel
theorem dX6_read_79 : decode cX6_read 79 = .ok (.iload 9, 2) := by decide +kernel
theorem dX6_read_81 : decode cX6_read 81 = .ok (.invokevirtual 245, 3) := by decide +kernel
theorem dX6_read_84 : decode cX6_read 84 = .ok (.istore 7, 2) := by decide +kernel
theorem dX6_read_86 : decode cX6_read 86 = .ok (.iload 7, 2) := by decide +kernel
theorem dX6_read_88 : decode cX6_read 88 = .ok (.ifCond .ne 40, 3) := by decide +kernel
theorem dX6_read_91 : decode cX6_read 91 = .ok (.aload_n 0, 1) := by decide +kernel
theorem dX6_read_92 : decode cX6_read 92 = .ok (.getfield 37, 3) := by decide +kernel
theorem dX6_read_95 : decode cX6_read 95 = .ok (.aload 5, 2) := by decide +kernel
theorem dX6_read_97 : decode cX6_read 97 = .ok (.getfield 248, 3) := by decide +kernel
theorem dX6_read_100 : decode cX6_read 100 = .ok (.iload 9, 2) := by decide +kernel
theorem dX6_read_102 : decode cX6_read 102 = .ok (.iaload, 1) := by decide +kernel
theorem dX6_read_103 : decode cX6_read 103 = .ok (.aload 5, 2) := by decide +kernel
theorem dX6_read_105 : decode cX6_read 105 = .ok (.getfield 248, 3) := by decide +kernel
theorem dX6_read_108 : decode cX6_read 108 = .ok (.iload 9, 2) := by decide +kernel
theorem dX6_read_110 : decode cX6_read 110 = .ok (.iconst 1, 1) := by decide +kernel
theorem dX6_read_111 : decode cX6_read 111 = .ok (.iadd, 1) := by decide +kernel
theorem dX6_read_112 : decode cX6_read 112 = .ok (.iaload, 1) := by decide +kernel
theorem dX6_read_113 : decode cX6_read 113 = .ok (.invokevirtual 161, 3) := by decide +kernel
theorem dX6_read_116 : decode cX6_read 116 = .ok (.ifCond .ge 9, 3) := by decide +kernel
theorem dX6_read_119 : decode cX6_read 119 = .ok (.bipush (-20), 2) := by decide +kernel
theorem dX6_read_121 : decode cX6_read 121 = .ok (.iload 8, 2) := by decide +kernel
theorem dX6_read_123 : decode cX6_read 123 = .ok (.isub, 1) := by decide +kernel
theorem dX6_read_124 : decode cX6_read 124 = .ok (.ireturn, 1) := by decide +kernel
theorem dX6_read_125 : decode cX6_read 125 = .ok (.iinc 6 1, 3) := by decide +kernel
theorem dX6_read_128 : decode cX6_read 128 = .ok (.iinc 8 1, 3) := by decide +kernel
theorem dX6_read_131 : decode cX6_read 131 = .ok (.goto (-75), 3) := by decide +kernel
theorem dX6_read_134 : decode cX6_read 134 = .ok (.aload_n 0, 1) := by decide +kernel
theorem dX6_read_135 : decode cX6_read 135 = .ok (.getfield 26, 3) := by decide +kernel
theorem dX6_read_138 : decode cX6_read 138 = .ok (.aload_n 0, 1) := by decide +kernel
theorem dX6_read_139 : decode cX6_read 139 = .ok (.getfield 37, 3) := by decide +kernel
theorem dX6_read_142 : decode cX6_read 142 = .ok (.invokevirtual 83, 3) := by decide +kernel
theorem dX6_read_145 : decode cX6_read 145 = .ok (.aload_n 0, 1) := by decide +kernel
theorem dX6_read_146 : decode cX6_read 146 = .ok (.iload 7, 2) := by decide +kernel
theorem dX6_read_148 : decode cX6_read 148 = .ok (.putfield 251, 3) := by decide +kernel
theorem dX6_read_151 : decode cX6_read 151 = .ok (.iload 6, 2) := by decide +kernel
theorem dX6_read_153 : decode cX6_read 153 = .ok (.ireturn, 1) := by decide +kernel
theorem dX6_torn_0 : decode cX6_torn 0 = .ok (.aload_n 0, 1) := by decide +kernel
theorem dX6_torn_1 : decode cX6_torn 1 = .ok (.getfield 251, 3) := by decide +kernel
theorem dX6_torn_4 : decode cX6_torn 4 = .ok (.ireturn, 1) := by decide +kernel
set_option maxRecDepth 20000 in
theorem ggX6_count_X1_sumInHand : GoodIn wsX6_count wsX1_sumInHand := goodIn_r _ [15, 16, 17, 54, 55, 56, 57, 58, 59, 60, 61, 62, 63, 64] (by decide +kernel) (by decide +kernel)
set_option maxRecDepth 20000 in
theorem gX6_count_X1_sumInHand : GoodIn wsX6_count (wsV RX6 225 RX1 yX1_sumInHand wsX1_sumInHand) := goodIn_app (goodIn_of _ (by decide +kernel)) ggX6_count_X1_sumInHand
set_option maxRecDepth 20000 in
theorem ggX6_count_X1_sumAtBank : GoodIn wsX6_count wsX1_sumAtBank := goodIn_r _ [21, 16, 22, 54, 55, 56, 57, 58, 59, 60, 61, 62, 63, 64] (by decide +kernel) (by decide +kernel)
set_option maxRecDepth 20000 in
theorem gX6_count_X1_sumAtBank : GoodIn wsX6_count (wsV RX6 193 RX1 yX1_sumAtBank wsX1_sumAtBank) := goodIn_app (goodIn_of _ (by decide +kernel)) ggX6_count_X1_sumAtBank
theorem dX6_count_0 : decode cX6_count 0 = .ok (.iload_n 1, 1) := by decide +kernel
theorem dX6_count_1 : decode cX6_count 1 = .ok (.tableswitch 135 0 5 #[39, 47, 55, 63, 99, 107], 39) := by decide +kernel
theorem dX6_count_40 : decode cX6_count 40 = .ok (.aload_n 0, 1) := by decide +kernel
theorem dX6_count_41 : decode cX6_count 41 = .ok (.getfield 26, 3) := by decide +kernel
theorem dX6_count_44 : decode cX6_count 44 = .ok (.invokevirtual 225, 3) := by decide +kernel
theorem dX6_count_47 : decode cX6_count 47 = .ok (.ireturn, 1) := by decide +kernel
theorem dX6_count_48 : decode cX6_count 48 = .ok (.aload_n 0, 1) := by decide +kernel
theorem dX6_count_49 : decode cX6_count 49 = .ok (.getfield 26, 3) := by decide +kernel
theorem dX6_count_52 : decode cX6_count 52 = .ok (.invokevirtual 193, 3) := by decide +kernel
theorem dX6_count_55 : decode cX6_count 55 = .ok (.ireturn, 1) := by decide +kernel
theorem dX6_count_56 : decode cX6_count 56 = .ok (.aload_n 0, 1) := by decide +kernel
theorem dX6_count_57 : decode cX6_count 57 = .ok (.getfield 33, 3) := by decide +kernel
