theorem dX7_rumour_8 : decode cX7_rumour 8 = .ok (.iconst (-1), 1) := by decide +kernel
theorem dX7_rumour_9 : decode cX7_rumour 9 = .ok (.ireturn, 1) := by decide +kernel
theorem dX7_rumour_10 : decode cX7_rumour 10 = .ok (.aload_n 0, 1) := by decide +kernel
theorem dX7_rumour_11 : decode cX7_rumour 11 = .ok (.invokevirtual 217, 3) := by decide +kernel
theorem dX7_rumour_14 : decode cX7_rumour 14 = .ok (.aload_n 0, 1) := by decide +kernel
theorem dX7_rumour_15 : decode cX7_rumour 15 = .ok (.iload_n 1, 1) := by decide +kernel
theorem dX7_rumour_16 : decode cX7_rumour 16 = .ok (.invokevirtual 228, 3) := by decide +kernel
theorem dX7_rumour_19 : decode cX7_rumour 19 = .ok (.istore_n 2, 1) := by decide +kernel
theorem dX7_rumour_20 : decode cX7_rumour 20 = .ok (.aload_n 0, 1) := by decide +kernel
theorem dX7_rumour_21 : decode cX7_rumour 21 = .ok (.invokevirtual 231, 3) := by decide +kernel
theorem dX7_rumour_24 : decode cX7_rumour 24 = .ok (.iload_n 2, 1) := by decide +kernel
theorem dX7_rumour_25 : decode cX7_rumour 25 = .ok (.ireturn, 1) := by decide +kernel
set_option maxRecDepth 20000 in
theorem ggX7_law_X7_isPart : GoodIn wsX7_law wsX7_isPart := goodIn_r _ [6, 7, 8, 5, 9] (by decide +kernel) (by decide +kernel)
set_option maxRecDepth 20000 in
theorem gX7_law_X7_isPart : GoodIn wsX7_law (va_wsS RX7 234 yX7_isPart wsX7_isPart) := goodIn_app (goodIn_of _ (by decide +kernel)) ggX7_law_X7_isPart
set_option maxRecDepth 20000 in
theorem ggX7_law_X7_in : GoodIn wsX7_law wsX7_in := goodIn_r _ [9] (by decide +kernel) (by decide +kernel)
set_option maxRecDepth 20000 in
theorem gX7_law_X7_in : GoodIn wsX7_law (va_wsS RX7 110 yX7_in wsX7_in) := goodIn_app (goodIn_of _ (by decide +kernel)) ggX7_law_X7_in
set_option maxRecDepth 20000 in
theorem ggX7_law_X7_becomes : GoodIn wsX7_law wsX7_becomes := goodIn_r _ [13, 14, 15, 16, 17, 18, 19, 20, 21, 22, 23, 24, 25, 26, 27, 28, 29, 30, 31, 32, 33, 34, 35, 36, 37, 38, 39, 40, 41, 42, 43, 44, 45, 46, 47, 48, 49, 50, 51, 52, 53] (by decide +kernel) (by decide +kernel)
set_option maxRecDepth 20000 in
theorem gX7_law_X7_becomes : GoodIn wsX7_law (wsV RX7 239 RX7 yX7_becomes wsX7_becomes) := goodIn_app (goodIn_of _ (by decide +kernel)) ggX7_law_X7_becomes
theorem dX7_law_0 : decode cX7_law 0 = .ok (.iload_n 1, 1) := by decide +kernel
theorem dX7_law_1 : decode cX7_law 1 = .ok (.invokestatic 234, 3) := by decide +kernel
theorem dX7_law_4 : decode cX7_law 4 = .ok (.ifCond .eq 25, 3) := by decide +kernel
theorem dX7_law_7 : decode cX7_law 7 = .ok (.iload_n 2, 1) := by decide +kernel
theorem dX7_law_8 : decode cX7_law 8 = .ok (.i2l, 1) := by decide +kernel
theorem dX7_law_9 : decode cX7_law 9 = .ok (.lconst 0, 1) := by decide +kernel
theorem dX7_law_10 : decode cX7_law 10 = .ok (.iload_n 1, 1) := by decide +kernel
theorem dX7_law_11 : decode cX7_law 11 = .ok (.ifCond .ne 9, 3) := by decide +kernel
theorem dX7_law_14 : decode cX7_law 14 = .ok (.ldc2_w 237, 3) := by decide +kernel
theorem dX7_law_17 : decode cX7_law 17 = .ok (.goto 6, 3) := by decide +kernel
theorem dX7_law_20 : decode cX7_law 20 = .ok (.ldc2_w 222, 3) := by decide +kernel
theorem dX7_law_23 : decode cX7_law 23 = .ok (.invokestatic 110, 3) := by decide +kernel
theorem dX7_law_26 : decode cX7_law 26 = .ok (.ifCond .ne 5, 3) := by decide +kernel
theorem dX7_law_29 : decode cX7_law 29 = .ok (.iconst (-1), 1) := by decide +kernel
theorem dX7_law_30 : decode cX7_law 30 = .ok (.ireturn, 1) := by decide +kernel
theorem dX7_law_31 : decode cX7_law 31 = .ok (.aload_n 0, 1) := by decide +kernel
theorem dX7_law_32 : decode cX7_law 32 = .ok (.iload_n 1, 1) := by decide +kernel
theorem dX7_law_33 : decode cX7_law 33 = .ok (.ifCond .ne 8, 3) := by decide +kernel
theorem dX7_law_36 : decode cX7_law 36 = .ok (.bipush 23, 2) := by decide +kernel
theorem dX7_law_38 : decode cX7_law 38 = .ok (.goto 5, 3) := by decide +kernel
theorem dX7_law_41 : decode cX7_law 41 = .ok (.bipush 24, 2) := by decide +kernel
theorem dX7_law_43 : decode cX7_law 43 = .ok (.iload_n 2, 1) := by decide +kernel
theorem dX7_law_44 : decode cX7_law 44 = .ok (.invokevirtual 239, 3) := by decide +kernel
theorem dX7_law_47 : decode cX7_law 47 = .ok (.ireturn, 1) := by decide +kernel
set_option maxRecDepth 20000 in
theorem ggX7_teach_X7_isOne : GoodIn wsX7_teach wsX7_isOne := goodIn_r _ [6, 7, 8, 9, 5, 10, 16, 17, 18, 19, 20, 21, 22, 23, 24, 25, 26, 27, 28, 29, 30, 31, 32, 33, 34, 35, 36, 37, 38, 39, 40, 41, 42, 43, 44, 45, 46, 47, 48, 49, 50, 51, 52, 53, 54] (by decide +kernel) (by decide +kernel)
set_option maxRecDepth 20000 in
theorem gX7_teach_X7_isOne : GoodIn wsX7_teach (wsV RX7 210 RX7 yX7_isOne wsX7_isOne) := goodIn_app (goodIn_of _ (by decide +kernel)) ggX7_teach_X7_isOne
set_option maxRecDepth 20000 in
theorem ggX7_teach_X7_in : GoodIn wsX7_teach wsX7_in := goodIn_r _ [10] (by decide +kernel) (by decide +kernel)
set_option maxRecDepth 20000 in
theorem gX7_teach_X7_in : GoodIn wsX7_teach (va_wsS RX7 110 yX7_in wsX7_in) := goodIn_app (goodIn_of _ (by decide +kernel)) ggX7_teach_X7_in
set_option maxRecDepth 20000 in
theorem ggX7_teach_X7_becomes : GoodIn wsX7_teach wsX7_becomes := goodIn_r _ [14, 15, 16, 17, 18, 19, 20, 21, 22, 23, 24, 25, 26, 27, 28, 29, 30, 31, 32, 33, 34, 35, 36, 37, 38, 39, 40, 41, 42, 43, 44, 45, 46, 47, 48, 49, 50, 51, 52, 53, 54] (by decide +kernel) (by decide +kernel)
set_option maxRecDepth 20000 in
theorem gX7_teach_X7_becomes : GoodIn wsX7_teach (wsV RX7 239 RX7 yX7_becomes wsX7_becomes) := goodIn_app (goodIn_of _ (by decide +kernel)) ggX7_teach_X7_becomes
theorem dX7_teach_0 : decode cX7_teach 0 = .ok (.aload_n 0, 1) := by decide +kernel
theorem dX7_teach_1 : decode cX7_teach 1 = .ok (.iload_n 1, 1) := by decide +kernel
theorem dX7_teach_2 : decode cX7_teach 2 = .ok (.invokevirtual 210, 3) := by decide +kernel
theorem dX7_teach_5 : decode cX7_teach 5 = .ok (.ifCond .eq 28, 3) := by decide +kernel
theorem dX7_teach_8 : decode cX7_teach 8 = .ok (.iload_n 2, 1) := by decide +kernel
theorem dX7_teach_9 : decode cX7_teach 9 = .ok (.i2l, 1) := by decide +kernel
theorem dX7_teach_10 : decode cX7_teach 10 = .ok (.lconst 0, 1) := by decide +kernel
theorem dX7_teach_11 : decode cX7_teach 11 = .ok (.ldc2_w 173, 3) := by decide +kernel
theorem dX7_teach_14 : decode cX7_teach 14 = .ok (.invokestatic 110, 3) := by decide +kernel
theorem dX7_teach_17 : decode cX7_teach 17 = .ok (.ifCond .eq 16, 3) := by decide +kernel
theorem dX7_teach_20 : decode cX7_teach 20 = .ok (.aload_n 0, 1) := by decide +kernel
theorem dX7_teach_21 : decode cX7_teach 21 = .ok (.iconst 4, 1) := by decide +kernel
theorem dX7_teach_22 : decode cX7_teach 22 = .ok (.iload_n 1, 1) := by decide +kernel
theorem dX7_teach_23 : decode cX7_teach 23 = .ok (.imul, 1) := by decide +kernel
theorem dX7_teach_24 : decode cX7_teach 24 = .ok (.iconst 0, 1) := by decide +kernel
theorem dX7_teach_25 : decode cX7_teach 25 = .ok (.iadd, 1) := by decide +kernel
theorem dX7_teach_26 : decode cX7_teach 26 = .ok (.iload_n 2, 1) := by decide +kernel
theorem dX7_teach_27 : decode cX7_teach 27 = .ok (.invokevirtual 239, 3) := by decide +kernel
theorem dX7_teach_30 : decode cX7_teach 30 = .ok (.goto 4, 3) := by decide +kernel
theorem dX7_teach_33 : decode cX7_teach 33 = .ok (.iconst (-1), 1) := by decide +kernel
theorem dX7_teach_34 : decode cX7_teach 34 = .ok (.ireturn, 1) := by decide +kernel
set_option maxRecDepth 20000 in
theorem ggX7_go_X7_in : GoodIn wsX7_go wsX7_in := goodIn_r _ [6] (by decide +kernel) (by decide +kernel)
set_option maxRecDepth 20000 in
theorem gX7_go_X7_in : GoodIn wsX7_go (va_wsS RX7 110 yX7_in wsX7_in) := goodIn_app (goodIn_of _ (by decide +kernel)) ggX7_go_X7_in
set_option maxRecDepth 20000 in
theorem ggX7_go_X7_starts : GoodIn wsX7_go wsX7_starts := goodIn_r _ [10, 11, 2, 61, 62, 63, 64, 65, 66, 67, 68, 69, 70, 71, 72, 73, 74, 75, 76, 77, 78, 79, 80, 81, 82, 83, 84, 85, 86, 87, 88, 89, 90, 91, 92, 93, 94, 95, 96, 97, 98, 99] (by decide +kernel) (by decide +kernel)
set_option maxRecDepth 20000 in
theorem gX7_go_X7_starts : GoodIn wsX7_go (wsV RX7 217 RX7 yX7_starts wsX7_starts) := goodIn_app (goodIn_of _ (by decide +kernel)) ggX7_go_X7_starts
set_option maxRecDepth 20000 in
theorem ggX7_go_X7_brazenIn : GoodIn wsX7_go wsX7_brazenIn := goodIn_r _ [15, 16, 17, 18, 5, 19, 20, 21, 22, 23, 11, 24, 25, 26, 27, 28, 29, 30, 31, 32, 33, 34, 35, 36, 37, 38, 39, 40, 41, 42, 43, 44, 45, 46, 47, 48, 49, 50, 51, 52, 53, 54, 55, 56, 2, 61, 62, 63, 64, 65, 66, 67, 68, 69, 70, 71, 72, 73, 74, 75, 76, 77, 78, 79, 80, 81, 82, 83, 84, 85, 86, 87, 88, 89, 90, 91, 92, 93, 94, 95, 96, 97, 98, 99] (by decide +kernel) (by decide +kernel)
set_option maxRecDepth 20000 in
theorem gX7_go_X7_brazenIn : GoodIn wsX7_go (wsV RX7 244 RX7 yX7_brazenIn wsX7_brazenIn) := goodIn_app (goodIn_of _ (by decide +kernel)) ggX7_go_X7_brazenIn
set_option maxRecDepth 20000 in
theorem ggX7_go_X7_settles : GoodIn wsX7_go wsX7_settles := goodIn_r _ [60, 2, 11, 61, 62, 63, 64, 65, 66, 67, 68, 69, 70, 71, 72, 73, 74, 75, 76, 77, 78, 79, 80, 81, 82, 83, 84, 85, 86, 87, 88, 89, 90, 91, 92, 93, 94, 95, 96, 97, 98, 99] (by decide +kernel) (by decide +kernel)
set_option maxRecDepth 20000 in
theorem gX7_go_X7_settles : GoodIn wsX7_go (wsV RX7 231 RX7 yX7_settles wsX7_settles) := goodIn_app (goodIn_of _ (by decide +kernel)) ggX7_go_X7_settles
theorem dX7_go_0 : decode cX7_go 0 = .ok (.iload_n 1, 1) := by decide +kernel
theorem dX7_go_1 : decode cX7_go 1 = .ok (.i2l, 1) := by decide +kernel
theorem dX7_go_2 : decode cX7_go 2 = .ok (.lconst 0, 1) := by decide +kernel
theorem dX7_go_3 : decode cX7_go 3 = .ok (.ldc2_w 242, 3) := by decide +kernel
theorem dX7_go_6 : decode cX7_go 6 = .ok (.invokestatic 110, 3) := by decide +kernel
theorem dX7_go_9 : decode cX7_go 9 = .ok (.ifCond .ne 5, 3) := by decide +kernel
theorem dX7_go_12 : decode cX7_go 12 = .ok (.iconst (-1), 1) := by decide +kernel
theorem dX7_go_13 : decode cX7_go 13 = .ok (.ireturn, 1) := by decide +kernel
theorem dX7_go_14 : decode cX7_go 14 = .ok (.aload_n 0, 1) := by decide +kernel
theorem dX7_go_15 : decode cX7_go 15 = .ok (.getfield 7, 3) := by decide +kernel
theorem dX7_go_18 : decode cX7_go 18 = .ok (.bipush 25, 2) := by decide +kernel
theorem dX7_go_20 : decode cX7_go 20 = .ok (.iaload, 1) := by decide +kernel
theorem dX7_go_21 : decode cX7_go 21 = .ok (.iload_n 1, 1) := by decide +kernel
theorem dX7_go_22 : decode cX7_go 22 = .ok (.iadd, 1) := by decide +kernel
theorem dX7_go_23 : decode cX7_go 23 = .ok (.bipush 99, 2) := by decide +kernel
theorem dX7_go_25 : decode cX7_go 25 = .ok (.if_icmp .le 6, 3) := by decide +kernel
theorem dX7_go_28 : decode cX7_go 28 = .ok (.bipush (-3), 2) := by decide +kernel
theorem dX7_go_30 : decode cX7_go 30 = .ok (.ireturn, 1) := by decide +kernel
theorem dX7_go_31 : decode cX7_go 31 = .ok (.aload_n 0, 1) := by decide +kernel
theorem dX7_go_32 : decode cX7_go 32 = .ok (.invokevirtual 217, 3) := by decide +kernel
theorem dX7_go_35 : decode cX7_go 35 = .ok (.aload_n 0, 1) := by decide +kernel
theorem dX7_go_36 : decode cX7_go 36 = .ok (.iload_n 1, 1) := by decide +kernel
theorem dX7_go_37 : decode cX7_go 37 = .ok (.invokevirtual 244, 3) := by decide +kernel
theorem dX7_go_40 : decode cX7_go 40 = .ok (.istore_n 2, 1) := by decide +kernel
theorem dX7_go_41 : decode cX7_go 41 = .ok (.aload_n 0, 1) := by decide +kernel
theorem dX7_go_42 : decode cX7_go 42 = .ok (.invokevirtual 231, 3) := by decide +kernel
theorem dX7_go_45 : decode cX7_go 45 = .ok (.iload_n 2, 1) := by decide +kernel
theorem dX7_go_46 : decode cX7_go 46 = .ok (.ireturn, 1) := by decide +kernel
set_option maxRecDepth 20000 in
theorem ggX7_ahead_X7_isOne : GoodIn wsX7_ahead wsX7_isOne := goodIn_r _ [9, 10, 11, 12, 8, 13, 54, 55, 56, 57, 58, 59, 60, 61, 62, 63, 64, 65, 66, 67, 68, 69, 70, 71, 72, 73, 74, 75, 76, 77, 78, 79, 80, 81, 82, 83, 84, 85, 86, 87, 88, 89, 90, 91, 92] (by decide +kernel) (by decide +kernel)
set_option maxRecDepth 20000 in
theorem gX7_ahead_X7_isOne : GoodIn wsX7_ahead (wsV RX7 210 RX7 yX7_isOne wsX7_isOne) := goodIn_app (goodIn_of _ (by decide +kernel)) ggX7_ahead_X7_isOne
set_option maxRecDepth 20000 in
theorem ggX7_ahead_X7_in : GoodIn wsX7_ahead wsX7_in := goodIn_r _ [13] (by decide +kernel) (by decide +kernel)
set_option maxRecDepth 20000 in
theorem gX7_ahead_X7_in : GoodIn wsX7_ahead (va_wsS RX7 110 yX7_in wsX7_in) := goodIn_app (goodIn_of _ (by decide +kernel)) ggX7_ahead_X7_in
set_option maxRecDepth 20000 in
theorem ggX7_ahead_X7_starts : GoodIn wsX7_ahead wsX7_starts := goodIn_r _ [17, 4, 3, 54, 55, 56, 57, 58, 59, 60, 61, 62, 63, 64, 65, 66, 67, 68, 69, 70, 71, 72, 73, 74, 75, 76, 77, 78, 79, 80, 81, 82, 83, 84, 85, 86, 87, 88, 89, 90, 91, 92] (by decide +kernel) (by decide +kernel)
set_option maxRecDepth 20000 in
theorem gX7_ahead_X7_starts : GoodIn wsX7_ahead (wsV RX7 217 RX7 yX7_starts wsX7_starts) := goodIn_app (goodIn_of _ (by decide +kernel)) ggX7_ahead_X7_starts
set_option maxRecDepth 20000 in
theorem ggX7_ahead_X7_weeksGo : GoodIn wsX7_ahead wsX7_weeksGo := goodIn_r _ [21, 22, 23, 24, 8, 25, 4, 26, 27, 28, 29, 30, 31, 10, 32, 33, 34, 35, 36, 37, 38, 39, 40, 41, 42, 43, 44, 45, 46, 47, 48, 49, 50, 51, 52, 53, 54, 55, 56, 57, 58, 59, 60, 61, 62, 63, 64, 65, 66, 67, 68, 69, 70, 71, 72, 73, 74, 75, 76, 77, 78, 79, 80, 81, 82, 83, 84, 85, 86, 87, 88, 89, 90, 91, 92] (by decide +kernel) (by decide +kernel)
set_option maxRecDepth 20000 in
theorem gX7_ahead_X7_weeksGo : GoodIn wsX7_ahead (wsV RX7 204 RX7 yX7_weeksGo wsX7_weeksGo) := goodIn_app (goodIn_of _ (by decide +kernel)) ggX7_ahead_X7_weeksGo
set_option maxRecDepth 20000 in
theorem ggX7_ahead_X7_of : GoodIn wsX7_ahead wsX7_of := goodIn_r _ [40, 4, 54, 55, 56, 57, 58, 59, 60, 61, 62, 63, 64, 65, 66, 67, 68, 69, 70, 71, 72, 73, 74, 75, 76, 77, 78, 79, 80, 81, 82, 83, 84, 85, 86, 87, 88, 89, 90, 91, 92] (by decide +kernel) (by decide +kernel)
set_option maxRecDepth 20000 in
theorem gX7_ahead_X7_of : GoodIn wsX7_ahead (wsV RX7 182 RX7 yX7_of wsX7_of) := goodIn_app (goodIn_of _ (by decide +kernel)) ggX7_ahead_X7_of
theorem dX7_ahead_0 : decode cX7_ahead 0 = .ok (.aload_n 0, 1) := by decide +kernel
theorem dX7_ahead_1 : decode cX7_ahead 1 = .ok (.iload_n 1, 1) := by decide +kernel
theorem dX7_ahead_2 : decode cX7_ahead 2 = .ok (.invokevirtual 210, 3) := by decide +kernel
theorem dX7_ahead_5 : decode cX7_ahead 5 = .ok (.ifCond .eq 27, 3) := by decide +kernel
theorem dX7_ahead_8 : decode cX7_ahead 8 = .ok (.iload_n 2, 1) := by decide +kernel
theorem dX7_ahead_9 : decode cX7_ahead 9 = .ok (.i2l, 1) := by decide +kernel
theorem dX7_ahead_10 : decode cX7_ahead 10 = .ok (.lconst 0, 1) := by decide +kernel
theorem dX7_ahead_11 : decode cX7_ahead 11 = .ok (.ldc2_w 242, 3) := by decide +kernel
theorem dX7_ahead_14 : decode cX7_ahead 14 = .ok (.invokestatic 110, 3) := by decide +kernel
theorem dX7_ahead_17 : decode cX7_ahead 17 = .ok (.ifCond .eq 15, 3) := by decide +kernel
theorem dX7_ahead_20 : decode cX7_ahead 20 = .ok (.iload_n 3, 1) := by decide +kernel
theorem dX7_ahead_21 : decode cX7_ahead 21 = .ok (.i2l, 1) := by decide +kernel
theorem dX7_ahead_22 : decode cX7_ahead 22 = .ok (.lconst 0, 1) := by decide +kernel
theorem dX7_ahead_23 : decode cX7_ahead 23 = .ok (.ldc2_w 173, 3) := by decide +kernel
theorem dX7_ahead_26 : decode cX7_ahead 26 = .ok (.invokestatic 110, 3) := by decide +kernel
theorem dX7_ahead_29 : decode cX7_ahead 29 = .ok (.ifCond .ne 5, 3) := by decide +kernel
theorem dX7_ahead_32 : decode cX7_ahead 32 = .ok (.iconst (-1), 1) := by decide +kernel
theorem dX7_ahead_33 : decode cX7_ahead 33 = .ok (.ireturn, 1) := by decide +kernel
theorem dX7_ahead_34 : decode cX7_ahead 34 = .ok (.aload_n 0, 1) := by decide +kernel
theorem dX7_ahead_35 : decode cX7_ahead 35 = .ok (.invokevirtual 217, 3) := by decide +kernel
theorem dX7_ahead_38 : decode cX7_ahead 38 = .ok (.aload_n 0, 1) := by decide +kernel
theorem dX7_ahead_39 : decode cX7_ahead 39 = .ok (.iload_n 2, 1) := by decide +kernel
theorem dX7_ahead_40 : decode cX7_ahead 40 = .ok (.invokevirtual 204, 3) := by decide +kernel
theorem dX7_ahead_43 : decode cX7_ahead 43 = .ok (.iload_n 3, 1) := by decide +kernel
theorem dX7_ahead_44 : decode cX7_ahead 44 = .ok (.ifCond .ne 12, 3) := by decide +kernel
theorem dX7_ahead_47 : decode cX7_ahead 47 = .ok (.aload_n 0, 1) := by decide +kernel
theorem dX7_ahead_48 : decode cX7_ahead 48 = .ok (.iload_n 1, 1) := by decide +kernel
theorem dX7_ahead_49 : decode cX7_ahead 49 = .ok (.iconst 1, 1) := by decide +kernel
theorem dX7_ahead_50 : decode cX7_ahead 50 = .ok (.invokevirtual 182, 3) := by decide +kernel
theorem dX7_ahead_53 : decode cX7_ahead 53 = .ok (.goto 49, 3) := by decide +kernel
theorem dX7_ahead_56 : decode cX7_ahead 56 = .ok (.iload_n 3, 1) := by decide +kernel
theorem dX7_ahead_57 : decode cX7_ahead 57 = .ok (.iconst 1, 1) := by decide +kernel
theorem dX7_ahead_58 : decode cX7_ahead 58 = .ok (.if_icmp .ne 12, 3) := by decide +kernel
theorem dX7_ahead_61 : decode cX7_ahead 61 = .ok (.aload_n 0, 1) := by decide +kernel
theorem dX7_ahead_62 : decode cX7_ahead 62 = .ok (.iload_n 1, 1) := by decide +kernel
theorem dX7_ahead_63 : decode cX7_ahead 63 = .ok (.iconst 2, 1) := by decide +kernel
theorem dX7_ahead_64 : decode cX7_ahead 64 = .ok (.invokevirtual 182, 3) := by decide +kernel
theorem dX7_ahead_67 : decode cX7_ahead 67 = .ok (.goto 35, 3) := by decide +kernel
theorem dX7_ahead_70 : decode cX7_ahead 70 = .ok (.iload_n 3, 1) := by decide +kernel
theorem dX7_ahead_71 : decode cX7_ahead 71 = .ok (.iconst 2, 1) := by decide +kernel
theorem dX7_ahead_72 : decode cX7_ahead 72 = .ok (.if_icmp .ne 23, 3) := by decide +kernel
theorem dX7_ahead_75 : decode cX7_ahead 75 = .ok (.aload_n 0, 1) := by decide +kernel
theorem dX7_ahead_76 : decode cX7_ahead 76 = .ok (.iload_n 1, 1) := by decide +kernel
theorem dX7_ahead_77 : decode cX7_ahead 77 = .ok (.iconst 3, 1) := by decide +kernel
theorem dX7_ahead_78 : decode cX7_ahead 78 = .ok (.invokevirtual 182, 3) := by decide +kernel
theorem dX7_ahead_81 : decode cX7_ahead 81 = .ok (.aload_n 0, 1) := by decide +kernel
theorem dX7_ahead_82 : decode cX7_ahead 82 = .ok (.getfield 7, 3) := by decide +kernel
theorem dX7_ahead_85 : decode cX7_ahead 85 = .ok (.iconst 4, 1) := by decide +kernel
theorem dX7_ahead_86 : decode cX7_ahead 86 = .ok (.iload_n 1, 1) := by decide +kernel
theorem dX7_ahead_87 : decode cX7_ahead 87 = .ok (.imul, 1) := by decide +kernel
theorem dX7_ahead_88 : decode cX7_ahead 88 = .ok (.iconst 3, 1) := by decide +kernel
theorem dX7_ahead_89 : decode cX7_ahead 89 = .ok (.iadd, 1) := by decide +kernel
theorem dX7_ahead_90 : decode cX7_ahead 90 = .ok (.iaload, 1) := by decide +kernel
theorem dX7_ahead_91 : decode cX7_ahead 91 = .ok (.isub, 1) := by decide +kernel
theorem dX7_ahead_92 : decode cX7_ahead 92 = .ok (.goto 10, 3) := by decide +kernel
theorem dX7_ahead_95 : decode cX7_ahead 95 = .ok (.aload_n 0, 1) := by decide +kernel
theorem dX7_ahead_96 : decode cX7_ahead 96 = .ok (.getfield 13, 3) := by decide +kernel
theorem dX7_ahead_99 : decode cX7_ahead 99 = .ok (.bipush 24, 2) := by decide +kernel
theorem dX7_ahead_101 : decode cX7_ahead 101 = .ok (.iaload, 1) := by decide +kernel
theorem dX7_ahead_102 : decode cX7_ahead 102 = .ok (.ireturn, 1) := by decide +kernel
set_option maxRecDepth 20000 in
theorem ggX7_first_X7_isOne : GoodIn wsX7_first wsX7_isOne := goodIn_r _ [7, 8, 9, 10, 6, 11, 48, 49, 50, 51, 52, 53, 54, 55, 56, 57, 58, 59, 60, 61, 62, 63, 64, 65, 66, 67, 68, 69, 70, 71, 72, 73, 74, 75, 76, 77, 78, 79, 80, 81, 82, 83, 84, 85, 86] (by decide +kernel) (by decide +kernel)
set_option maxRecDepth 20000 in
theorem gX7_first_X7_isOne : GoodIn wsX7_first (wsV RX7 210 RX7 yX7_isOne wsX7_isOne) := goodIn_app (goodIn_of _ (by decide +kernel)) ggX7_first_X7_isOne
set_option maxRecDepth 20000 in
theorem ggX7_first_X7_starts : GoodIn wsX7_first wsX7_starts := goodIn_r _ [15, 2, 16, 48, 49, 50, 51, 52, 53, 54, 55, 56, 57, 58, 59, 60, 61, 62, 63, 64, 65, 66, 67, 68, 69, 70, 71, 72, 73, 74, 75, 76, 77, 78, 79, 80, 81, 82, 83, 84, 85, 86] (by decide +kernel) (by decide +kernel)
set_option maxRecDepth 20000 in
theorem gX7_first_X7_starts : GoodIn wsX7_first (wsV RX7 217 RX7 yX7_starts wsX7_starts) := goodIn_app (goodIn_of _ (by decide +kernel)) ggX7_first_X7_starts
set_option maxRecDepth 20000 in
theorem ggX7_first_X7_weekGoes : GoodIn wsX7_first wsX7_weekGoes := goodIn_r _ [20, 2, 1, 21, 22, 23, 24, 25, 8, 26, 27, 28, 6, 29, 30, 31, 32, 33, 34, 35, 36, 37, 38, 39, 40, 41, 42, 43, 44, 45, 46, 47, 48, 49, 50, 51, 52, 53, 54, 55, 56, 57, 58, 59, 60, 61, 62, 63, 64, 65, 66, 67, 68, 69, 70, 71, 72, 73, 74, 75, 76, 77, 78, 79, 80, 81, 82, 83, 84, 85, 86] (by decide +kernel) (by decide +kernel)
set_option maxRecDepth 20000 in
theorem gX7_first_X7_weekGoes : GoodIn wsX7_first (wsV RX7 201 RX7 yX7_weekGoes wsX7_weekGoes) := goodIn_app (goodIn_of _ (by decide +kernel)) ggX7_first_X7_weekGoes
theorem dX7_first_0 : decode cX7_first 0 = .ok (.aload_n 0, 1) := by decide +kernel
theorem dX7_first_1 : decode cX7_first 1 = .ok (.iload_n 1, 1) := by decide +kernel
theorem dX7_first_2 : decode cX7_first 2 = .ok (.invokevirtual 210, 3) := by decide +kernel
theorem dX7_first_5 : decode cX7_first 5 = .ok (.ifCond .ne 5, 3) := by decide +kernel
theorem dX7_first_8 : decode cX7_first 8 = .ok (.iconst (-1), 1) := by decide +kernel
theorem dX7_first_9 : decode cX7_first 9 = .ok (.ireturn, 1) := by decide +kernel
theorem dX7_first_10 : decode cX7_first 10 = .ok (.aload_n 0, 1) := by decide +kernel
theorem dX7_first_11 : decode cX7_first 11 = .ok (.invokevirtual 217, 3) := by decide +kernel
theorem dX7_first_14 : decode cX7_first 14 = .ok (.iconst 0, 1) := by decide +kernel
theorem dX7_first_15 : decode cX7_first 15 = .ok (.istore_n 2, 1) := by decide +kernel
theorem dX7_first_16 : decode cX7_first 16 = .ok (.iload_n 2, 1) := by decide +kernel
theorem dX7_first_17 : decode cX7_first 17 = .ok (.bipush 20, 2) := by decide +kernel
theorem dX7_first_19 : decode cX7_first 19 = .ok (.if_icmp .ge 35, 3) := by decide +kernel
theorem dX7_first_22 : decode cX7_first 22 = .ok (.aload_n 0, 1) := by decide +kernel
theorem dX7_first_23 : decode cX7_first 23 = .ok (.invokevirtual 201, 3) := by decide +kernel
theorem dX7_first_26 : decode cX7_first 26 = .ok (.aload_n 0, 1) := by decide +kernel
theorem dX7_first_27 : decode cX7_first 27 = .ok (.getfield 192, 3) := by decide +kernel
theorem dX7_first_30 : decode cX7_first 30 = .ok (.iload_n 1, 1) := by decide +kernel
theorem dX7_first_31 : decode cX7_first 31 = .ok (.ishr, 1) := by decide +kernel
theorem dX7_first_32 : decode cX7_first 32 = .ok (.iconst 1, 1) := by decide +kernel
theorem dX7_first_33 : decode cX7_first 33 = .ok (.iand, 1) := by decide +kernel
theorem dX7_first_34 : decode cX7_first 34 = .ok (.iconst 1, 1) := by decide +kernel
theorem dX7_first_35 : decode cX7_first 35 = .ok (.if_icmp .ne 13, 3) := by decide +kernel
theorem dX7_first_38 : decode cX7_first 38 = .ok (.aload_n 0, 1) := by decide +kernel
theorem dX7_first_39 : decode cX7_first 39 = .ok (.getfield 13, 3) := by decide +kernel
theorem dX7_first_42 : decode cX7_first 42 = .ok (.bipush 25, 2) := by decide +kernel
theorem dX7_first_44 : decode cX7_first 44 = .ok (.iaload, 1) := by decide +kernel
theorem dX7_first_45 : decode cX7_first 45 = .ok (.iconst 1, 1) := by decide +kernel
theorem dX7_first_46 : decode cX7_first 46 = .ok (.isub, 1) := by decide +kernel
theorem dX7_first_47 : decode cX7_first 47 = .ok (.ireturn, 1) := by decide +kernel
theorem dX7_first_48 : decode cX7_first 48 = .ok (.iinc 2 1, 3) := by decide +kernel
theorem dX7_first_51 : decode cX7_first 51 = .ok (.goto (-35), 3) := by decide +kernel
theorem dX7_first_54 : decode cX7_first 54 = .ok (.bipush (-4), 2) := by decide +kernel
theorem dX7_first_56 : decode cX7_first 56 = .ok (.ireturn, 1) := by decide +kernel
set_option maxRecDepth 20000 in
theorem ggX7_modest_X7_starts : GoodIn wsX7_modest wsX7_starts := goodIn_r _ [6, 7, 8, 44, 45, 46, 47, 48, 49, 50, 51, 52, 53, 54, 55, 56, 57, 58, 59, 60, 61, 62, 63, 64, 65, 66, 67, 68, 69, 70, 71, 72, 73, 74, 75, 76, 77, 78, 79, 80, 81, 82] (by decide +kernel) (by decide +kernel)
set_option maxRecDepth 20000 in
theorem gX7_modest_X7_starts : GoodIn wsX7_modest (wsV RX7 217 RX7 yX7_starts wsX7_starts) := goodIn_app (goodIn_of _ (by decide +kernel)) ggX7_modest_X7_starts
set_option maxRecDepth 20000 in
theorem ggX7_modest_X7_weekGoes : GoodIn wsX7_modest wsX7_weekGoes := goodIn_r _ [12, 7, 1, 13, 14, 15, 16, 17, 18, 19, 20, 21, 5, 22, 23, 24, 25, 26, 27, 28, 29, 30, 31, 32, 33, 34, 35, 36, 37, 38, 39, 40, 44, 45, 46, 47, 48, 49, 50, 51, 52, 53, 54, 55, 56, 57, 58, 59, 60, 61, 62, 63, 64, 65, 66, 67, 68, 69, 70, 71, 72, 73, 74, 75, 76, 77, 78, 79, 80, 81, 82] (by decide +kernel) (by decide +kernel)
set_option maxRecDepth 20000 in
theorem gX7_modest_X7_weekGoes : GoodIn wsX7_modest (wsV RX7 201 RX7 yX7_weekGoes wsX7_weekGoes) := goodIn_app (goodIn_of _ (by decide +kernel)) ggX7_modest_X7_weekGoes
set_option maxRecDepth 20000 in
theorem ggX7_modest_X7_flag : GoodIn wsX7_modest wsX7_flag := goodIn_r _ [43] (by decide +kernel) (by decide +kernel)
set_option maxRecDepth 20000 in
theorem gX7_modest_X7_flag : GoodIn wsX7_modest (va_wsS RX7 224 yX7_flag wsX7_flag) := goodIn_app (goodIn_of _ (by decide +kernel)) ggX7_modest_X7_flag
theorem dX7_modest_0 : decode cX7_modest 0 = .ok (.iconst 0, 1) := by decide +kernel
theorem dX7_modest_1 : decode cX7_modest 1 = .ok (.istore_n 1, 1) := by decide +kernel
theorem dX7_modest_2 : decode cX7_modest 2 = .ok (.aload_n 0, 1) := by decide +kernel
theorem dX7_modest_3 : decode cX7_modest 3 = .ok (.invokevirtual 217, 3) := by decide +kernel
theorem dX7_modest_6 : decode cX7_modest 6 = .ok (.iconst 0, 1) := by decide +kernel
theorem dX7_modest_7 : decode cX7_modest 7 = .ok (.istore_n 2, 1) := by decide +kernel
theorem dX7_modest_8 : decode cX7_modest 8 = .ok (.iload_n 2, 1) := by decide +kernel
theorem dX7_modest_9 : decode cX7_modest 9 = .ok (.bipush 10, 2) := by decide +kernel
theorem dX7_modest_11 : decode cX7_modest 11 = .ok (.if_icmp .ge 31, 3) := by decide +kernel
theorem dX7_modest_14 : decode cX7_modest 14 = .ok (.aload_n 0, 1) := by decide +kernel
theorem dX7_modest_15 : decode cX7_modest 15 = .ok (.invokevirtual 201, 3) := by decide +kernel
theorem dX7_modest_18 : decode cX7_modest 18 = .ok (.iload_n 1, 1) := by decide +kernel
theorem dX7_modest_19 : decode cX7_modest 19 = .ok (.aload_n 0, 1) := by decide +kernel
theorem dX7_modest_20 : decode cX7_modest 20 = .ok (.getfield 192, 3) := by decide +kernel
theorem dX7_modest_23 : decode cX7_modest 23 = .ok (.ifCond .ne 7, 3) := by decide +kernel
theorem dX7_modest_26 : decode cX7_modest 26 = .ok (.iconst 1, 1) := by decide +kernel
theorem dX7_modest_27 : decode cX7_modest 27 = .ok (.goto 4, 3) := by decide +kernel
theorem dX7_modest_30 : decode cX7_modest 30 = .ok (.iconst 0, 1) := by decide +kernel
theorem dX7_modest_31 : decode cX7_modest 31 = .ok (.invokestatic 224, 3) := by decide +kernel
theorem dX7_modest_34 : decode cX7_modest 34 = .ok (.iadd, 1) := by decide +kernel
theorem dX7_modest_35 : decode cX7_modest 35 = .ok (.istore_n 1, 1) := by decide +kernel
theorem dX7_modest_36 : decode cX7_modest 36 = .ok (.iinc 2 1, 3) := by decide +kernel
theorem dX7_modest_39 : decode cX7_modest 39 = .ok (.goto (-31), 3) := by decide +kernel
theorem dX7_modest_42 : decode cX7_modest 42 = .ok (.iload_n 1, 1) := by decide +kernel
theorem dX7_modest_43 : decode cX7_modest 43 = .ok (.ireturn, 1) := by decide +kernel
theorem dX7_isPlan_0 : decode cX7_isPlan 0 = .ok (.iconst 1, 1) := by decide +kernel
theorem dX7_isPlan_1 : decode cX7_isPlan 1 = .ok (.istore_n 2, 1) := by decide +kernel
theorem dX7_isPlan_2 : decode cX7_isPlan 2 = .ok (.iconst 0, 1) := by decide +kernel
theorem dX7_isPlan_3 : decode cX7_isPlan 3 = .ok (.istore_n 3, 1) := by decide +kernel
theorem dX7_isPlan_4 : decode cX7_isPlan 4 = .ok (.iload_n 3, 1) := by decide +kernel
theorem dX7_isPlan_5 : decode cX7_isPlan 5 = .ok (.aload_n 0, 1) := by decide +kernel
theorem dX7_isPlan_6 : decode cX7_isPlan 6 = .ok (.getfield 102, 3) := by decide +kernel
theorem dX7_isPlan_9 : decode cX7_isPlan 9 = .ok (.if_icmp .ge 54, 3) := by decide +kernel
theorem dX7_isPlan_12 : decode cX7_isPlan 12 = .ok (.iload_n 2, 1) := by decide +kernel
theorem dX7_isPlan_13 : decode cX7_isPlan 13 = .ok (.ifCond .eq 42, 3) := by decide +kernel
theorem dX7_isPlan_16 : decode cX7_isPlan 16 = .ok (.aload_n 0, 1) := by decide +kernel
theorem dX7_isPlan_17 : decode cX7_isPlan 17 = .ok (.getfield 23, 3) := by decide +kernel
theorem dX7_isPlan_20 : decode cX7_isPlan 20 = .ok (.iload_n 3, 1) := by decide +kernel
theorem dX7_isPlan_21 : decode cX7_isPlan 21 = .ok (.iaload, 1) := by decide +kernel
theorem dX7_isPlan_22 : decode cX7_isPlan 22 = .ok (.aload_n 0, 1) := by decide +kernel
theorem dX7_isPlan_23 : decode cX7_isPlan 23 = .ok (.getfield 7, 3) := by decide +kernel
theorem dX7_isPlan_26 : decode cX7_isPlan 26 = .ok (.bipush 25, 2) := by decide +kernel
theorem dX7_isPlan_28 : decode cX7_isPlan 28 = .ok (.iaload, 1) := by decide +kernel
theorem dX7_isPlan_29 : decode cX7_isPlan 29 = .ok (.if_icmp .ge 22, 3) := by decide +kernel
theorem dX7_isPlan_32 : decode cX7_isPlan 32 = .ok (.iload_n 1, 1) := by decide +kernel
theorem dX7_isPlan_33 : decode cX7_isPlan 33 = .ok (.iload_n 3, 1) := by decide +kernel
theorem dX7_isPlan_34 : decode cX7_isPlan 34 = .ok (.ishr, 1) := by decide +kernel
theorem dX7_isPlan_35 : decode cX7_isPlan 35 = .ok (.iconst 1, 1) := by decide +kernel
theorem dX7_isPlan_36 : decode cX7_isPlan 36 = .ok (.iand, 1) := by decide +kernel
theorem dX7_isPlan_37 : decode cX7_isPlan 37 = .ok (.aload_n 0, 1) := by decide +kernel
theorem dX7_isPlan_38 : decode cX7_isPlan 38 = .ok (.getfield 7, 3) := by decide +kernel
theorem dX7_isPlan_41 : decode cX7_isPlan 41 = .ok (.bipush 22, 2) := by decide +kernel
theorem dX7_isPlan_43 : decode cX7_isPlan 43 = .ok (.iaload, 1) := by decide +kernel
theorem dX7_isPlan_44 : decode cX7_isPlan 44 = .ok (.iload_n 3, 1) := by decide +kernel
theorem dX7_isPlan_45 : decode cX7_isPlan 45 = .ok (.ishr, 1) := by decide +kernel
theorem dX7_isPlan_46 : decode cX7_isPlan 46 = .ok (.iconst 1, 1) := by decide +kernel
theorem dX7_isPlan_47 : decode cX7_isPlan 47 = .ok (.iand, 1) := by decide +kernel
theorem dX7_isPlan_48 : decode cX7_isPlan 48 = .ok (.if_icmp .ne 7, 3) := by decide +kernel
theorem dX7_isPlan_51 : decode cX7_isPlan 51 = .ok (.iconst 1, 1) := by decide +kernel
theorem dX7_isPlan_52 : decode cX7_isPlan 52 = .ok (.goto 4, 3) := by decide +kernel
theorem dX7_isPlan_55 : decode cX7_isPlan 55 = .ok (.iconst 0, 1) := by decide +kernel
theorem dX7_isPlan_56 : decode cX7_isPlan 56 = .ok (.istore_n 2, 1) := by decide +kernel
theorem dX7_isPlan_57 : decode cX7_isPlan 57 = .ok (.iinc 3 1, 3) := by decide +kernel
theorem dX7_isPlan_60 : decode cX7_isPlan 60 = .ok (.goto (-56), 3) := by decide +kernel
theorem dX7_isPlan_63 : decode cX7_isPlan 63 = .ok (.iload_n 2, 1) := by decide +kernel
theorem dX7_isPlan_64 : decode cX7_isPlan 64 = .ok (.ireturn, 1) := by decide +kernel
set_option maxRecDepth 20000 in
theorem ggX7_startsBy_X7_starts : GoodIn wsX7_startsBy wsX7_starts := goodIn_r _ [6, 1, 7, 8, 9, 10, 11, 12, 13, 14, 15, 16, 17, 18, 19, 20, 21, 22, 23, 24, 25, 26, 27, 28, 29, 30, 31, 32, 33, 34, 35, 36, 37, 38, 39, 40, 41, 42, 43, 44, 45, 46] (by decide +kernel) (by decide +kernel)
set_option maxRecDepth 20000 in
theorem gX7_startsBy_X7_starts : GoodIn wsX7_startsBy (wsV RX7 217 RX7 yX7_starts wsX7_starts) := goodIn_app (goodIn_of _ (by decide +kernel)) ggX7_startsBy_X7_starts
theorem dX7_startsBy_0 : decode cX7_startsBy 0 = .ok (.aload_n 0, 1) := by decide +kernel
theorem dX7_startsBy_1 : decode cX7_startsBy 1 = .ok (.invokevirtual 217, 3) := by decide +kernel
theorem dX7_startsBy_4 : decode cX7_startsBy 4 = .ok (.aload_n 0, 1) := by decide +kernel
theorem dX7_startsBy_5 : decode cX7_startsBy 5 = .ok (.getfield 13, 3) := by decide +kernel
theorem dX7_startsBy_8 : decode cX7_startsBy 8 = .ok (.bipush 22, 2) := by decide +kernel
theorem dX7_startsBy_10 : decode cX7_startsBy 10 = .ok (.iload_n 1, 1) := by decide +kernel
theorem dX7_startsBy_11 : decode cX7_startsBy 11 = .ok (.iastore, 1) := by decide +kernel
theorem dX7_startsBy_12 : decode cX7_startsBy 12 = .ok (.return_, 1) := by decide +kernel
set_option maxRecDepth 20000 in
theorem ggX7_plan_X7_in : GoodIn wsX7_plan wsX7_in := goodIn_r _ [5] (by decide +kernel) (by decide +kernel)
set_option maxRecDepth 20000 in
theorem gX7_plan_X7_in : GoodIn wsX7_plan (va_wsS RX7 110 yX7_in wsX7_in) := goodIn_app (goodIn_of _ (by decide +kernel)) ggX7_plan_X7_in
set_option maxRecDepth 20000 in
theorem ggX7_plan_X7_isPlan : GoodIn wsX7_plan wsX7_isPlan := goodIn_r _ [9, 1, 10, 11, 68, 69, 70, 71, 72, 73, 74, 75, 76, 77, 78, 79, 80, 81, 82, 83, 84, 85, 86, 87, 88, 89, 90, 91, 92, 93, 94, 95, 96, 97, 98, 99, 100, 101, 102, 103, 104, 105, 106] (by decide +kernel) (by decide +kernel)
set_option maxRecDepth 20000 in
theorem gX7_plan_X7_isPlan : GoodIn wsX7_plan (wsV RX7 247 RX7 yX7_isPlan wsX7_isPlan) := goodIn_app (goodIn_of _ (by decide +kernel)) ggX7_plan_X7_isPlan
set_option maxRecDepth 20000 in
theorem ggX7_plan_X7_startsBy : GoodIn wsX7_plan wsX7_startsBy := goodIn_r _ [15, 16, 17, 18, 19, 4, 20, 11, 68, 69, 70, 71, 72, 73, 74, 75, 76, 77, 78, 79, 80, 81, 82, 83, 84, 85, 86, 87, 88, 89, 90, 91, 92, 93, 94, 95, 96, 97, 98, 99, 100, 101, 102, 103, 104, 105, 106] (by decide +kernel) (by decide +kernel)
set_option maxRecDepth 20000 in
theorem gX7_plan_X7_startsBy : GoodIn wsX7_plan (wsV RX7 250 RX7 yX7_startsBy wsX7_startsBy) := goodIn_app (goodIn_of _ (by decide +kernel)) ggX7_plan_X7_startsBy
set_option maxRecDepth 20000 in
theorem ggX7_plan_X7_weeksLeft : GoodIn wsX7_plan wsX7_weeksLeft := goodIn_r _ [24, 11, 68, 69, 70, 71, 72, 73, 74, 75, 76, 77, 78, 79, 80, 81, 82, 83, 84, 85, 86, 87, 88, 89, 90, 91, 92, 93, 94, 95, 96, 97, 98, 99, 100, 101, 102, 103, 104, 105, 106] (by decide +kernel) (by decide +kernel)
set_option maxRecDepth 20000 in
theorem gX7_plan_X7_weeksLeft : GoodIn wsX7_plan (wsV RX7 253 RX7 yX7_weeksLeft wsX7_weeksLeft) := goodIn_app (goodIn_of _ (by decide +kernel)) ggX7_plan_X7_weeksLeft
set_option maxRecDepth 20000 in
theorem ggX7_plan_X7_brazenIn : GoodIn wsX7_plan wsX7_brazenIn := goodIn_r _ [28, 29, 30, 31, 4, 32, 33, 34, 35, 36, 16, 37, 1, 10, 38, 39, 40, 41, 42, 43, 44, 45, 46, 47, 48, 49, 50, 51, 52, 53, 54, 55, 56, 57, 58, 59, 60, 61, 62, 63, 64, 65, 66, 67, 11, 68, 69, 70, 71, 72, 73, 74, 75, 76, 77, 78, 79, 80, 81, 82, 83, 84, 85, 86, 87, 88, 89, 90, 91, 92, 93, 94, 95, 96, 97, 98, 99, 100, 101, 102, 103, 104, 105, 106] (by decide +kernel) (by decide +kernel)
set_option maxRecDepth 20000 in
theorem gX7_plan_X7_brazenIn : GoodIn wsX7_plan (wsV RX7 244 RX7 yX7_brazenIn wsX7_brazenIn) := goodIn_app (goodIn_of _ (by decide +kernel)) ggX7_plan_X7_brazenIn
theorem dX7_plan_0 : decode cX7_plan 0 = .ok (.iload_n 1, 1) := by decide +kernel
theorem dX7_plan_1 : decode cX7_plan 1 = .ok (.i2l, 1) := by decide +kernel
theorem dX7_plan_2 : decode cX7_plan 2 = .ok (.lconst 0, 1) := by decide +kernel
theorem dX7_plan_3 : decode cX7_plan 3 = .ok (.iconst 1, 1) := by decide +kernel
theorem dX7_plan_4 : decode cX7_plan 4 = .ok (.aload_n 0, 1) := by decide +kernel
theorem dX7_plan_5 : decode cX7_plan 5 = .ok (.getfield 102, 3) := by decide +kernel
theorem dX7_plan_8 : decode cX7_plan 8 = .ok (.ishl, 1) := by decide +kernel
theorem dX7_plan_9 : decode cX7_plan 9 = .ok (.iconst 1, 1) := by decide +kernel
theorem dX7_plan_10 : decode cX7_plan 10 = .ok (.isub, 1) := by decide +kernel
theorem dX7_plan_11 : decode cX7_plan 11 = .ok (.i2l, 1) := by decide +kernel
theorem dX7_plan_12 : decode cX7_plan 12 = .ok (.invokestatic 110, 3) := by decide +kernel
theorem dX7_plan_15 : decode cX7_plan 15 = .ok (.ifCond .ne 5, 3) := by decide +kernel
theorem dX7_plan_18 : decode cX7_plan 18 = .ok (.iconst (-1), 1) := by decide +kernel
theorem dX7_plan_19 : decode cX7_plan 19 = .ok (.ireturn, 1) := by decide +kernel
theorem dX7_plan_20 : decode cX7_plan 20 = .ok (.aload_n 0, 1) := by decide +kernel
theorem dX7_plan_21 : decode cX7_plan 21 = .ok (.iload_n 1, 1) := by decide +kernel
theorem dX7_plan_22 : decode cX7_plan 22 = .ok (.invokevirtual 247, 3) := by decide +kernel
theorem dX7_plan_25 : decode cX7_plan 25 = .ok (.ifCond .ne 6, 3) := by decide +kernel
theorem dX7_plan_28 : decode cX7_plan 28 = .ok (.bipush (-2), 2) := by decide +kernel
theorem dX7_plan_30 : decode cX7_plan 30 = .ok (.ireturn, 1) := by decide +kernel
theorem dX7_plan_31 : decode cX7_plan 31 = .ok (.aload_n 0, 1) := by decide +kernel
theorem dX7_plan_32 : decode cX7_plan 32 = .ok (.iload_n 1, 1) := by decide +kernel
theorem dX7_plan_33 : decode cX7_plan 33 = .ok (.invokevirtual 250, 3) := by decide +kernel
theorem dX7_plan_36 : decode cX7_plan 36 = .ok (.aload_n 0, 1) := by decide +kernel
theorem dX7_plan_37 : decode cX7_plan 37 = .ok (.aload_n 0, 1) := by decide +kernel
theorem dX7_plan_38 : decode cX7_plan 38 = .ok (.invokevirtual 253, 3) := by decide +kernel
theorem dX7_plan_41 : decode cX7_plan 41 = .ok (.invokevirtual 244, 3) := by decide +kernel
theorem dX7_plan_44 : decode cX7_plan 44 = .ok (.ireturn, 1) := by decide +kernel
theorem dX7_bitsOf_0 : decode cX7_bitsOf 0 = .ok (.iconst 0, 1) := by decide +kernel
theorem dX7_bitsOf_1 : decode cX7_bitsOf 1 = .ok (.istore_n 1, 1) := by decide +kernel
theorem dX7_bitsOf_2 : decode cX7_bitsOf 2 = .ok (.iconst 0, 1) := by decide +kernel
theorem dX7_bitsOf_3 : decode cX7_bitsOf 3 = .ok (.istore_n 2, 1) := by decide +kernel
theorem dX7_bitsOf_4 : decode cX7_bitsOf 4 = .ok (.iload_n 2, 1) := by decide +kernel
theorem dX7_bitsOf_5 : decode cX7_bitsOf 5 = .ok (.bipush 6, 2) := by decide +kernel
theorem dX7_bitsOf_7 : decode cX7_bitsOf 7 = .ok (.if_icmp .ge 17, 3) := by decide +kernel
theorem dX7_bitsOf_10 : decode cX7_bitsOf 10 = .ok (.iload_n 1, 1) := by decide +kernel
theorem dX7_bitsOf_11 : decode cX7_bitsOf 11 = .ok (.iload_n 0, 1) := by decide +kernel
theorem dX7_bitsOf_12 : decode cX7_bitsOf 12 = .ok (.iload_n 2, 1) := by decide +kernel
theorem dX7_bitsOf_13 : decode cX7_bitsOf 13 = .ok (.ishr, 1) := by decide +kernel
theorem dX7_bitsOf_14 : decode cX7_bitsOf 14 = .ok (.iconst 1, 1) := by decide +kernel
theorem dX7_bitsOf_15 : decode cX7_bitsOf 15 = .ok (.iand, 1) := by decide +kernel
theorem dX7_bitsOf_16 : decode cX7_bitsOf 16 = .ok (.iadd, 1) := by decide +kernel
theorem dX7_bitsOf_17 : decode cX7_bitsOf 17 = .ok (.istore_n 1, 1) := by decide +kernel
theorem dX7_bitsOf_18 : decode cX7_bitsOf 18 = .ok (.iinc 2 1, 3) := by decide +kernel
theorem dX7_bitsOf_21 : decode cX7_bitsOf 21 = .ok (.goto (-17), 3) := by decide +kernel
theorem dX7_bitsOf_24 : decode cX7_bitsOf 24 = .ok (.iload_n 1, 1) := by decide +kernel
theorem dX7_bitsOf_25 : decode cX7_bitsOf 25 = .ok (.ireturn, 1) := by decide +kernel
set_option maxRecDepth 20000 in
theorem ggX7_best_X7_isPart : GoodIn wsX7_best wsX7_isPart := goodIn_r _ [6, 7, 8, 5, 9] (by decide +kernel) (by decide +kernel)
set_option maxRecDepth 20000 in
theorem gX7_best_X7_isPart : GoodIn wsX7_best (va_wsS RX7 234 yX7_isPart wsX7_isPart) := goodIn_app (goodIn_of _ (by decide +kernel)) ggX7_best_X7_isPart
set_option maxRecDepth 20000 in
theorem ggX7_best_X7_isPlan : GoodIn wsX7_best wsX7_isPlan := goodIn_r _ [13, 2, 14, 15, 75, 76, 77, 78, 79, 80, 81, 82, 83, 84, 85, 86, 87, 88, 89, 90, 91, 92, 93, 94, 95, 96, 97, 98, 99, 100, 101, 102, 103, 104, 105, 106, 107, 108, 109, 110, 111, 112, 113] (by decide +kernel) (by decide +kernel)
set_option maxRecDepth 20000 in
theorem gX7_best_X7_isPlan : GoodIn wsX7_best (wsV RX7 247 RX7 yX7_isPlan wsX7_isPlan) := goodIn_app (goodIn_of _ (by decide +kernel)) ggX7_best_X7_isPlan
set_option maxRecDepth 20000 in
theorem ggX7_best_X7_startsBy : GoodIn wsX7_best wsX7_startsBy := goodIn_r _ [19, 20, 21, 22, 23, 5, 24, 15, 75, 76, 77, 78, 79, 80, 81, 82, 83, 84, 85, 86, 87, 88, 89, 90, 91, 92, 93, 94, 95, 96, 97, 98, 99, 100, 101, 102, 103, 104, 105, 106, 107, 108, 109, 110, 111, 112, 113] (by decide +kernel) (by decide +kernel)
set_option maxRecDepth 20000 in
theorem gX7_best_X7_startsBy : GoodIn wsX7_best (wsV RX7 250 RX7 yX7_startsBy wsX7_startsBy) := goodIn_app (goodIn_of _ (by decide +kernel)) ggX7_best_X7_startsBy
set_option maxRecDepth 20000 in
theorem ggX7_best_X7_weeksLeft : GoodIn wsX7_best wsX7_weeksLeft := goodIn_r _ [28, 15, 75, 76, 77, 78, 79, 80, 81, 82, 83, 84, 85, 86, 87, 88, 89, 90, 91, 92, 93, 94, 95, 96, 97, 98, 99, 100, 101, 102, 103, 104, 105, 106, 107, 108, 109, 110, 111, 112, 113] (by decide +kernel) (by decide +kernel)
set_option maxRecDepth 20000 in
theorem gX7_best_X7_weeksLeft : GoodIn wsX7_best (wsV RX7 253 RX7 yX7_weeksLeft wsX7_weeksLeft) := goodIn_app (goodIn_of _ (by decide +kernel)) ggX7_best_X7_weeksLeft
set_option maxRecDepth 20000 in
theorem ggX7_best_X7_brazenIn : GoodIn wsX7_best wsX7_brazenIn := goodIn_r _ [32, 33, 34, 35, 5, 36, 37, 38, 39, 40, 20, 41, 2, 14, 42, 43, 44, 45, 46, 47, 48, 49, 50, 51, 52, 53, 54, 55, 56, 57, 58, 59, 60, 61, 62, 63, 64, 65, 66, 67, 68, 69, 70, 71, 15, 75, 76, 77, 78, 79, 80, 81, 82, 83, 84, 85, 86, 87, 88, 89, 90, 91, 92, 93, 94, 95, 96, 97, 98, 99, 100, 101, 102, 103, 104, 105, 106, 107, 108, 109, 110, 111, 112, 113] (by decide +kernel) (by decide +kernel)
set_option maxRecDepth 20000 in
theorem gX7_best_X7_brazenIn : GoodIn wsX7_best (wsV RX7 244 RX7 yX7_brazenIn wsX7_brazenIn) := goodIn_app (goodIn_of _ (by decide +kernel)) ggX7_best_X7_brazenIn
set_option maxRecDepth 20000 in
theorem ggX7_best_X7_bitsOf : GoodIn wsX7_best wsX7_bitsOf := goodIn_r _ [74] (by decide +kernel) (by decide +kernel)
set_option maxRecDepth 20000 in
theorem gX7_best_X7_bitsOf : GoodIn wsX7_best (va_wsS RX7 257 yX7_bitsOf wsX7_bitsOf) := goodIn_app (goodIn_of _ (by decide +kernel)) ggX7_best_X7_bitsOf
theorem dX7_best_0 : decode cX7_best 0 = .ok (.iload_n 1, 1) := by decide +kernel
theorem dX7_best_1 : decode cX7_best 1 = .ok (.invokestatic 234, 3) := by decide +kernel
theorem dX7_best_4 : decode cX7_best 4 = .ok (.ifCond .ne 5, 3) := by decide +kernel
theorem dX7_best_7 : decode cX7_best 7 = .ok (.iconst (-1), 1) := by decide +kernel
theorem dX7_best_8 : decode cX7_best 8 = .ok (.ireturn, 1) := by decide +kernel
theorem dX7_best_9 : decode cX7_best 9 = .ok (.ldc_w 256, 3) := by decide +kernel
theorem dX7_best_12 : decode cX7_best 12 = .ok (.istore_n 2, 1) := by decide +kernel
theorem dX7_best_13 : decode cX7_best 13 = .ok (.iconst 0, 1) := by decide +kernel
theorem dX7_best_14 : decode cX7_best 14 = .ok (.istore_n 3, 1) := by decide +kernel
theorem dX7_best_15 : decode cX7_best 15 = .ok (.iconst 0, 1) := by decide +kernel
theorem dX7_best_16 : decode cX7_best 16 = .ok (.istore 4, 2) := by decide +kernel
theorem dX7_best_18 : decode cX7_best 18 = .ok (.iload 4, 2) := by decide +kernel
theorem dX7_best_20 : decode cX7_best 20 = .ok (.iconst 1, 1) := by decide +kernel
theorem dX7_best_21 : decode cX7_best 21 = .ok (.aload_n 0, 1) := by decide +kernel
theorem dX7_best_22 : decode cX7_best 22 = .ok (.getfield 102, 3) := by decide +kernel
theorem dX7_best_25 : decode cX7_best 25 = .ok (.ishl, 1) := by decide +kernel
theorem dX7_best_26 : decode cX7_best 26 = .ok (.if_icmp .ge 69, 3) := by decide +kernel
theorem dX7_best_29 : decode cX7_best 29 = .ok (.aload_n 0, 1) := by decide +kernel
theorem dX7_best_30 : decode cX7_best 30 = .ok (.iload 4, 2) := by decide +kernel
theorem dX7_best_32 : decode cX7_best 32 = .ok (.invokevirtual 247, 3) := by decide +kernel
theorem dX7_best_35 : decode cX7_best 35 = .ok (.ifCond .eq 54, 3) := by decide +kernel
theorem dX7_best_38 : decode cX7_best 38 = .ok (.aload_n 0, 1) := by decide +kernel
theorem dX7_best_39 : decode cX7_best 39 = .ok (.iload 4, 2) := by decide +kernel
theorem dX7_best_41 : decode cX7_best 41 = .ok (.invokevirtual 250, 3) := by decide +kernel
theorem dX7_best_44 : decode cX7_best 44 = .ok (.bipush 10, 2) := by decide +kernel
theorem dX7_best_46 : decode cX7_best 46 = .ok (.aload_n 0, 1) := by decide +kernel
theorem dX7_best_47 : decode cX7_best 47 = .ok (.aload_n 0, 1) := by decide +kernel
theorem dX7_best_48 : decode cX7_best 48 = .ok (.invokevirtual 253, 3) := by decide +kernel
theorem dX7_best_51 : decode cX7_best 51 = .ok (.invokevirtual 244, 3) := by decide +kernel
theorem dX7_best_54 : decode cX7_best 54 = .ok (.imul, 1) := by decide +kernel
theorem dX7_best_55 : decode cX7_best 55 = .ok (.iload 4, 2) := by decide +kernel
theorem dX7_best_57 : decode cX7_best 57 = .ok (.invokestatic 257, 3) := by decide +kernel
theorem dX7_best_60 : decode cX7_best 60 = .ok (.iadd, 1) := by decide +kernel
theorem dX7_best_61 : decode cX7_best 61 = .ok (.istore 5, 2) := by decide +kernel
theorem dX7_best_63 : decode cX7_best 63 = .ok (.iload 5, 2) := by decide +kernel
theorem dX7_best_65 : decode cX7_best 65 = .ok (.iload_n 2, 1) := by decide +kernel
theorem dX7_best_66 : decode cX7_best 66 = .ok (.if_icmp .ge 8, 3) := by decide +kernel
theorem dX7_best_69 : decode cX7_best 69 = .ok (.iload 4, 2) := by decide +kernel
theorem dX7_best_71 : decode cX7_best 71 = .ok (.goto 4, 3) := by decide +kernel
theorem dX7_best_74 : decode cX7_best 74 = .ok (.iload_n 3, 1) := by decide +kernel
theorem dX7_best_75 : decode cX7_best 75 = .ok (.istore_n 3, 1) := by decide +kernel
theorem dX7_best_76 : decode cX7_best 76 = .ok (.iload 5, 2) := by decide +kernel
theorem dX7_best_78 : decode cX7_best 78 = .ok (.iload_n 2, 1) := by decide +kernel
theorem dX7_best_79 : decode cX7_best 79 = .ok (.if_icmp .ge 8, 3) := by decide +kernel
theorem dX7_best_82 : decode cX7_best 82 = .ok (.iload 5, 2) := by decide +kernel
theorem dX7_best_84 : decode cX7_best 84 = .ok (.goto 4, 3) := by decide +kernel
theorem dX7_best_87 : decode cX7_best 87 = .ok (.iload_n 2, 1) := by decide +kernel
theorem dX7_best_88 : decode cX7_best 88 = .ok (.istore_n 2, 1) := by decide +kernel
theorem dX7_best_89 : decode cX7_best 89 = .ok (.iinc 4 1, 3) := by decide +kernel
theorem dX7_best_92 : decode cX7_best 92 = .ok (.goto (-74), 3) := by decide +kernel
theorem dX7_best_95 : decode cX7_best 95 = .ok (.iload_n 1, 1) := by decide +kernel
theorem dX7_best_96 : decode cX7_best 96 = .ok (.ifCond .ne 7, 3) := by decide +kernel
theorem dX7_best_99 : decode cX7_best 99 = .ok (.iload_n 3, 1) := by decide +kernel
theorem dX7_best_100 : decode cX7_best 100 = .ok (.goto 7, 3) := by decide +kernel
theorem dX7_best_103 : decode cX7_best 103 = .ok (.iload_n 2, 1) := by decide +kernel
theorem dX7_best_104 : decode cX7_best 104 = .ok (.bipush 10, 2) := by decide +kernel
theorem dX7_best_106 : decode cX7_best 106 = .ok (.idiv, 1) := by decide +kernel
theorem dX7_best_107 : decode cX7_best 107 = .ok (.ireturn, 1) := by decide +kernel
set_option maxRecDepth 20000 in
theorem ggX7_save_X7_isOne : GoodIn wsX7_save wsX7_isOne := goodIn_r _ [8, 9, 10, 11, 7, 12, 68, 69, 70, 71, 72, 73, 74, 75, 76, 77, 78, 79, 80, 81, 82, 83, 84, 85, 86, 87, 88, 89, 90, 91, 92, 93, 94, 95, 96, 97, 98, 99, 100, 101, 102, 103, 104, 105, 106] (by decide +kernel) (by decide +kernel)
set_option maxRecDepth 20000 in
theorem gX7_save_X7_isOne : GoodIn wsX7_save (wsV RX7 210 RX7 yX7_isOne wsX7_isOne) := goodIn_app (goodIn_of _ (by decide +kernel)) ggX7_save_X7_isOne
set_option maxRecDepth 20000 in
theorem ggX7_save_X7_isPlan : GoodIn wsX7_save wsX7_isPlan := goodIn_r _ [16, 2, 17, 3, 68, 69, 70, 71, 72, 73, 74, 75, 76, 77, 78, 79, 80, 81, 82, 83, 84, 85, 86, 87, 88, 89, 90, 91, 92, 93, 94, 95, 96, 97, 98, 99, 100, 101, 102, 103, 104, 105, 106] (by decide +kernel) (by decide +kernel)
set_option maxRecDepth 20000 in
theorem gX7_save_X7_isPlan : GoodIn wsX7_save (wsV RX7 247 RX7 yX7_isPlan wsX7_isPlan) := goodIn_app (goodIn_of _ (by decide +kernel)) ggX7_save_X7_isPlan
set_option maxRecDepth 20000 in
theorem ggX7_save_X7_bitsOf : GoodIn wsX7_save wsX7_bitsOf := goodIn_r _ [20] (by decide +kernel) (by decide +kernel)
set_option maxRecDepth 20000 in
theorem gX7_save_X7_bitsOf : GoodIn wsX7_save (va_wsS RX7 257 yX7_bitsOf wsX7_bitsOf) := goodIn_app (goodIn_of _ (by decide +kernel)) ggX7_save_X7_bitsOf
set_option maxRecDepth 20000 in
theorem ggX7_save_X7_startsBy : GoodIn wsX7_save wsX7_startsBy := goodIn_r _ [24, 25, 26, 27, 28, 7, 29, 3, 68, 69, 70, 71, 72, 73, 74, 75, 76, 77, 78, 79, 80, 81, 82, 83, 84, 85, 86, 87, 88, 89, 90, 91, 92, 93, 94, 95, 96, 97, 98, 99, 100, 101, 102, 103, 104, 105, 106] (by decide +kernel) (by decide +kernel)
set_option maxRecDepth 20000 in
theorem gX7_save_X7_startsBy : GoodIn wsX7_save (wsV RX7 250 RX7 yX7_startsBy wsX7_startsBy) := goodIn_app (goodIn_of _ (by decide +kernel)) ggX7_save_X7_startsBy
set_option maxRecDepth 20000 in
theorem ggX7_save_X7_weeksLeft : GoodIn wsX7_save wsX7_weeksLeft := goodIn_r _ [33, 3, 68, 69, 70, 71, 72, 73, 74, 75, 76, 77, 78, 79, 80, 81, 82, 83, 84, 85, 86, 87, 88, 89, 90, 91, 92, 93, 94, 95, 96, 97, 98, 99, 100, 101, 102, 103, 104, 105, 106] (by decide +kernel) (by decide +kernel)
set_option maxRecDepth 20000 in
theorem gX7_save_X7_weeksLeft : GoodIn wsX7_save (wsV RX7 253 RX7 yX7_weeksLeft wsX7_weeksLeft) := goodIn_app (goodIn_of _ (by decide +kernel)) ggX7_save_X7_weeksLeft
set_option maxRecDepth 20000 in
theorem ggX7_save_X7_weeksGo : GoodIn wsX7_save wsX7_weeksGo := goodIn_r _ [37, 38, 39, 40, 7, 41, 25, 42, 2, 17, 43, 44, 45, 9, 46, 47, 48, 49, 50, 51, 52, 53, 54, 55, 56, 57, 58, 59, 60, 61, 62, 63, 64, 65, 66, 67, 68, 69, 70, 71, 72, 73, 74, 75, 76, 77, 78, 79, 80, 81, 82, 83, 84, 85, 86, 87, 88, 89, 90, 91, 92, 93, 94, 95, 96, 97, 98, 99, 100, 101, 102, 103, 104, 105, 106] (by decide +kernel) (by decide +kernel)
set_option maxRecDepth 20000 in
theorem gX7_save_X7_weeksGo : GoodIn wsX7_save (wsV RX7 204 RX7 yX7_weeksGo wsX7_weeksGo) := goodIn_app (goodIn_of _ (by decide +kernel)) ggX7_save_X7_weeksGo
set_option maxRecDepth 20000 in
theorem ggX7_save_X7_of : GoodIn wsX7_save wsX7_of := goodIn_r _ [54, 25, 68, 69, 70, 71, 72, 73, 74, 75, 76, 77, 78, 79, 80, 81, 82, 83, 84, 85, 86, 87, 88, 89, 90, 91, 92, 93, 94, 95, 96, 97, 98, 99, 100, 101, 102, 103, 104, 105, 106] (by decide +kernel) (by decide +kernel)
set_option maxRecDepth 20000 in
theorem gX7_save_X7_of : GoodIn wsX7_save (wsV RX7 182 RX7 yX7_of wsX7_of) := goodIn_app (goodIn_of _ (by decide +kernel)) ggX7_save_X7_of
theorem dX7_save_0 : decode cX7_save 0 = .ok (.aload_n 0, 1) := by decide +kernel
theorem dX7_save_1 : decode cX7_save 1 = .ok (.iload_n 1, 1) := by decide +kernel
theorem dX7_save_2 : decode cX7_save 2 = .ok (.invokevirtual 210, 3) := by decide +kernel
theorem dX7_save_5 : decode cX7_save 5 = .ok (.ifCond .ne 5, 3) := by decide +kernel
theorem dX7_save_8 : decode cX7_save 8 = .ok (.iconst (-1), 1) := by decide +kernel
theorem dX7_save_9 : decode cX7_save 9 = .ok (.ireturn, 1) := by decide +kernel
theorem dX7_save_10 : decode cX7_save 10 = .ok (.ldc_w 256, 3) := by decide +kernel
theorem dX7_save_13 : decode cX7_save 13 = .ok (.istore_n 2, 1) := by decide +kernel
theorem dX7_save_14 : decode cX7_save 14 = .ok (.bipush (-4), 2) := by decide +kernel
theorem dX7_save_16 : decode cX7_save 16 = .ok (.istore_n 3, 1) := by decide +kernel
theorem dX7_save_17 : decode cX7_save 17 = .ok (.iconst 0, 1) := by decide +kernel
theorem dX7_save_18 : decode cX7_save 18 = .ok (.istore 4, 2) := by decide +kernel
theorem dX7_save_20 : decode cX7_save 20 = .ok (.iload 4, 2) := by decide +kernel
theorem dX7_save_22 : decode cX7_save 22 = .ok (.iconst 1, 1) := by decide +kernel
theorem dX7_save_23 : decode cX7_save 23 = .ok (.aload_n 0, 1) := by decide +kernel
theorem dX7_save_24 : decode cX7_save 24 = .ok (.getfield 102, 3) := by decide +kernel
theorem dX7_save_27 : decode cX7_save 27 = .ok (.ishl, 1) := by decide +kernel
theorem dX7_save_28 : decode cX7_save 28 = .ok (.if_icmp .ge 94, 3) := by decide +kernel
theorem dX7_save_31 : decode cX7_save 31 = .ok (.aload_n 0, 1) := by decide +kernel
theorem dX7_save_32 : decode cX7_save 32 = .ok (.iload 4, 2) := by decide +kernel
theorem dX7_save_34 : decode cX7_save 34 = .ok (.invokevirtual 247, 3) := by decide +kernel
theorem dX7_save_37 : decode cX7_save 37 = .ok (.ifCond .eq 79, 3) := by decide +kernel
theorem dX7_save_40 : decode cX7_save 40 = .ok (.iload 4, 2) := by decide +kernel
theorem dX7_save_42 : decode cX7_save 42 = .ok (.invokestatic 257, 3) := by decide +kernel
theorem dX7_save_45 : decode cX7_save 45 = .ok (.iload_n 2, 1) := by decide +kernel
theorem dX7_save_46 : decode cX7_save 46 = .ok (.if_icmp .ge 70, 3) := by decide +kernel
theorem dX7_save_49 : decode cX7_save 49 = .ok (.aload_n 0, 1) := by decide +kernel
theorem dX7_save_50 : decode cX7_save 50 = .ok (.iload 4, 2) := by decide +kernel
theorem dX7_save_52 : decode cX7_save 52 = .ok (.invokevirtual 250, 3) := by decide +kernel
theorem dX7_save_55 : decode cX7_save 55 = .ok (.aload_n 0, 1) := by decide +kernel
theorem dX7_save_56 : decode cX7_save 56 = .ok (.aload_n 0, 1) := by decide +kernel
theorem dX7_save_57 : decode cX7_save 57 = .ok (.invokevirtual 253, 3) := by decide +kernel
theorem dX7_save_60 : decode cX7_save 60 = .ok (.invokevirtual 204, 3) := by decide +kernel
theorem dX7_save_63 : decode cX7_save 63 = .ok (.aload_n 0, 1) := by decide +kernel
theorem dX7_save_64 : decode cX7_save 64 = .ok (.iload_n 1, 1) := by decide +kernel
theorem dX7_save_65 : decode cX7_save 65 = .ok (.iconst 3, 1) := by decide +kernel
theorem dX7_save_66 : decode cX7_save 66 = .ok (.invokevirtual 182, 3) := by decide +kernel
theorem dX7_save_69 : decode cX7_save 69 = .ok (.aload_n 0, 1) := by decide +kernel
theorem dX7_save_70 : decode cX7_save 70 = .ok (.getfield 7, 3) := by decide +kernel
theorem dX7_save_73 : decode cX7_save 73 = .ok (.iconst 4, 1) := by decide +kernel
theorem dX7_save_74 : decode cX7_save 74 = .ok (.iload_n 1, 1) := by decide +kernel
theorem dX7_save_75 : decode cX7_save 75 = .ok (.imul, 1) := by decide +kernel
theorem dX7_save_76 : decode cX7_save 76 = .ok (.iconst 3, 1) := by decide +kernel
theorem dX7_save_77 : decode cX7_save 77 = .ok (.iadd, 1) := by decide +kernel
theorem dX7_save_78 : decode cX7_save 78 = .ok (.iaload, 1) := by decide +kernel
theorem dX7_save_79 : decode cX7_save 79 = .ok (.if_icmp .ne 7, 3) := by decide +kernel
theorem dX7_save_82 : decode cX7_save 82 = .ok (.iconst 1, 1) := by decide +kernel
theorem dX7_save_83 : decode cX7_save 83 = .ok (.goto 4, 3) := by decide +kernel
theorem dX7_save_86 : decode cX7_save 86 = .ok (.iconst 0, 1) := by decide +kernel
theorem dX7_save_87 : decode cX7_save 87 = .ok (.istore 5, 2) := by decide +kernel
theorem dX7_save_89 : decode cX7_save 89 = .ok (.iload 5, 2) := by decide +kernel
theorem dX7_save_91 : decode cX7_save 91 = .ok (.ifCond .eq 8, 3) := by decide +kernel
theorem dX7_save_94 : decode cX7_save 94 = .ok (.iload 4, 2) := by decide +kernel
theorem dX7_save_96 : decode cX7_save 96 = .ok (.goto 4, 3) := by decide +kernel
theorem dX7_save_99 : decode cX7_save 99 = .ok (.iload_n 3, 1) := by decide +kernel
theorem dX7_save_100 : decode cX7_save 100 = .ok (.istore_n 3, 1) := by decide +kernel
theorem dX7_save_101 : decode cX7_save 101 = .ok (.iload 5, 2) := by decide +kernel
theorem dX7_save_103 : decode cX7_save 103 = .ok (.ifCond .eq 11, 3) := by decide +kernel
theorem dX7_save_106 : decode cX7_save 106 = .ok (.iload 4, 2) := by decide +kernel
theorem dX7_save_108 : decode cX7_save 108 = .ok (.invokestatic 257, 3) := by decide +kernel
theorem dX7_save_111 : decode cX7_save 111 = .ok (.goto 4, 3) := by decide +kernel
theorem dX7_save_114 : decode cX7_save 114 = .ok (.iload_n 2, 1) := by decide +kernel
theorem dX7_save_115 : decode cX7_save 115 = .ok (.istore_n 2, 1) := by decide +kernel
theorem dX7_save_116 : decode cX7_save 116 = .ok (.iinc 4 1, 3) := by decide +kernel
theorem dX7_save_119 : decode cX7_save 119 = .ok (.goto (-99), 3) := by decide +kernel
theorem dX7_save_122 : decode cX7_save 122 = .ok (.iload_n 3, 1) := by decide +kernel
theorem dX7_save_123 : decode cX7_save 123 = .ok (.ireturn, 1) := by decide +kernel
set_option maxRecDepth 20000 in
theorem ggX7_runs_X7_of : GoodIn wsX7_runs wsX7_of := goodIn_r _ [7, 2, 12, 13, 14, 15, 16, 17, 18, 19, 20, 21, 22, 23, 24, 25, 26, 27, 28, 29, 30, 31, 32, 33, 34, 35, 36, 37, 38, 39, 40, 41, 42, 43, 44, 45, 46, 47, 48, 49, 50] (by decide +kernel) (by decide +kernel)
set_option maxRecDepth 20000 in
theorem gX7_runs_X7_of : GoodIn wsX7_runs (wsV RX7 182 RX7 yX7_of wsX7_of) := goodIn_app (goodIn_of _ (by decide +kernel)) ggX7_runs_X7_of
set_option maxRecDepth 20000 in
theorem ggX7_runs_X7_more : GoodIn wsX7_runs wsX7_more := goodIn_r _ [11, 2, 12, 13, 14, 15, 16, 17, 18, 19, 20, 21, 22, 23, 24, 25, 26, 27, 28, 29, 30, 31, 32, 33, 34, 35, 36, 37, 38, 39, 40, 41, 42, 43, 44, 45, 46, 47, 48, 49, 50] (by decide +kernel) (by decide +kernel)
set_option maxRecDepth 20000 in
theorem gX7_runs_X7_more : GoodIn wsX7_runs (wsV RX7 188 RX7 yX7_more wsX7_more) := goodIn_app (goodIn_of _ (by decide +kernel)) ggX7_runs_X7_more
theorem dX7_runs_0 : decode cX7_runs 0 = .ok (.iconst 1, 1) := by decide +kernel
theorem dX7_runs_1 : decode cX7_runs 1 = .ok (.istore_n 1, 1) := by decide +kernel
theorem dX7_runs_2 : decode cX7_runs 2 = .ok (.iload_n 1, 1) := by decide +kernel
theorem dX7_runs_3 : decode cX7_runs 3 = .ok (.ifCond .eq 74, 3) := by decide +kernel
theorem dX7_runs_6 : decode cX7_runs 6 = .ok (.iconst 0, 1) := by decide +kernel
theorem dX7_runs_7 : decode cX7_runs 7 = .ok (.istore_n 1, 1) := by decide +kernel
theorem dX7_runs_8 : decode cX7_runs 8 = .ok (.iconst 0, 1) := by decide +kernel
theorem dX7_runs_9 : decode cX7_runs 9 = .ok (.istore_n 2, 1) := by decide +kernel
theorem dX7_runs_10 : decode cX7_runs 10 = .ok (.iload_n 2, 1) := by decide +kernel
theorem dX7_runs_11 : decode cX7_runs 11 = .ok (.aload_n 0, 1) := by decide +kernel
theorem dX7_runs_12 : decode cX7_runs 12 = .ok (.getfield 99, 3) := by decide +kernel
theorem dX7_runs_15 : decode cX7_runs 15 = .ok (.if_icmp .ge 59, 3) := by decide +kernel
theorem dX7_runs_18 : decode cX7_runs 18 = .ok (.aload_n 0, 1) := by decide +kernel
theorem dX7_runs_19 : decode cX7_runs 19 = .ok (.iload_n 2, 1) := by decide +kernel
theorem dX7_runs_20 : decode cX7_runs 20 = .ok (.iconst 2, 1) := by decide +kernel
theorem dX7_runs_21 : decode cX7_runs 21 = .ok (.invokevirtual 182, 3) := by decide +kernel
theorem dX7_runs_24 : decode cX7_runs 24 = .ok (.istore_n 3, 1) := by decide +kernel
theorem dX7_runs_25 : decode cX7_runs 25 = .ok (.iload_n 3, 1) := by decide +kernel
theorem dX7_runs_26 : decode cX7_runs 26 = .ok (.ifCond .le 42, 3) := by decide +kernel
theorem dX7_runs_29 : decode cX7_runs 29 = .ok (.iload_n 3, 1) := by decide +kernel
theorem dX7_runs_30 : decode cX7_runs 30 = .ok (.aload_n 0, 1) := by decide +kernel
theorem dX7_runs_31 : decode cX7_runs 31 = .ok (.getfield 13, 3) := by decide +kernel
theorem dX7_runs_34 : decode cX7_runs 34 = .ok (.bipush 24, 2) := by decide +kernel
theorem dX7_runs_36 : decode cX7_runs 36 = .ok (.iaload, 1) := by decide +kernel
theorem dX7_runs_37 : decode cX7_runs 37 = .ok (.if_icmp .gt 31, 3) := by decide +kernel
theorem dX7_runs_40 : decode cX7_runs 40 = .ok (.aload_n 0, 1) := by decide +kernel
theorem dX7_runs_41 : decode cX7_runs 41 = .ok (.getfield 13, 3) := by decide +kernel
theorem dX7_runs_44 : decode cX7_runs 44 = .ok (.bipush 24, 2) := by decide +kernel
theorem dX7_runs_46 : decode cX7_runs 46 = .ok (.dup2, 1) := by decide +kernel
theorem dX7_runs_47 : decode cX7_runs 47 = .ok (.iaload, 1) := by decide +kernel
theorem dX7_runs_48 : decode cX7_runs 48 = .ok (.iload_n 3, 1) := by decide +kernel
theorem dX7_runs_49 : decode cX7_runs 49 = .ok (.isub, 1) := by decide +kernel
theorem dX7_runs_50 : decode cX7_runs 50 = .ok (.iastore, 1) := by decide +kernel
theorem dX7_runs_51 : decode cX7_runs 51 = .ok (.aload_n 0, 1) := by decide +kernel
theorem dX7_runs_52 : decode cX7_runs 52 = .ok (.iload_n 2, 1) := by decide +kernel
theorem dX7_runs_53 : decode cX7_runs 53 = .ok (.iconst 1, 1) := by decide +kernel
theorem dX7_runs_54 : decode cX7_runs 54 = .ok (.iload_n 3, 1) := by decide +kernel
theorem dX7_runs_55 : decode cX7_runs 55 = .ok (.invokevirtual 188, 3) := by decide +kernel
theorem dX7_runs_58 : decode cX7_runs 58 = .ok (.aload_n 0, 1) := by decide +kernel
theorem dX7_runs_59 : decode cX7_runs 59 = .ok (.iload_n 2, 1) := by decide +kernel
theorem dX7_runs_60 : decode cX7_runs 60 = .ok (.iconst 2, 1) := by decide +kernel
theorem dX7_runs_61 : decode cX7_runs 61 = .ok (.iload_n 3, 1) := by decide +kernel
theorem dX7_runs_62 : decode cX7_runs 62 = .ok (.ineg, 1) := by decide +kernel
theorem dX7_runs_63 : decode cX7_runs 63 = .ok (.invokevirtual 188, 3) := by decide +kernel
theorem dX7_runs_66 : decode cX7_runs 66 = .ok (.iconst 1, 1) := by decide +kernel
theorem dX7_runs_67 : decode cX7_runs 67 = .ok (.istore_n 1, 1) := by decide +kernel
theorem dX7_runs_68 : decode cX7_runs 68 = .ok (.iinc 2 1, 3) := by decide +kernel
theorem dX7_runs_71 : decode cX7_runs 71 = .ok (.goto (-61), 3) := by decide +kernel
theorem dX7_runs_74 : decode cX7_runs 74 = .ok (.goto (-72), 3) := by decide +kernel
theorem dX7_runs_77 : decode cX7_runs 77 = .ok (.return_, 1) := by decide +kernel
set_option maxRecDepth 20000 in
theorem ggX7_allOf_X7_of : GoodIn wsX7_allOf wsX7_of := goodIn_r _ [6, 7, 8, 9, 10, 11, 12, 13, 14, 15, 16, 17, 18, 19, 20, 21, 22, 23, 24, 25, 26, 27, 28, 29, 30, 31, 32, 33, 34, 35, 36, 37, 38, 39, 40, 41, 42, 43, 44, 45, 46] (by decide +kernel) (by decide +kernel)
set_option maxRecDepth 20000 in
theorem gX7_allOf_X7_of : GoodIn wsX7_allOf (wsV RX7 182 RX7 yX7_of wsX7_of) := goodIn_app (goodIn_of _ (by decide +kernel)) ggX7_allOf_X7_of
theorem dX7_allOf_0 : decode cX7_allOf 0 = .ok (.iconst 0, 1) := by decide +kernel
theorem dX7_allOf_1 : decode cX7_allOf 1 = .ok (.istore_n 2, 1) := by decide +kernel
theorem dX7_allOf_2 : decode cX7_allOf 2 = .ok (.iconst 0, 1) := by decide +kernel
theorem dX7_allOf_3 : decode cX7_allOf 3 = .ok (.istore_n 3, 1) := by decide +kernel
theorem dX7_allOf_4 : decode cX7_allOf 4 = .ok (.iload_n 3, 1) := by decide +kernel
theorem dX7_allOf_5 : decode cX7_allOf 5 = .ok (.aload_n 0, 1) := by decide +kernel
theorem dX7_allOf_6 : decode cX7_allOf 6 = .ok (.getfield 99, 3) := by decide +kernel
theorem dX7_allOf_9 : decode cX7_allOf 9 = .ok (.if_icmp .ge 18, 3) := by decide +kernel
theorem dX7_allOf_12 : decode cX7_allOf 12 = .ok (.iload_n 2, 1) := by decide +kernel
theorem dX7_allOf_13 : decode cX7_allOf 13 = .ok (.aload_n 0, 1) := by decide +kernel
theorem dX7_allOf_14 : decode cX7_allOf 14 = .ok (.iload_n 3, 1) := by decide +kernel
theorem dX7_allOf_15 : decode cX7_allOf 15 = .ok (.iload_n 1, 1) := by decide +kernel
theorem dX7_allOf_16 : decode cX7_allOf 16 = .ok (.invokevirtual 182, 3) := by decide +kernel
theorem dX7_allOf_19 : decode cX7_allOf 19 = .ok (.iadd, 1) := by decide +kernel
theorem dX7_allOf_20 : decode cX7_allOf 20 = .ok (.istore_n 2, 1) := by decide +kernel
theorem dX7_allOf_21 : decode cX7_allOf 21 = .ok (.iinc 3 1, 3) := by decide +kernel
theorem dX7_allOf_24 : decode cX7_allOf 24 = .ok (.goto (-20), 3) := by decide +kernel
theorem dX7_allOf_27 : decode cX7_allOf 27 = .ok (.iload_n 2, 1) := by decide +kernel
theorem dX7_allOf_28 : decode cX7_allOf 28 = .ok (.ireturn, 1) := by decide +kernel
set_option maxRecDepth 20000 in
theorem ggX7_run_X7_in : GoodIn wsX7_run wsX7_in := goodIn_r _ [7] (by decide +kernel) (by decide +kernel)
set_option maxRecDepth 20000 in
theorem gX7_run_X7_in : GoodIn wsX7_run (va_wsS RX7 110 yX7_in wsX7_in) := goodIn_app (goodIn_of _ (by decide +kernel)) ggX7_run_X7_in
set_option maxRecDepth 20000 in
theorem ggX7_run_X7_starts : GoodIn wsX7_run wsX7_starts := goodIn_r _ [11, 3, 12, 32, 33, 34, 35, 36, 37, 38, 39, 40, 41, 42, 43, 44, 45, 46, 47, 48, 49, 50, 51, 52, 53, 54, 55, 56, 57, 58, 59, 60, 61, 62, 63, 64, 65, 66, 67, 68, 69, 70] (by decide +kernel) (by decide +kernel)
set_option maxRecDepth 20000 in
theorem gX7_run_X7_starts : GoodIn wsX7_run (wsV RX7 217 RX7 yX7_starts wsX7_starts) := goodIn_app (goodIn_of _ (by decide +kernel)) ggX7_run_X7_starts
set_option maxRecDepth 20000 in
theorem ggX7_run_X7_runs : GoodIn wsX7_run wsX7_runs := goodIn_r _ [16, 2, 3, 17, 18, 19, 6, 20, 21, 22, 23, 24, 32, 33, 34, 35, 36, 37, 38, 39, 40, 41, 42, 43, 44, 45, 46, 47, 48, 49, 50, 51, 52, 53, 54, 55, 56, 57, 58, 59, 60, 61, 62, 63, 64, 65, 66, 67, 68, 69, 70] (by decide +kernel) (by decide +kernel)
set_option maxRecDepth 20000 in
theorem gX7_run_X7_runs : GoodIn wsX7_run (wsV RX7 260 RX7 yX7_runs wsX7_runs) := goodIn_app (goodIn_of _ (by decide +kernel)) ggX7_run_X7_runs
set_option maxRecDepth 20000 in
theorem ggX7_run_X7_of : GoodIn wsX7_run wsX7_of := goodIn_r _ [20, 3, 32, 33, 34, 35, 36, 37, 38, 39, 40, 41, 42, 43, 44, 45, 46, 47, 48, 49, 50, 51, 52, 53, 54, 55, 56, 57, 58, 59, 60, 61, 62, 63, 64, 65, 66, 67, 68, 69, 70] (by decide +kernel) (by decide +kernel)
set_option maxRecDepth 20000 in
theorem gX7_run_X7_of : GoodIn wsX7_run (wsV RX7 182 RX7 yX7_of wsX7_of) := goodIn_app (goodIn_of _ (by decide +kernel)) ggX7_run_X7_of
set_option maxRecDepth 20000 in
theorem ggX7_run_X7_flag : GoodIn wsX7_run wsX7_flag := goodIn_r _ [27] (by decide +kernel) (by decide +kernel)
set_option maxRecDepth 20000 in
theorem gX7_run_X7_flag : GoodIn wsX7_run (va_wsS RX7 224 yX7_flag wsX7_flag) := goodIn_app (goodIn_of _ (by decide +kernel)) ggX7_run_X7_flag
set_option maxRecDepth 20000 in
theorem ggX7_run_X7_allOf : GoodIn wsX7_run wsX7_allOf := goodIn_r _ [31, 2, 17, 18, 19, 6, 20, 3, 32, 33, 34, 35, 36, 37, 38, 39, 40, 41, 42, 43, 44, 45, 46, 47, 48, 49, 50, 51, 52, 53, 54, 55, 56, 57, 58, 59, 60, 61, 62, 63, 64, 65, 66, 67, 68, 69, 70] (by decide +kernel) (by decide +kernel)
set_option maxRecDepth 20000 in
theorem gX7_run_X7_allOf : GoodIn wsX7_run (wsV RX7 263 RX7 yX7_allOf wsX7_allOf) := goodIn_app (goodIn_of _ (by decide +kernel)) ggX7_run_X7_allOf
theorem dX7_run_0 : decode cX7_run 0 = .ok (.iload_n 1, 1) := by decide +kernel
theorem dX7_run_1 : decode cX7_run 1 = .ok (.i2l, 1) := by decide +kernel
theorem dX7_run_2 : decode cX7_run 2 = .ok (.lconst 0, 1) := by decide +kernel
theorem dX7_run_3 : decode cX7_run 3 = .ok (.ldc2_w 220, 3) := by decide +kernel
theorem dX7_run_6 : decode cX7_run 6 = .ok (.invokestatic 110, 3) := by decide +kernel
theorem dX7_run_9 : decode cX7_run 9 = .ok (.ifCond .ne 5, 3) := by decide +kernel
theorem dX7_run_12 : decode cX7_run 12 = .ok (.iconst (-1), 1) := by decide +kernel
theorem dX7_run_13 : decode cX7_run 13 = .ok (.ireturn, 1) := by decide +kernel
theorem dX7_run_14 : decode cX7_run 14 = .ok (.aload_n 0, 1) := by decide +kernel
theorem dX7_run_15 : decode cX7_run 15 = .ok (.invokevirtual 217, 3) := by decide +kernel
theorem dX7_run_18 : decode cX7_run 18 = .ok (.aload_n 0, 1) := by decide +kernel
theorem dX7_run_19 : decode cX7_run 19 = .ok (.invokevirtual 260, 3) := by decide +kernel
theorem dX7_run_22 : decode cX7_run 22 = .ok (.iconst 0, 1) := by decide +kernel
theorem dX7_run_23 : decode cX7_run 23 = .ok (.istore_n 2, 1) := by decide +kernel
theorem dX7_run_24 : decode cX7_run 24 = .ok (.iconst 0, 1) := by decide +kernel
theorem dX7_run_25 : decode cX7_run 25 = .ok (.istore_n 3, 1) := by decide +kernel
theorem dX7_run_26 : decode cX7_run 26 = .ok (.iload_n 3, 1) := by decide +kernel
theorem dX7_run_27 : decode cX7_run 27 = .ok (.aload_n 0, 1) := by decide +kernel
theorem dX7_run_28 : decode cX7_run 28 = .ok (.getfield 99, 3) := by decide +kernel
theorem dX7_run_31 : decode cX7_run 31 = .ok (.if_icmp .ge 31, 3) := by decide +kernel
theorem dX7_run_34 : decode cX7_run 34 = .ok (.iload_n 2, 1) := by decide +kernel
theorem dX7_run_35 : decode cX7_run 35 = .ok (.aload_n 0, 1) := by decide +kernel
theorem dX7_run_36 : decode cX7_run 36 = .ok (.iload_n 3, 1) := by decide +kernel
theorem dX7_run_37 : decode cX7_run 37 = .ok (.iconst 2, 1) := by decide +kernel
theorem dX7_run_38 : decode cX7_run 38 = .ok (.invokevirtual 182, 3) := by decide +kernel
theorem dX7_run_41 : decode cX7_run 41 = .ok (.ifCond .ne 7, 3) := by decide +kernel
theorem dX7_run_44 : decode cX7_run 44 = .ok (.iconst 1, 1) := by decide +kernel
theorem dX7_run_45 : decode cX7_run 45 = .ok (.goto 4, 3) := by decide +kernel
theorem dX7_run_48 : decode cX7_run 48 = .ok (.iconst 0, 1) := by decide +kernel
theorem dX7_run_49 : decode cX7_run 49 = .ok (.invokestatic 224, 3) := by decide +kernel
theorem dX7_run_52 : decode cX7_run 52 = .ok (.iload_n 3, 1) := by decide +kernel
theorem dX7_run_53 : decode cX7_run 53 = .ok (.ishl, 1) := by decide +kernel
theorem dX7_run_54 : decode cX7_run 54 = .ok (.ior, 1) := by decide +kernel
theorem dX7_run_55 : decode cX7_run 55 = .ok (.istore_n 2, 1) := by decide +kernel
theorem dX7_run_56 : decode cX7_run 56 = .ok (.iinc 3 1, 3) := by decide +kernel
theorem dX7_run_59 : decode cX7_run 59 = .ok (.goto (-33), 3) := by decide +kernel
theorem dX7_run_62 : decode cX7_run 62 = .ok (.iload_n 1, 1) := by decide +kernel
theorem dX7_run_63 : decode cX7_run 63 = .ok (.ifCond .ne 11, 3) := by decide +kernel
theorem dX7_run_66 : decode cX7_run 66 = .ok (.aload_n 0, 1) := by decide +kernel
theorem dX7_run_67 : decode cX7_run 67 = .ok (.iconst 2, 1) := by decide +kernel
theorem dX7_run_68 : decode cX7_run 68 = .ok (.invokevirtual 263, 3) := by decide +kernel
theorem dX7_run_71 : decode cX7_run 71 = .ok (.goto 19, 3) := by decide +kernel
theorem dX7_run_74 : decode cX7_run 74 = .ok (.iload_n 1, 1) := by decide +kernel
theorem dX7_run_75 : decode cX7_run 75 = .ok (.iconst 1, 1) := by decide +kernel
theorem dX7_run_76 : decode cX7_run 76 = .ok (.if_icmp .ne 13, 3) := by decide +kernel
theorem dX7_run_79 : decode cX7_run 79 = .ok (.aload_n 0, 1) := by decide +kernel
theorem dX7_run_80 : decode cX7_run 80 = .ok (.getfield 13, 3) := by decide +kernel
theorem dX7_run_83 : decode cX7_run 83 = .ok (.bipush 24, 2) := by decide +kernel
theorem dX7_run_85 : decode cX7_run 85 = .ok (.iaload, 1) := by decide +kernel
theorem dX7_run_86 : decode cX7_run 86 = .ok (.goto 4, 3) := by decide +kernel
theorem dX7_run_89 : decode cX7_run 89 = .ok (.iload_n 2, 1) := by decide +kernel
theorem dX7_run_90 : decode cX7_run 90 = .ok (.ireturn, 1) := by decide +kernel
set_option maxRecDepth 20000 in
theorem ggX7_holds_X7_starts : GoodIn wsX7_holds wsX7_starts := goodIn_r _ [6, 1, 7, 25, 26, 27, 28, 29, 30, 31, 32, 33, 34, 35, 36, 37, 38, 39, 40, 41, 42, 43, 44, 45, 46, 47, 48, 49, 50, 51, 52, 53, 54, 55, 56, 57, 58, 59, 60, 61, 62, 63] (by decide +kernel) (by decide +kernel)
set_option maxRecDepth 20000 in
theorem gX7_holds_X7_starts : GoodIn wsX7_holds (wsV RX7 217 RX7 yX7_starts wsX7_starts) := goodIn_app (goodIn_of _ (by decide +kernel)) ggX7_holds_X7_starts
set_option maxRecDepth 20000 in
theorem ggX7_holds_X7_runs : GoodIn wsX7_holds wsX7_runs := goodIn_r _ [11, 12, 1, 13, 14, 15, 5, 16, 17, 18, 19, 20, 25, 26, 27, 28, 29, 30, 31, 32, 33, 34, 35, 36, 37, 38, 39, 40, 41, 42, 43, 44, 45, 46, 47, 48, 49, 50, 51, 52, 53, 54, 55, 56, 57, 58, 59, 60, 61, 62, 63] (by decide +kernel) (by decide +kernel)
set_option maxRecDepth 20000 in
theorem gX7_holds_X7_runs : GoodIn wsX7_holds (wsV RX7 260 RX7 yX7_runs wsX7_runs) := goodIn_app (goodIn_of _ (by decide +kernel)) ggX7_holds_X7_runs
set_option maxRecDepth 20000 in
theorem ggX7_holds_X7_allOf : GoodIn wsX7_holds wsX7_allOf := goodIn_r _ [24, 12, 13, 14, 15, 5, 16, 1, 25, 26, 27, 28, 29, 30, 31, 32, 33, 34, 35, 36, 37, 38, 39, 40, 41, 42, 43, 44, 45, 46, 47, 48, 49, 50, 51, 52, 53, 54, 55, 56, 57, 58, 59, 60, 61, 62, 63] (by decide +kernel) (by decide +kernel)
set_option maxRecDepth 20000 in
theorem gX7_holds_X7_allOf : GoodIn wsX7_holds (wsV RX7 263 RX7 yX7_allOf wsX7_allOf) := goodIn_app (goodIn_of _ (by decide +kernel)) ggX7_holds_X7_allOf
theorem dX7_holds_0 : decode cX7_holds 0 = .ok (.iconst 0, 1) := by decide +kernel
theorem dX7_holds_1 : decode cX7_holds 1 = .ok (.istore_n 1, 1) := by decide +kernel
theorem dX7_holds_2 : decode cX7_holds 2 = .ok (.iload_n 1, 1) := by decide +kernel
theorem dX7_holds_3 : decode cX7_holds 3 = .ok (.bipush 99, 2) := by decide +kernel
theorem dX7_holds_5 : decode cX7_holds 5 = .ok (.if_icmp .gt 35, 3) := by decide +kernel
theorem dX7_holds_8 : decode cX7_holds 8 = .ok (.aload_n 0, 1) := by decide +kernel
theorem dX7_holds_9 : decode cX7_holds 9 = .ok (.invokevirtual 217, 3) := by decide +kernel
theorem dX7_holds_12 : decode cX7_holds 12 = .ok (.aload_n 0, 1) := by decide +kernel
theorem dX7_holds_13 : decode cX7_holds 13 = .ok (.getfield 13, 3) := by decide +kernel
theorem dX7_holds_16 : decode cX7_holds 16 = .ok (.bipush 24, 2) := by decide +kernel
theorem dX7_holds_18 : decode cX7_holds 18 = .ok (.iload_n 1, 1) := by decide +kernel
theorem dX7_holds_19 : decode cX7_holds 19 = .ok (.iastore, 1) := by decide +kernel
theorem dX7_holds_20 : decode cX7_holds 20 = .ok (.aload_n 0, 1) := by decide +kernel
theorem dX7_holds_21 : decode cX7_holds 21 = .ok (.invokevirtual 260, 3) := by decide +kernel
theorem dX7_holds_24 : decode cX7_holds 24 = .ok (.aload_n 0, 1) := by decide +kernel
theorem dX7_holds_25 : decode cX7_holds 25 = .ok (.iconst 2, 1) := by decide +kernel
theorem dX7_holds_26 : decode cX7_holds 26 = .ok (.invokevirtual 263, 3) := by decide +kernel
theorem dX7_holds_29 : decode cX7_holds 29 = .ok (.ifCond .ne 5, 3) := by decide +kernel
theorem dX7_holds_32 : decode cX7_holds 32 = .ok (.iload_n 1, 1) := by decide +kernel
theorem dX7_holds_33 : decode cX7_holds 33 = .ok (.ireturn, 1) := by decide +kernel
theorem dX7_holds_34 : decode cX7_holds 34 = .ok (.iinc 1 1, 3) := by decide +kernel
theorem dX7_holds_37 : decode cX7_holds 37 = .ok (.goto (-35), 3) := by decide +kernel
theorem dX7_holds_40 : decode cX7_holds 40 = .ok (.bipush (-4), 2) := by decide +kernel
theorem dX7_holds_42 : decode cX7_holds 42 = .ok (.ireturn, 1) := by decide +kernel
set_option maxRecDepth 20000 in
theorem ggX7_leastOf_X7_in : GoodIn wsX7_leastOf wsX7_in := goodIn_r _ [6] (by decide +kernel) (by decide +kernel)
set_option maxRecDepth 20000 in
theorem gX7_leastOf_X7_in : GoodIn wsX7_leastOf (va_wsS RX7 110 yX7_in wsX7_in) := goodIn_app (goodIn_of _ (by decide +kernel)) ggX7_leastOf_X7_in
set_option maxRecDepth 20000 in
theorem ggX7_leastOf_X7_starts : GoodIn wsX7_leastOf wsX7_starts := goodIn_r _ [10, 2, 11, 57, 58, 59, 60, 61, 62, 63, 64, 65, 66, 67, 68, 69, 70, 71, 72, 73, 74, 75, 76, 77, 78, 79, 80, 81, 82, 83, 84, 85, 86, 87, 88, 89, 90, 91, 92, 93, 94, 95] (by decide +kernel) (by decide +kernel)
set_option maxRecDepth 20000 in
theorem gX7_leastOf_X7_starts : GoodIn wsX7_leastOf (wsV RX7 217 RX7 yX7_starts wsX7_starts) := goodIn_app (goodIn_of _ (by decide +kernel)) ggX7_leastOf_X7_starts
set_option maxRecDepth 20000 in
theorem ggX7_leastOf_X7_brazenIn : GoodIn wsX7_leastOf wsX7_brazenIn := goodIn_r _ [15, 16, 17, 18, 5, 19, 20, 21, 22, 23, 2, 24, 25, 26, 27, 28, 29, 30, 31, 32, 33, 34, 35, 36, 37, 38, 39, 40, 41, 42, 43, 44, 45, 46, 47, 48, 49, 50, 51, 52, 53, 54, 55, 56, 11, 57, 58, 59, 60, 61, 62, 63, 64, 65, 66, 67, 68, 69, 70, 71, 72, 73, 74, 75, 76, 77, 78, 79, 80, 81, 82, 83, 84, 85, 86, 87, 88, 89, 90, 91, 92, 93, 94, 95] (by decide +kernel) (by decide +kernel)
set_option maxRecDepth 20000 in
theorem gX7_leastOf_X7_brazenIn : GoodIn wsX7_leastOf (wsV RX7 244 RX7 yX7_brazenIn wsX7_brazenIn) := goodIn_app (goodIn_of _ (by decide +kernel)) ggX7_leastOf_X7_brazenIn
theorem dX7_leastOf_0 : decode cX7_leastOf 0 = .ok (.iload_n 3, 1) := by decide +kernel
theorem dX7_leastOf_1 : decode cX7_leastOf 1 = .ok (.i2l, 1) := by decide +kernel
theorem dX7_leastOf_2 : decode cX7_leastOf 2 = .ok (.lconst 0, 1) := by decide +kernel
theorem dX7_leastOf_3 : decode cX7_leastOf 3 = .ok (.ldc2_w 242, 3) := by decide +kernel
theorem dX7_leastOf_6 : decode cX7_leastOf 6 = .ok (.invokestatic 110, 3) := by decide +kernel
theorem dX7_leastOf_9 : decode cX7_leastOf 9 = .ok (.ifCond .ne 5, 3) := by decide +kernel
theorem dX7_leastOf_12 : decode cX7_leastOf 12 = .ok (.iconst (-1), 1) := by decide +kernel
theorem dX7_leastOf_13 : decode cX7_leastOf 13 = .ok (.ireturn, 1) := by decide +kernel
theorem dX7_leastOf_14 : decode cX7_leastOf 14 = .ok (.iconst 0, 1) := by decide +kernel
theorem dX7_leastOf_15 : decode cX7_leastOf 15 = .ok (.istore 4, 2) := by decide +kernel
theorem dX7_leastOf_17 : decode cX7_leastOf 17 = .ok (.iload 4, 2) := by decide +kernel
theorem dX7_leastOf_19 : decode cX7_leastOf 19 = .ok (.iload_n 2, 1) := by decide +kernel
theorem dX7_leastOf_20 : decode cX7_leastOf 20 = .ok (.if_icmp .gt 32, 3) := by decide +kernel
theorem dX7_leastOf_23 : decode cX7_leastOf 23 = .ok (.aload_n 0, 1) := by decide +kernel
theorem dX7_leastOf_24 : decode cX7_leastOf 24 = .ok (.invokevirtual 217, 3) := by decide +kernel
theorem dX7_leastOf_27 : decode cX7_leastOf 27 = .ok (.aload_n 0, 1) := by decide +kernel
theorem dX7_leastOf_28 : decode cX7_leastOf 28 = .ok (.getfield 13, 3) := by decide +kernel
theorem dX7_leastOf_31 : decode cX7_leastOf 31 = .ok (.iload_n 1, 1) := by decide +kernel
theorem dX7_leastOf_32 : decode cX7_leastOf 32 = .ok (.iload 4, 2) := by decide +kernel
theorem dX7_leastOf_34 : decode cX7_leastOf 34 = .ok (.iastore, 1) := by decide +kernel
theorem dX7_leastOf_35 : decode cX7_leastOf 35 = .ok (.aload_n 0, 1) := by decide +kernel
theorem dX7_leastOf_36 : decode cX7_leastOf 36 = .ok (.iload_n 3, 1) := by decide +kernel
theorem dX7_leastOf_37 : decode cX7_leastOf 37 = .ok (.invokevirtual 244, 3) := by decide +kernel
theorem dX7_leastOf_40 : decode cX7_leastOf 40 = .ok (.ifCond .ne 6, 3) := by decide +kernel
theorem dX7_leastOf_43 : decode cX7_leastOf 43 = .ok (.iload 4, 2) := by decide +kernel
theorem dX7_leastOf_45 : decode cX7_leastOf 45 = .ok (.ireturn, 1) := by decide +kernel
theorem dX7_leastOf_46 : decode cX7_leastOf 46 = .ok (.iinc 4 1, 3) := by decide +kernel
theorem dX7_leastOf_49 : decode cX7_leastOf 49 = .ok (.goto (-32), 3) := by decide +kernel
theorem dX7_leastOf_52 : decode cX7_leastOf 52 = .ok (.bipush (-4), 2) := by decide +kernel
theorem dX7_leastOf_54 : decode cX7_leastOf 54 = .ok (.ireturn, 1) := by decide +kernel
set_option maxRecDepth 20000 in
theorem ggX7_cover_X7_leastOf : GoodIn wsX7_cover wsX7_leastOf := goodIn_r _ [5, 6, 7, 8, 9, 4, 10, 11, 12, 13, 14, 15, 16, 17, 18, 19, 20, 21, 22, 23, 24, 25, 26, 27, 28, 29, 30, 31, 32, 33, 34, 35, 36, 37, 38, 39, 40, 41, 42, 43, 44, 45, 46, 47, 48, 49, 50, 51, 52, 53, 54, 55, 56, 57, 58, 59, 60, 61, 62, 63, 64, 65, 66, 67, 68, 69, 70, 71, 72, 73, 74, 75, 76, 77, 78, 79, 80, 81, 82, 83, 84, 85, 86, 87, 88, 89, 90, 91, 92, 93, 94, 95, 96, 97, 98, 99] (by decide +kernel) (by decide +kernel)
set_option maxRecDepth 20000 in
theorem gX7_cover_X7_leastOf : GoodIn wsX7_cover (wsV RX7 266 RX7 yX7_leastOf wsX7_leastOf) := goodIn_app (goodIn_of _ (by decide +kernel)) ggX7_cover_X7_leastOf
theorem dX7_cover_0 : decode cX7_cover 0 = .ok (.aload_n 0, 1) := by decide +kernel
theorem dX7_cover_1 : decode cX7_cover 1 = .ok (.bipush 24, 2) := by decide +kernel
theorem dX7_cover_3 : decode cX7_cover 3 = .ok (.bipush 99, 2) := by decide +kernel
theorem dX7_cover_5 : decode cX7_cover 5 = .ok (.iload_n 1, 1) := by decide +kernel
theorem dX7_cover_6 : decode cX7_cover 6 = .ok (.invokevirtual 266, 3) := by decide +kernel
theorem dX7_cover_9 : decode cX7_cover 9 = .ok (.ireturn, 1) := by decide +kernel
set_option maxRecDepth 20000 in
theorem ggX7_rate_X7_leastOf : GoodIn wsX7_rate wsX7_leastOf := goodIn_r _ [5, 6, 7, 8, 9, 4, 10, 11, 12, 13, 14, 15, 16, 17, 18, 19, 20, 21, 22, 23, 24, 25, 26, 27, 28, 29, 30, 31, 32, 33, 34, 35, 36, 37, 38, 39, 40, 41, 42, 43, 44, 45, 46, 47, 48, 49, 50, 51, 52, 53, 54, 55, 56, 57, 58, 59, 60, 61, 62, 63, 64, 65, 66, 67, 68, 69, 70, 71, 72, 73, 74, 75, 76, 77, 78, 79, 80, 81, 82, 83, 84, 85, 86, 87, 88, 89, 90, 91, 92, 93, 94, 95, 96, 97, 98, 99] (by decide +kernel) (by decide +kernel)
set_option maxRecDepth 20000 in
theorem gX7_rate_X7_leastOf : GoodIn wsX7_rate (wsV RX7 266 RX7 yX7_leastOf wsX7_leastOf) := goodIn_app (goodIn_of _ (by decide +kernel)) ggX7_rate_X7_leastOf
theorem dX7_rate_0 : decode cX7_rate 0 = .ok (.aload_n 0, 1) := by decide +kernel
theorem dX7_rate_1 : decode cX7_rate 1 = .ok (.bipush 23, 2) := by decide +kernel
theorem dX7_rate_3 : decode cX7_rate 3 = .ok (.bipush 9, 2) := by decide +kernel
theorem dX7_rate_5 : decode cX7_rate 5 = .ok (.iload_n 1, 1) := by decide +kernel
theorem dX7_rate_6 : decode cX7_rate 6 = .ok (.invokevirtual 266, 3) := by decide +kernel
theorem dX7_rate_9 : decode cX7_rate 9 = .ok (.ireturn, 1) := by decide +kernel
set_option maxRecDepth 20000 in
theorem ggX7_brazenAsNow_X7_starts : GoodIn wsX7_brazenAsNow wsX7_starts := goodIn_r _ [5, 6, 7, 57, 58, 59, 60, 61, 62, 63, 64, 65, 66, 67, 68, 69, 70, 71, 72, 73, 74, 75, 76, 77, 78, 79, 80, 81, 82, 83, 84, 85, 86, 87, 88, 89, 90, 91, 92, 93, 94, 95] (by decide +kernel) (by decide +kernel)
set_option maxRecDepth 20000 in
theorem gX7_brazenAsNow_X7_starts : GoodIn wsX7_brazenAsNow (wsV RX7 217 RX7 yX7_starts wsX7_starts) := goodIn_app (goodIn_of _ (by decide +kernel)) ggX7_brazenAsNow_X7_starts
set_option maxRecDepth 20000 in
theorem ggX7_brazenAsNow_X7_weeksLeft : GoodIn wsX7_brazenAsNow wsX7_weeksLeft := goodIn_r _ [11, 7, 57, 58, 59, 60, 61, 62, 63, 64, 65, 66, 67, 68, 69, 70, 71, 72, 73, 74, 75, 76, 77, 78, 79, 80, 81, 82, 83, 84, 85, 86, 87, 88, 89, 90, 91, 92, 93, 94, 95] (by decide +kernel) (by decide +kernel)
set_option maxRecDepth 20000 in
theorem gX7_brazenAsNow_X7_weeksLeft : GoodIn wsX7_brazenAsNow (wsV RX7 253 RX7 yX7_weeksLeft wsX7_weeksLeft) := goodIn_app (goodIn_of _ (by decide +kernel)) ggX7_brazenAsNow_X7_weeksLeft
set_option maxRecDepth 20000 in
theorem ggX7_brazenAsNow_X7_brazenIn : GoodIn wsX7_brazenAsNow wsX7_brazenIn := goodIn_r _ [15, 16, 17, 18, 4, 19, 20, 21, 22, 23, 6, 24, 25, 26, 27, 28, 29, 30, 31, 32, 33, 34, 35, 36, 37, 38, 39, 40, 41, 42, 43, 44, 45, 46, 47, 48, 49, 50, 51, 52, 53, 54, 55, 56, 7, 57, 58, 59, 60, 61, 62, 63, 64, 65, 66, 67, 68, 69, 70, 71, 72, 73, 74, 75, 76, 77, 78, 79, 80, 81, 82, 83, 84, 85, 86, 87, 88, 89, 90, 91, 92, 93, 94, 95] (by decide +kernel) (by decide +kernel)
set_option maxRecDepth 20000 in
theorem gX7_brazenAsNow_X7_brazenIn : GoodIn wsX7_brazenAsNow (wsV RX7 244 RX7 yX7_brazenIn wsX7_brazenIn) := goodIn_app (goodIn_of _ (by decide +kernel)) ggX7_brazenAsNow_X7_brazenIn
theorem dX7_brazenAsNow_0 : decode cX7_brazenAsNow 0 = .ok (.aload_n 0, 1) := by decide +kernel
theorem dX7_brazenAsNow_1 : decode cX7_brazenAsNow 1 = .ok (.invokevirtual 217, 3) := by decide +kernel
theorem dX7_brazenAsNow_4 : decode cX7_brazenAsNow 4 = .ok (.aload_n 0, 1) := by decide +kernel
theorem dX7_brazenAsNow_5 : decode cX7_brazenAsNow 5 = .ok (.aload_n 0, 1) := by decide +kernel
theorem dX7_brazenAsNow_6 : decode cX7_brazenAsNow 6 = .ok (.invokevirtual 253, 3) := by decide +kernel
theorem dX7_brazenAsNow_9 : decode cX7_brazenAsNow 9 = .ok (.invokevirtual 244, 3) := by decide +kernel
theorem dX7_brazenAsNow_12 : decode cX7_brazenAsNow 12 = .ok (.ireturn, 1) := by decide +kernel
set_option maxRecDepth 20000 in
theorem ggX7_gift_X7_in : GoodIn wsX7_gift wsX7_in := goodIn_r _ [6] (by decide +kernel) (by decide +kernel)
set_option maxRecDepth 20000 in
theorem gX7_gift_X7_in : GoodIn wsX7_gift (va_wsS RX7 110 yX7_in wsX7_in) := goodIn_app (goodIn_of _ (by decide +kernel)) ggX7_gift_X7_in
set_option maxRecDepth 20000 in
theorem ggX7_gift_X7_isPart : GoodIn wsX7_gift wsX7_isPart := goodIn_r _ [9, 3, 4, 5, 6] (by decide +kernel) (by decide +kernel)
set_option maxRecDepth 20000 in
theorem gX7_gift_X7_isPart : GoodIn wsX7_gift (va_wsS RX7 234 yX7_isPart wsX7_isPart) := goodIn_app (goodIn_of _ (by decide +kernel)) ggX7_gift_X7_isPart
set_option maxRecDepth 20000 in
theorem ggX7_gift_X7_brazenAsNow : GoodIn wsX7_gift wsX7_brazenAsNow := goodIn_r _ [13, 14, 15, 16, 5, 17, 18, 19, 20, 21, 22, 23, 24, 25, 26, 27, 28, 29, 30, 31, 32, 33, 34, 35, 36, 37, 38, 39, 40, 41, 2, 42, 43, 44, 45, 46, 47, 48, 49, 50, 51, 52, 53, 54, 55, 56, 57, 58, 59, 60, 61, 62, 63, 64, 65, 66, 67, 68, 69, 70, 71, 72, 73, 74, 75, 76, 77, 78, 79, 80, 81, 82, 83, 84, 85, 86, 87, 88, 89, 90, 91, 92, 93, 94, 95, 96, 97, 98, 99, 100, 101, 102, 103, 104, 105, 106] (by decide +kernel) (by decide +kernel)
set_option maxRecDepth 20000 in
theorem gX7_gift_X7_brazenAsNow : GoodIn wsX7_gift (wsV RX7 270 RX7 yX7_brazenAsNow wsX7_brazenAsNow) := goodIn_app (goodIn_of _ (by decide +kernel)) ggX7_gift_X7_brazenAsNow
set_option maxRecDepth 20000 in
theorem ggX7_gift_X7_starts : GoodIn wsX7_gift wsX7_starts := goodIn_r _ [17, 18, 19, 68, 69, 70, 71, 72, 73, 74, 75, 76, 77, 78, 79, 80, 81, 82, 83, 84, 85, 86, 87, 88, 89, 90, 91, 92, 93, 94, 95, 96, 97, 98, 99, 100, 101, 102, 103, 104, 105, 106] (by decide +kernel) (by decide +kernel)
set_option maxRecDepth 20000 in
theorem gX7_gift_X7_starts : GoodIn wsX7_gift (wsV RX7 217 RX7 yX7_starts wsX7_starts) := goodIn_app (goodIn_of _ (by decide +kernel)) ggX7_gift_X7_starts
set_option maxRecDepth 20000 in
theorem ggX7_gift_X7_more : GoodIn wsX7_gift wsX7_more := goodIn_r _ [54, 18, 68, 69, 70, 71, 72, 73, 74, 75, 76, 77, 78, 79, 80, 81, 82, 83, 84, 85, 86, 87, 88, 89, 90, 91, 92, 93, 94, 95, 96, 97, 98, 99, 100, 101, 102, 103, 104, 105, 106] (by decide +kernel) (by decide +kernel)
set_option maxRecDepth 20000 in
theorem gX7_gift_X7_more : GoodIn wsX7_gift (wsV RX7 188 RX7 yX7_more wsX7_more) := goodIn_app (goodIn_of _ (by decide +kernel)) ggX7_gift_X7_more
set_option maxRecDepth 20000 in
theorem ggX7_gift_X7_weeksLeft : GoodIn wsX7_gift wsX7_weeksLeft := goodIn_r _ [23, 19, 68, 69, 70, 71, 72, 73, 74, 75, 76, 77, 78, 79, 80, 81, 82, 83, 84, 85, 86, 87, 88, 89, 90, 91, 92, 93, 94, 95, 96, 97, 98, 99, 100, 101, 102, 103, 104, 105, 106] (by decide +kernel) (by decide +kernel)
set_option maxRecDepth 20000 in
theorem gX7_gift_X7_weeksLeft : GoodIn wsX7_gift (wsV RX7 253 RX7 yX7_weeksLeft wsX7_weeksLeft) := goodIn_app (goodIn_of _ (by decide +kernel)) ggX7_gift_X7_weeksLeft
set_option maxRecDepth 20000 in
theorem ggX7_gift_X7_brazenIn : GoodIn wsX7_gift wsX7_brazenIn := goodIn_r _ [27, 28, 29, 30, 5, 31, 32, 33, 34, 35, 18, 36, 37, 38, 39, 40, 41, 2, 42, 43, 44, 45, 46, 47, 48, 49, 50, 51, 52, 53, 54, 55, 56, 57, 58, 59, 60, 61, 62, 63, 64, 65, 66, 67, 19, 68, 69, 70, 71, 72, 73, 74, 75, 76, 77, 78, 79, 80, 81, 82, 83, 84, 85, 86, 87, 88, 89, 90, 91, 92, 93, 94, 95, 96, 97, 98, 99, 100, 101, 102, 103, 104, 105, 106] (by decide +kernel) (by decide +kernel)
set_option maxRecDepth 20000 in
theorem gX7_gift_X7_brazenIn : GoodIn wsX7_gift (wsV RX7 244 RX7 yX7_brazenIn wsX7_brazenIn) := goodIn_app (goodIn_of _ (by decide +kernel)) ggX7_gift_X7_brazenIn
theorem dX7_gift_0 : decode cX7_gift 0 = .ok (.iload_n 1, 1) := by decide +kernel
theorem dX7_gift_1 : decode cX7_gift 1 = .ok (.i2l, 1) := by decide +kernel
theorem dX7_gift_2 : decode cX7_gift 2 = .ok (.lconst 0, 1) := by decide +kernel
theorem dX7_gift_3 : decode cX7_gift 3 = .ok (.ldc2_w 222, 3) := by decide +kernel
theorem dX7_gift_6 : decode cX7_gift 6 = .ok (.invokestatic 110, 3) := by decide +kernel
theorem dX7_gift_9 : decode cX7_gift 9 = .ok (.ifCond .eq 10, 3) := by decide +kernel
theorem dX7_gift_12 : decode cX7_gift 12 = .ok (.iload_n 2, 1) := by decide +kernel
theorem dX7_gift_13 : decode cX7_gift 13 = .ok (.invokestatic 234, 3) := by decide +kernel
theorem dX7_gift_16 : decode cX7_gift 16 = .ok (.ifCond .ne 5, 3) := by decide +kernel
theorem dX7_gift_19 : decode cX7_gift 19 = .ok (.iconst (-1), 1) := by decide +kernel
theorem dX7_gift_20 : decode cX7_gift 20 = .ok (.ireturn, 1) := by decide +kernel
theorem dX7_gift_21 : decode cX7_gift 21 = .ok (.aload_n 0, 1) := by decide +kernel
theorem dX7_gift_22 : decode cX7_gift 22 = .ok (.invokevirtual 270, 3) := by decide +kernel
theorem dX7_gift_25 : decode cX7_gift 25 = .ok (.istore_n 3, 1) := by decide +kernel
theorem dX7_gift_26 : decode cX7_gift 26 = .ok (.bipush (-4), 2) := by decide +kernel
theorem dX7_gift_28 : decode cX7_gift 28 = .ok (.istore 4, 2) := by decide +kernel
theorem dX7_gift_30 : decode cX7_gift 30 = .ok (.iconst 0, 1) := by decide +kernel
theorem dX7_gift_31 : decode cX7_gift 31 = .ok (.istore 5, 2) := by decide +kernel
theorem dX7_gift_33 : decode cX7_gift 33 = .ok (.iload 5, 2) := by decide +kernel
theorem dX7_gift_35 : decode cX7_gift 35 = .ok (.aload_n 0, 1) := by decide +kernel
theorem dX7_gift_36 : decode cX7_gift 36 = .ok (.getfield 99, 3) := by decide +kernel
theorem dX7_gift_39 : decode cX7_gift 39 = .ok (.if_icmp .ge 59, 3) := by decide +kernel
theorem dX7_gift_42 : decode cX7_gift 42 = .ok (.aload_n 0, 1) := by decide +kernel
theorem dX7_gift_43 : decode cX7_gift 43 = .ok (.invokevirtual 217, 3) := by decide +kernel
theorem dX7_gift_46 : decode cX7_gift 46 = .ok (.aload_n 0, 1) := by decide +kernel
theorem dX7_gift_47 : decode cX7_gift 47 = .ok (.iload 5, 2) := by decide +kernel
theorem dX7_gift_49 : decode cX7_gift 49 = .ok (.iconst 1, 1) := by decide +kernel
theorem dX7_gift_50 : decode cX7_gift 50 = .ok (.iload_n 1, 1) := by decide +kernel
theorem dX7_gift_51 : decode cX7_gift 51 = .ok (.invokevirtual 188, 3) := by decide +kernel
theorem dX7_gift_54 : decode cX7_gift 54 = .ok (.aload_n 0, 1) := by decide +kernel
theorem dX7_gift_55 : decode cX7_gift 55 = .ok (.aload_n 0, 1) := by decide +kernel
theorem dX7_gift_56 : decode cX7_gift 56 = .ok (.invokevirtual 253, 3) := by decide +kernel
theorem dX7_gift_59 : decode cX7_gift 59 = .ok (.invokevirtual 244, 3) := by decide +kernel
theorem dX7_gift_62 : decode cX7_gift 62 = .ok (.istore 6, 2) := by decide +kernel
theorem dX7_gift_64 : decode cX7_gift 64 = .ok (.iload 6, 2) := by decide +kernel
theorem dX7_gift_66 : decode cX7_gift 66 = .ok (.iload_n 3, 1) := by decide +kernel
theorem dX7_gift_67 : decode cX7_gift 67 = .ok (.if_icmp .ge 8, 3) := by decide +kernel
theorem dX7_gift_70 : decode cX7_gift 70 = .ok (.iload 5, 2) := by decide +kernel
theorem dX7_gift_72 : decode cX7_gift 72 = .ok (.goto 5, 3) := by decide +kernel
theorem dX7_gift_75 : decode cX7_gift 75 = .ok (.iload 4, 2) := by decide +kernel
theorem dX7_gift_77 : decode cX7_gift 77 = .ok (.istore 4, 2) := by decide +kernel
theorem dX7_gift_79 : decode cX7_gift 79 = .ok (.iload 6, 2) := by decide +kernel
theorem dX7_gift_81 : decode cX7_gift 81 = .ok (.iload_n 3, 1) := by decide +kernel
theorem dX7_gift_82 : decode cX7_gift 82 = .ok (.if_icmp .ge 8, 3) := by decide +kernel
theorem dX7_gift_85 : decode cX7_gift 85 = .ok (.iload 6, 2) := by decide +kernel
theorem dX7_gift_87 : decode cX7_gift 87 = .ok (.goto 4, 3) := by decide +kernel
theorem dX7_gift_90 : decode cX7_gift 90 = .ok (.iload_n 3, 1) := by decide +kernel
theorem dX7_gift_91 : decode cX7_gift 91 = .ok (.istore_n 3, 1) := by decide +kernel
theorem dX7_gift_92 : decode cX7_gift 92 = .ok (.iinc 5 1, 3) := by decide +kernel
theorem dX7_gift_95 : decode cX7_gift 95 = .ok (.goto (-62), 3) := by decide +kernel
theorem dX7_gift_98 : decode cX7_gift 98 = .ok (.iload 4, 2) := by decide +kernel
theorem dX7_gift_100 : decode cX7_gift 100 = .ok (.bipush (-4), 2) := by decide +kernel
