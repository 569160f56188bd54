theorem dX6_whisper_81 : decode cX6_whisper 81 = .ok (.ireturn, 1) := by decide +kernel
set_option maxRecDepth 20000 in
theorem ggX6_note_X6_isOne : GoodIn wsX6_note wsX6_isOne := goodIn_r _ [8, 1, 9, 22, 23, 24, 25, 26, 27, 28, 29, 30, 31, 32, 33, 34, 35, 36, 37, 38, 39, 40, 41] (by decide +kernel) (by decide +kernel)
set_option maxRecDepth 20000 in
theorem gX6_note_X6_isOne : GoodIn wsX6_note (wsV RX6 114 RX6 yX6_isOne wsX6_isOne) := goodIn_app (goodIn_of _ (by decide +kernel)) ggX6_note_X6_isOne
set_option maxRecDepth 20000 in
theorem ggX6_note_X6_isWithin : GoodIn wsX6_note wsX6_isWithin := goodIn_r _ [12] (by decide +kernel) (by decide +kernel)
set_option maxRecDepth 20000 in
theorem gX6_note_X6_isWithin : GoodIn wsX6_note (va_wsS RX6 58 yX6_isWithin wsX6_isWithin) := goodIn_app (goodIn_of _ (by decide +kernel)) ggX6_note_X6_isWithin
set_option maxRecDepth 20000 in
theorem ggX6_note_X2_append : GoodIn wsX6_note wsX2_append := goodIn_r _ [17, 18, 19, 20, 21, 42, 43, 44, 45] (by decide +kernel) (by decide +kernel)
set_option maxRecDepth 20000 in
theorem gX6_note_X2_append : GoodIn wsX6_note (wsV RX6 218 RX2 yX2_append wsX2_append) := goodIn_app (goodIn_of _ (by decide +kernel)) ggX6_note_X2_append
theorem dX6_note_0 : decode cX6_note 0 = .ok (.aload_n 0, 1) := by decide +kernel
theorem dX6_note_1 : decode cX6_note 1 = .ok (.iload_n 1, 1) := by decide +kernel
theorem dX6_note_2 : decode cX6_note 2 = .ok (.invokevirtual 114, 3) := by decide +kernel
theorem dX6_note_5 : decode cX6_note 5 = .ok (.ifCond .eq 12, 3) := by decide +kernel
theorem dX6_note_8 : decode cX6_note 8 = .ok (.iload_n 2, 1) := by decide +kernel
theorem dX6_note_9 : decode cX6_note 9 = .ok (.bipush 9, 2) := by decide +kernel
theorem dX6_note_11 : decode cX6_note 11 = .ok (.invokestatic 58, 3) := by decide +kernel
theorem dX6_note_14 : decode cX6_note 14 = .ok (.ifCond .ne 5, 3) := by decide +kernel
theorem dX6_note_17 : decode cX6_note 17 = .ok (.iconst (-1), 1) := by decide +kernel
theorem dX6_note_18 : decode cX6_note 18 = .ok (.ireturn, 1) := by decide +kernel
theorem dX6_note_19 : decode cX6_note 19 = .ok (.iload_n 2, 1) := by decide +kernel
theorem dX6_note_20 : decode cX6_note 20 = .ok (.aload_n 0, 1) := by decide +kernel
theorem dX6_note_21 : decode cX6_note 21 = .ok (.getfield 26, 3) := by decide +kernel
theorem dX6_note_24 : decode cX6_note 24 = .ok (.getfield 108, 3) := by decide +kernel
theorem dX6_note_27 : decode cX6_note 27 = .ok (.if_icmp .ge 6, 3) := by decide +kernel
theorem dX6_note_30 : decode cX6_note 30 = .ok (.bipush (-2), 2) := by decide +kernel
theorem dX6_note_32 : decode cX6_note 32 = .ok (.ireturn, 1) := by decide +kernel
theorem dX6_note_33 : decode cX6_note 33 = .ok (.aload_n 0, 1) := by decide +kernel
theorem dX6_note_34 : decode cX6_note 34 = .ok (.getfield 33, 3) := by decide +kernel
theorem dX6_note_37 : decode cX6_note 37 = .ok (.iload_n 1, 1) := by decide +kernel
theorem dX6_note_38 : decode cX6_note 38 = .ok (.iload_n 2, 1) := by decide +kernel
theorem dX6_note_39 : decode cX6_note 39 = .ok (.iload_n 3, 1) := by decide +kernel
theorem dX6_note_40 : decode cX6_note 40 = .ok (.invokevirtual 218, 3) := by decide +kernel
theorem dX6_note_43 : decode cX6_note 43 = .ok (.ireturn, 1) := by decide +kernel
set_option maxRecDepth 20000 in
theorem ggX6_forget_X6_isWithin : GoodIn wsX6_forget wsX6_isWithin := goodIn_r _ [6] (by decide +kernel) (by decide +kernel)
set_option maxRecDepth 20000 in
theorem gX6_forget_X6_isWithin : GoodIn wsX6_forget (va_wsS RX6 58 yX6_isWithin wsX6_isWithin) := goodIn_app (goodIn_of _ (by decide +kernel)) ggX6_forget_X6_isWithin
theorem dX6_forget_0 : decode cX6_forget 0 = .ok (.iload_n 1, 1) := by decide +kernel
theorem dX6_forget_1 : decode cX6_forget 1 = .ok (.aload_n 0, 1) := by decide +kernel
theorem dX6_forget_2 : decode cX6_forget 2 = .ok (.getfield 33, 3) := by decide +kernel
theorem dX6_forget_5 : decode cX6_forget 5 = .ok (.getfield 86, 3) := by decide +kernel
theorem dX6_forget_8 : decode cX6_forget 8 = .ok (.invokestatic 58, 3) := by decide +kernel
theorem dX6_forget_11 : decode cX6_forget 11 = .ok (.ifCond .ne 5, 3) := by decide +kernel
theorem dX6_forget_14 : decode cX6_forget 14 = .ok (.iconst (-1), 1) := by decide +kernel
theorem dX6_forget_15 : decode cX6_forget 15 = .ok (.ireturn, 1) := by decide +kernel
theorem dX6_forget_16 : decode cX6_forget 16 = .ok (.aload_n 0, 1) := by decide +kernel
theorem dX6_forget_17 : decode cX6_forget 17 = .ok (.getfield 33, 3) := by decide +kernel
theorem dX6_forget_20 : decode cX6_forget 20 = .ok (.getfield 86, 3) := by decide +kernel
theorem dX6_forget_23 : decode cX6_forget 23 = .ok (.istore_n 2, 1) := by decide +kernel
theorem dX6_forget_24 : decode cX6_forget 24 = .ok (.aload_n 0, 1) := by decide +kernel
theorem dX6_forget_25 : decode cX6_forget 25 = .ok (.getfield 33, 3) := by decide +kernel
theorem dX6_forget_28 : decode cX6_forget 28 = .ok (.iload_n 1, 1) := by decide +kernel
theorem dX6_forget_29 : decode cX6_forget 29 = .ok (.putfield 86, 3) := by decide +kernel
theorem dX6_forget_32 : decode cX6_forget 32 = .ok (.iload_n 2, 1) := by decide +kernel
theorem dX6_forget_33 : decode cX6_forget 33 = .ok (.ireturn, 1) := by decide +kernel
set_option maxRecDepth 20000 in
theorem ggX6_fits_X6_isWithin : GoodIn wsX6_fits wsX6_isWithin := goodIn_r _ [4] (by decide +kernel) (by decide +kernel)
set_option maxRecDepth 20000 in
theorem gX6_fits_X6_isWithin : GoodIn wsX6_fits (va_wsS RX6 58 yX6_isWithin wsX6_isWithin) := goodIn_app (goodIn_of _ (by decide +kernel)) ggX6_fits_X6_isWithin
set_option maxRecDepth 20000 in
theorem ggX6_fits_X6_allIncidents : GoodIn wsX6_fits wsX6_allIncidents := goodIn_r _ [8, 9, 10, 99, 100, 101, 102, 103, 104, 105, 106, 107, 108, 109, 110, 111, 112, 113, 114, 115] (by decide +kernel) (by decide +kernel)
set_option maxRecDepth 20000 in
theorem gX6_fits_X6_allIncidents : GoodIn wsX6_fits (wsV RX6 178 RX6 yX6_allIncidents wsX6_allIncidents) := goodIn_app (goodIn_of _ (by decide +kernel)) ggX6_fits_X6_allIncidents
set_option maxRecDepth 20000 in
theorem ggX6_fits_X6_keepsThePast : GoodIn wsX6_fits wsX6_keepsThePast := goodIn_r _ [14, 15, 16, 9, 10, 17, 18, 99, 100, 101, 102, 103, 104, 105, 106, 107, 116, 117, 118, 119, 120, 121, 122, 123, 124, 125, 126, 108, 109, 110, 111, 112, 113, 114, 115] (by decide +kernel) (by decide +kernel)
set_option maxRecDepth 20000 in
theorem gX6_fits_X6_keepsThePast : GoodIn wsX6_fits (wsV RX6 181 RX6 yX6_keepsThePast wsX6_keepsThePast) := goodIn_app (goodIn_of _ (by decide +kernel)) ggX6_fits_X6_keepsThePast
set_option maxRecDepth 20000 in
theorem ggX6_fits_X6_isAsNoted : GoodIn wsX6_fits wsX6_isAsNoted := goodIn_r _ [22, 23, 15, 16, 18, 9, 24, 25, 26, 27, 28, 29, 30, 31, 32, 33, 34, 35, 36, 37, 38, 39, 40, 41, 42, 43, 44, 45, 46, 47, 48, 49, 50, 51, 52, 53, 54, 55, 56, 57, 58, 59, 60, 61, 62, 63, 64, 65, 66, 67, 68, 69, 70, 71, 72, 73, 74, 75, 76, 77, 78, 79, 80, 81, 82, 83, 84, 85, 86, 87, 88, 89, 90, 91, 92, 93, 94, 95, 96, 97, 98, 99, 100, 101, 102, 103, 104, 105, 106, 107, 116, 117, 118, 119, 120, 121, 122, 123, 124, 125, 126, 108, 109, 110, 111, 112, 113, 114, 115, 127, 128, 129, 130] (by decide +kernel) (by decide +kernel)
set_option maxRecDepth 20000 in
theorem gX6_fits_X6_isAsNoted : GoodIn wsX6_fits (wsV RX6 221 RX6 yX6_isAsNoted wsX6_isAsNoted) := goodIn_app (goodIn_of _ (by decide +kernel)) ggX6_fits_X6_isAsNoted
theorem dX6_fits_0 : decode cX6_fits 0 = .ok (.iload_n 1, 1) := by decide +kernel
theorem dX6_fits_1 : decode cX6_fits 1 = .ok (.iconst 3, 1) := by decide +kernel
theorem dX6_fits_2 : decode cX6_fits 2 = .ok (.invokestatic 58, 3) := by decide +kernel
theorem dX6_fits_5 : decode cX6_fits 5 = .ok (.ifCond .ne 5, 3) := by decide +kernel
theorem dX6_fits_8 : decode cX6_fits 8 = .ok (.iconst (-1), 1) := by decide +kernel
theorem dX6_fits_9 : decode cX6_fits 9 = .ok (.ireturn, 1) := by decide +kernel
theorem dX6_fits_10 : decode cX6_fits 10 = .ok (.iconst 0, 1) := by decide +kernel
theorem dX6_fits_11 : decode cX6_fits 11 = .ok (.istore_n 2, 1) := by decide +kernel
theorem dX6_fits_12 : decode cX6_fits 12 = .ok (.bipush (-4), 2) := by decide +kernel
theorem dX6_fits_14 : decode cX6_fits 14 = .ok (.istore_n 3, 1) := by decide +kernel
theorem dX6_fits_15 : decode cX6_fits 15 = .ok (.aload_n 0, 1) := by decide +kernel
theorem dX6_fits_16 : decode cX6_fits 16 = .ok (.invokevirtual 178, 3) := by decide +kernel
theorem dX6_fits_19 : decode cX6_fits 19 = .ok (.istore 4, 2) := by decide +kernel
theorem dX6_fits_21 : decode cX6_fits 21 = .ok (.iconst 0, 1) := by decide +kernel
theorem dX6_fits_22 : decode cX6_fits 22 = .ok (.istore 5, 2) := by decide +kernel
theorem dX6_fits_24 : decode cX6_fits 24 = .ok (.iconst 0, 1) := by decide +kernel
theorem dX6_fits_25 : decode cX6_fits 25 = .ok (.istore 6, 2) := by decide +kernel
theorem dX6_fits_27 : decode cX6_fits 27 = .ok (.iload 6, 2) := by decide +kernel
theorem dX6_fits_29 : decode cX6_fits 29 = .ok (.aload_n 0, 1) := by decide +kernel
theorem dX6_fits_30 : decode cX6_fits 30 = .ok (.invokevirtual 178, 3) := by decide +kernel
theorem dX6_fits_33 : decode cX6_fits 33 = .ok (.if_icmp .gt 55, 3) := by decide +kernel
theorem dX6_fits_36 : decode cX6_fits 36 = .ok (.aload_n 0, 1) := by decide +kernel
theorem dX6_fits_37 : decode cX6_fits 37 = .ok (.iload 6, 2) := by decide +kernel
theorem dX6_fits_39 : decode cX6_fits 39 = .ok (.invokevirtual 181, 3) := by decide +kernel
theorem dX6_fits_42 : decode cX6_fits 42 = .ok (.ifCond .eq 40, 3) := by decide +kernel
theorem dX6_fits_45 : decode cX6_fits 45 = .ok (.aload_n 0, 1) := by decide +kernel
theorem dX6_fits_46 : decode cX6_fits 46 = .ok (.iload 6, 2) := by decide +kernel
theorem dX6_fits_48 : decode cX6_fits 48 = .ok (.invokevirtual 221, 3) := by decide +kernel
theorem dX6_fits_51 : decode cX6_fits 51 = .ok (.ifCond .eq 31, 3) := by decide +kernel
theorem dX6_fits_54 : decode cX6_fits 54 = .ok (.iload_n 2, 1) := by decide +kernel
theorem dX6_fits_55 : decode cX6_fits 55 = .ok (.ifCond .ne 8, 3) := by decide +kernel
theorem dX6_fits_58 : decode cX6_fits 58 = .ok (.iload 6, 2) := by decide +kernel
theorem dX6_fits_60 : decode cX6_fits 60 = .ok (.goto 4, 3) := by decide +kernel
theorem dX6_fits_63 : decode cX6_fits 63 = .ok (.iload_n 3, 1) := by decide +kernel
theorem dX6_fits_64 : decode cX6_fits 64 = .ok (.istore_n 3, 1) := by decide +kernel
theorem dX6_fits_65 : decode cX6_fits 65 = .ok (.iinc 2 1, 3) := by decide +kernel
theorem dX6_fits_68 : decode cX6_fits 68 = .ok (.iload 4, 2) := by decide +kernel
theorem dX6_fits_70 : decode cX6_fits 70 = .ok (.iload 6, 2) := by decide +kernel
theorem dX6_fits_72 : decode cX6_fits 72 = .ok (.iand, 1) := by decide +kernel
theorem dX6_fits_73 : decode cX6_fits 73 = .ok (.istore 4, 2) := by decide +kernel
theorem dX6_fits_75 : decode cX6_fits 75 = .ok (.iload 5, 2) := by decide +kernel
theorem dX6_fits_77 : decode cX6_fits 77 = .ok (.iload 6, 2) := by decide +kernel
theorem dX6_fits_79 : decode cX6_fits 79 = .ok (.ior, 1) := by decide +kernel
theorem dX6_fits_80 : decode cX6_fits 80 = .ok (.istore 5, 2) := by decide +kernel
theorem dX6_fits_82 : decode cX6_fits 82 = .ok (.iinc 6 1, 3) := by decide +kernel
theorem dX6_fits_85 : decode cX6_fits 85 = .ok (.goto (-58), 3) := by decide +kernel
theorem dX6_fits_88 : decode cX6_fits 88 = .ok (.iload_n 1, 1) := by decide +kernel
theorem dX6_fits_89 : decode cX6_fits 89 = .ok (.ifCond .ne 5, 3) := by decide +kernel
theorem dX6_fits_92 : decode cX6_fits 92 = .ok (.iload_n 2, 1) := by decide +kernel
theorem dX6_fits_93 : decode cX6_fits 93 = .ok (.ireturn, 1) := by decide +kernel
theorem dX6_fits_94 : decode cX6_fits 94 = .ok (.iload_n 1, 1) := by decide +kernel
theorem dX6_fits_95 : decode cX6_fits 95 = .ok (.iconst 1, 1) := by decide +kernel
theorem dX6_fits_96 : decode cX6_fits 96 = .ok (.if_icmp .eq 7, 3) := by decide +kernel
theorem dX6_fits_99 : decode cX6_fits 99 = .ok (.iload_n 2, 1) := by decide +kernel
theorem dX6_fits_100 : decode cX6_fits 100 = .ok (.ifCond .ne 5, 3) := by decide +kernel
theorem dX6_fits_103 : decode cX6_fits 103 = .ok (.iload_n 3, 1) := by decide +kernel
theorem dX6_fits_104 : decode cX6_fits 104 = .ok (.ireturn, 1) := by decide +kernel
theorem dX6_fits_105 : decode cX6_fits 105 = .ok (.iload_n 1, 1) := by decide +kernel
theorem dX6_fits_106 : decode cX6_fits 106 = .ok (.iconst 2, 1) := by decide +kernel
theorem dX6_fits_107 : decode cX6_fits 107 = .ok (.if_icmp .ne 8, 3) := by decide +kernel
theorem dX6_fits_110 : decode cX6_fits 110 = .ok (.iload 4, 2) := by decide +kernel
theorem dX6_fits_112 : decode cX6_fits 112 = .ok (.goto 12, 3) := by decide +kernel
theorem dX6_fits_115 : decode cX6_fits 115 = .ok (.aload_n 0, 1) := by decide +kernel
theorem dX6_fits_116 : decode cX6_fits 116 = .ok (.invokevirtual 178, 3) := by decide +kernel
theorem dX6_fits_119 : decode cX6_fits 119 = .ok (.iload 5, 2) := by decide +kernel
theorem dX6_fits_121 : decode cX6_fits 121 = .ok (.iconst (-1), 1) := by decide +kernel
theorem dX6_fits_122 : decode cX6_fits 122 = .ok (.ixor, 1) := by decide +kernel
theorem dX6_fits_123 : decode cX6_fits 123 = .ok (.iand, 1) := by decide +kernel
theorem dX6_fits_124 : decode cX6_fits 124 = .ok (.ireturn, 1) := by decide +kernel
set_option maxRecDepth 20000 in
theorem ggX6_drift_X6_isWithin : GoodIn wsX6_drift wsX6_isWithin := goodIn_r _ [9] (by decide +kernel) (by decide +kernel)
set_option maxRecDepth 20000 in
theorem gX6_drift_X6_isWithin : GoodIn wsX6_drift (va_wsS RX6 58 yX6_isWithin wsX6_isWithin) := goodIn_app (goodIn_of _ (by decide +kernel)) ggX6_drift_X6_isWithin
set_option maxRecDepth 20000 in
theorem ggX6_drift_X1_copyFrom : GoodIn wsX6_drift wsX1_copyFrom := goodIn_r _ [14, 15, 16, 17, 18, 19, 20, 21, 22, 23, 24, 25, 26, 27, 28, 29, 88, 89, 90, 91, 92, 93, 94, 95, 96, 97, 98] (by decide +kernel) (by decide +kernel)
set_option maxRecDepth 20000 in
theorem gX6_drift_X1_copyFrom : GoodIn wsX6_drift (wsV RX6 83 RX1 yX1_copyFrom wsX1_copyFrom) := goodIn_app (goodIn_of _ (by decide +kernel)) ggX6_drift_X1_copyFrom
set_option maxRecDepth 20000 in
theorem ggX6_drift_X1_putInHand : GoodIn wsX6_drift wsX1_putInHand := goodIn_r _ [33, 21, 34, 35, 36, 37, 88, 89, 90, 91, 92, 93, 94, 95, 96, 97, 98] (by decide +kernel) (by decide +kernel)
set_option maxRecDepth 20000 in
theorem gX6_drift_X1_putInHand : GoodIn wsX6_drift (wsV RX6 202 RX1 yX1_putInHand wsX1_putInHand) := goodIn_app (goodIn_of _ (by decide +kernel)) ggX6_drift_X1_putInHand
set_option maxRecDepth 20000 in
theorem ggX6_drift_X1_passWeek : GoodIn wsX6_drift wsX1_passWeek := goodIn_r _ [41, 29, 42, 43, 28, 44, 45, 46, 47, 48, 49, 50, 13, 51, 52, 53, 54, 55, 56, 57, 24, 16, 58, 59, 60, 61, 25, 62, 63, 64, 65, 22, 34, 35, 36, 37, 66, 31, 32, 33, 21, 67, 68, 69, 70, 27, 23, 71, 72, 73, 74, 15, 26, 88, 89, 90, 91, 92, 93, 94, 95, 96, 97, 98, 99, 100, 101, 102, 103, 104, 105, 106] (by decide +kernel) (by decide +kernel)
set_option maxRecDepth 20000 in
theorem gX6_drift_X1_passWeek : GoodIn wsX6_drift (wsV RX6 171 RX1 yX1_passWeek wsX1_passWeek) := goodIn_app (goodIn_of _ (by decide +kernel)) ggX6_drift_X1_passWeek
set_option maxRecDepth 20000 in
theorem ggX6_drift_X1_sumInHand : GoodIn wsX6_drift wsX1_sumInHand := goodIn_r _ [78, 15, 21, 88, 89, 90, 91, 92, 93, 94, 95, 96, 97, 98] (by decide +kernel) (by decide +kernel)
set_option maxRecDepth 20000 in
theorem gX6_drift_X1_sumInHand : GoodIn wsX6_drift (wsV RX6 225 RX1 yX1_sumInHand wsX1_sumInHand) := goodIn_app (goodIn_of _ (by decide +kernel)) ggX6_drift_X1_sumInHand
theorem dX6_drift_0 : decode cX6_drift 0 = .ok (.iload_n 2, 1) := by decide +kernel
theorem dX6_drift_1 : decode cX6_drift 1 = .ok (.iconst 1, 1) := by decide +kernel
theorem dX6_drift_2 : decode cX6_drift 2 = .ok (.if_icmp .lt 17, 3) := by decide +kernel
theorem dX6_drift_5 : decode cX6_drift 5 = .ok (.iload_n 2, 1) := by decide +kernel
theorem dX6_drift_6 : decode cX6_drift 6 = .ok (.bipush 20, 2) := by decide +kernel
theorem dX6_drift_8 : decode cX6_drift 8 = .ok (.if_icmp .gt 11, 3) := by decide +kernel
theorem dX6_drift_11 : decode cX6_drift 11 = .ok (.iload_n 3, 1) := by decide +kernel
theorem dX6_drift_12 : decode cX6_drift 12 = .ok (.iconst 1, 1) := by decide +kernel
theorem dX6_drift_13 : decode cX6_drift 13 = .ok (.invokestatic 58, 3) := by decide +kernel
theorem dX6_drift_16 : decode cX6_drift 16 = .ok (.ifCond .ne 5, 3) := by decide +kernel
theorem dX6_drift_19 : decode cX6_drift 19 = .ok (.iconst (-1), 1) := by decide +kernel
theorem dX6_drift_20 : decode cX6_drift 20 = .ok (.ireturn, 1) := by decide +kernel
theorem dX6_drift_21 : decode cX6_drift 21 = .ok (.aload_n 0, 1) := by decide +kernel
theorem dX6_drift_22 : decode cX6_drift 22 = .ok (.getfield 26, 3) := by decide +kernel
theorem dX6_drift_25 : decode cX6_drift 25 = .ok (.getfield 93, 3) := by decide +kernel
theorem dX6_drift_28 : decode cX6_drift 28 = .ok (.ifCond .ne 6, 3) := by decide +kernel
theorem dX6_drift_31 : decode cX6_drift 31 = .ok (.bipush (-2), 2) := by decide +kernel
theorem dX6_drift_33 : decode cX6_drift 33 = .ok (.ireturn, 1) := by decide +kernel
theorem dX6_drift_34 : decode cX6_drift 34 = .ok (.aload_n 0, 1) := by decide +kernel
theorem dX6_drift_35 : decode cX6_drift 35 = .ok (.getfield 37, 3) := by decide +kernel
theorem dX6_drift_38 : decode cX6_drift 38 = .ok (.aload_n 0, 1) := by decide +kernel
theorem dX6_drift_39 : decode cX6_drift 39 = .ok (.getfield 26, 3) := by decide +kernel
theorem dX6_drift_42 : decode cX6_drift 42 = .ok (.invokevirtual 83, 3) := by decide +kernel
theorem dX6_drift_45 : decode cX6_drift 45 = .ok (.iconst 0, 1) := by decide +kernel
theorem dX6_drift_46 : decode cX6_drift 46 = .ok (.istore 4, 2) := by decide +kernel
theorem dX6_drift_48 : decode cX6_drift 48 = .ok (.iload_n 1, 1) := by decide +kernel
theorem dX6_drift_49 : decode cX6_drift 49 = .ok (.istore 5, 2) := by decide +kernel
theorem dX6_drift_51 : decode cX6_drift 51 = .ok (.iconst 0, 1) := by decide +kernel
theorem dX6_drift_52 : decode cX6_drift 52 = .ok (.istore 6, 2) := by decide +kernel
theorem dX6_drift_54 : decode cX6_drift 54 = .ok (.iload 6, 2) := by decide +kernel
theorem dX6_drift_56 : decode cX6_drift 56 = .ok (.iload_n 2, 1) := by decide +kernel
theorem dX6_drift_57 : decode cX6_drift 57 = .ok (.if_icmp .ge 69, 3) := by decide +kernel
theorem dX6_drift_60 : decode cX6_drift 60 = .ok (.iload 5, 2) := by decide +kernel
theorem dX6_drift_62 : decode cX6_drift 62 = .ok (.ldc 224, 2) := by decide +kernel
theorem dX6_drift_64 : decode cX6_drift 64 = .ok (.imul, 1) := by decide +kernel
theorem dX6_drift_65 : decode cX6_drift 65 = .ok (.sipush 12345, 3) := by decide +kernel
theorem dX6_drift_68 : decode cX6_drift 68 = .ok (.iadd, 1) := by decide +kernel
theorem dX6_drift_69 : decode cX6_drift 69 = .ok (.istore 5, 2) := by decide +kernel
theorem dX6_drift_71 : decode cX6_drift 71 = .ok (.iload 5, 2) := by decide +kernel
theorem dX6_drift_73 : decode cX6_drift 73 = .ok (.bipush 16, 2) := by decide +kernel
theorem dX6_drift_75 : decode cX6_drift 75 = .ok (.iushr, 1) := by decide +kernel
theorem dX6_drift_76 : decode cX6_drift 76 = .ok (.sipush 32767, 3) := by decide +kernel
theorem dX6_drift_79 : decode cX6_drift 79 = .ok (.iand, 1) := by decide +kernel
theorem dX6_drift_80 : decode cX6_drift 80 = .ok (.istore 7, 2) := by decide +kernel
theorem dX6_drift_82 : decode cX6_drift 82 = .ok (.aload_n 0, 1) := by decide +kernel
theorem dX6_drift_83 : decode cX6_drift 83 = .ok (.getfield 37, 3) := by decide +kernel
theorem dX6_drift_86 : decode cX6_drift 86 = .ok (.iload 7, 2) := by decide +kernel
theorem dX6_drift_88 : decode cX6_drift 88 = .ok (.aload_n 0, 1) := by decide +kernel
theorem dX6_drift_89 : decode cX6_drift 89 = .ok (.getfield 26, 3) := by decide +kernel
theorem dX6_drift_92 : decode cX6_drift 92 = .ok (.getfield 93, 3) := by decide +kernel
theorem dX6_drift_95 : decode cX6_drift 95 = .ok (.irem, 1) := by decide +kernel
theorem dX6_drift_96 : decode cX6_drift 96 = .ok (.iload 7, 2) := by decide +kernel
theorem dX6_drift_98 : decode cX6_drift 98 = .ok (.bipush 10, 2) := by decide +kernel
theorem dX6_drift_100 : decode cX6_drift 100 = .ok (.irem, 1) := by decide +kernel
theorem dX6_drift_101 : decode cX6_drift 101 = .ok (.invokevirtual 202, 3) := by decide +kernel
theorem dX6_drift_104 : decode cX6_drift 104 = .ok (.iload 4, 2) := by decide +kernel
theorem dX6_drift_106 : decode cX6_drift 106 = .ok (.aload_n 0, 1) := by decide +kernel
theorem dX6_drift_107 : decode cX6_drift 107 = .ok (.getfield 37, 3) := by decide +kernel
theorem dX6_drift_110 : decode cX6_drift 110 = .ok (.aload_n 0, 1) := by decide +kernel
theorem dX6_drift_111 : decode cX6_drift 111 = .ok (.getfield 19, 3) := by decide +kernel
theorem dX6_drift_114 : decode cX6_drift 114 = .ok (.invokevirtual 171, 3) := by decide +kernel
theorem dX6_drift_117 : decode cX6_drift 117 = .ok (.iadd, 1) := by decide +kernel
theorem dX6_drift_118 : decode cX6_drift 118 = .ok (.istore 4, 2) := by decide +kernel
theorem dX6_drift_120 : decode cX6_drift 120 = .ok (.iinc 6 1, 3) := by decide +kernel
theorem dX6_drift_123 : decode cX6_drift 123 = .ok (.goto (-69), 3) := by decide +kernel
theorem dX6_drift_126 : decode cX6_drift 126 = .ok (.iload_n 3, 1) := by decide +kernel
theorem dX6_drift_127 : decode cX6_drift 127 = .ok (.ifCond .ne 8, 3) := by decide +kernel
theorem dX6_drift_130 : decode cX6_drift 130 = .ok (.iload 4, 2) := by decide +kernel
theorem dX6_drift_132 : decode cX6_drift 132 = .ok (.goto 10, 3) := by decide +kernel
theorem dX6_drift_135 : decode cX6_drift 135 = .ok (.aload_n 0, 1) := by decide +kernel
theorem dX6_drift_136 : decode cX6_drift 136 = .ok (.getfield 37, 3) := by decide +kernel
theorem dX6_drift_139 : decode cX6_drift 139 = .ok (.invokevirtual 225, 3) := by decide +kernel
theorem dX6_drift_142 : decode cX6_drift 142 = .ok (.ireturn, 1) := by decide +kernel
set_option maxRecDepth 20000 in
theorem ggX6_keep_X6_isWithin : GoodIn wsX6_keep wsX6_isWithin := goodIn_r _ [10] (by decide +kernel) (by decide +kernel)
set_option maxRecDepth 20000 in
theorem gX6_keep_X6_isWithin : GoodIn wsX6_keep (va_wsS RX6 58 yX6_isWithin wsX6_isWithin) := goodIn_app (goodIn_of _ (by decide +kernel)) ggX6_keep_X6_isWithin
set_option maxRecDepth 20000 in
theorem ggX6_keep_X1_copyFrom : GoodIn wsX6_keep wsX1_copyFrom := goodIn_r _ [15, 16, 17, 18, 19, 20, 21, 22, 23, 24, 25, 26, 27, 28, 29, 30, 53, 54, 55, 56, 57, 58, 59, 60, 61, 62, 63] (by decide +kernel) (by decide +kernel)
set_option maxRecDepth 20000 in
theorem gX6_keep_X1_copyFrom : GoodIn wsX6_keep (wsV RX6 83 RX1 yX1_copyFrom wsX1_copyFrom) := goodIn_app (goodIn_of _ (by decide +kernel)) ggX6_keep_X1_copyFrom
set_option maxRecDepth 20000 in
theorem ggX6_keep_X2_copyFrom : GoodIn wsX6_keep wsX2_copyFrom := goodIn_r _ [35, 36, 37, 38, 19, 20, 21, 39, 40, 64, 65, 66, 67] (by decide +kernel) (by decide +kernel)
set_option maxRecDepth 20000 in
theorem gX6_keep_X2_copyFrom : GoodIn wsX6_keep (wsV RX6 230 RX2 yX2_copyFrom wsX2_copyFrom) := goodIn_app (goodIn_of _ (by decide +kernel)) ggX6_keep_X2_copyFrom
theorem dX6_keep_0 : decode cX6_keep 0 = .ok (.iload_n 1, 1) := by decide +kernel
theorem dX6_keep_1 : decode cX6_keep 1 = .ok (.iconst 1, 1) := by decide +kernel
theorem dX6_keep_2 : decode cX6_keep 2 = .ok (.invokestatic 58, 3) := by decide +kernel
theorem dX6_keep_5 : decode cX6_keep 5 = .ok (.ifCond .ne 5, 3) := by decide +kernel
theorem dX6_keep_8 : decode cX6_keep 8 = .ok (.iconst (-1), 1) := by decide +kernel
theorem dX6_keep_9 : decode cX6_keep 9 = .ok (.ireturn, 1) := by decide +kernel
theorem dX6_keep_10 : decode cX6_keep 10 = .ok (.aload_n 0, 1) := by decide +kernel
theorem dX6_keep_11 : decode cX6_keep 11 = .ok (.getfield 46, 3) := by decide +kernel
theorem dX6_keep_14 : decode cX6_keep 14 = .ok (.iload_n 1, 1) := by decide +kernel
theorem dX6_keep_15 : decode cX6_keep 15 = .ok (.aaload, 1) := by decide +kernel
theorem dX6_keep_16 : decode cX6_keep 16 = .ok (.astore_n 2, 1) := by decide +kernel
theorem dX6_keep_17 : decode cX6_keep 17 = .ok (.aload_n 2, 1) := by decide +kernel
theorem dX6_keep_18 : decode cX6_keep 18 = .ok (.getfield 89, 3) := by decide +kernel
theorem dX6_keep_21 : decode cX6_keep 21 = .ok (.ifCond .eq 7, 3) := by decide +kernel
theorem dX6_keep_24 : decode cX6_keep 24 = .ok (.iconst 1, 1) := by decide +kernel
theorem dX6_keep_25 : decode cX6_keep 25 = .ok (.goto 4, 3) := by decide +kernel
theorem dX6_keep_28 : decode cX6_keep 28 = .ok (.iconst 0, 1) := by decide +kernel
theorem dX6_keep_29 : decode cX6_keep 29 = .ok (.istore_n 3, 1) := by decide +kernel
theorem dX6_keep_30 : decode cX6_keep 30 = .ok (.aload_n 2, 1) := by decide +kernel
theorem dX6_keep_31 : decode cX6_keep 31 = .ok (.getfield 228, 3) := by decide +kernel
theorem dX6_keep_34 : decode cX6_keep 34 = .ok (.aload_n 0, 1) := by decide +kernel
theorem dX6_keep_35 : decode cX6_keep 35 = .ok (.getfield 26, 3) := by decide +kernel
theorem dX6_keep_38 : decode cX6_keep 38 = .ok (.invokevirtual 83, 3) := by decide +kernel
theorem dX6_keep_41 : decode cX6_keep 41 = .ok (.aload_n 2, 1) := by decide +kernel
theorem dX6_keep_42 : decode cX6_keep 42 = .ok (.getfield 229, 3) := by decide +kernel
theorem dX6_keep_45 : decode cX6_keep 45 = .ok (.aload_n 0, 1) := by decide +kernel
theorem dX6_keep_46 : decode cX6_keep 46 = .ok (.getfield 33, 3) := by decide +kernel
theorem dX6_keep_49 : decode cX6_keep 49 = .ok (.invokevirtual 230, 3) := by decide +kernel
theorem dX6_keep_52 : decode cX6_keep 52 = .ok (.aload_n 2, 1) := by decide +kernel
theorem dX6_keep_53 : decode cX6_keep 53 = .ok (.iconst 1, 1) := by decide +kernel
theorem dX6_keep_54 : decode cX6_keep 54 = .ok (.putfield 89, 3) := by decide +kernel
theorem dX6_keep_57 : decode cX6_keep 57 = .ok (.iload_n 3, 1) := by decide +kernel
theorem dX6_keep_58 : decode cX6_keep 58 = .ok (.ireturn, 1) := by decide +kernel
set_option maxRecDepth 20000 in
theorem ggX6_back_X6_isWithin : GoodIn wsX6_back wsX6_isWithin := goodIn_r _ [11] (by decide +kernel) (by decide +kernel)
set_option maxRecDepth 20000 in
theorem gX6_back_X6_isWithin : GoodIn wsX6_back (va_wsS RX6 58 yX6_isWithin wsX6_isWithin) := goodIn_app (goodIn_of _ (by decide +kernel)) ggX6_back_X6_isWithin
set_option maxRecDepth 20000 in
theorem ggX6_back_X1_copyFrom : GoodIn wsX6_back wsX1_copyFrom := goodIn_r _ [16, 17, 18, 19, 20, 21, 22, 23, 24, 25, 26, 27, 28, 29, 30, 31, 54, 55, 56, 57, 58, 59, 60, 61, 62, 63, 64] (by decide +kernel) (by decide +kernel)
set_option maxRecDepth 20000 in
theorem gX6_back_X1_copyFrom : GoodIn wsX6_back (wsV RX6 83 RX1 yX1_copyFrom wsX1_copyFrom) := goodIn_app (goodIn_of _ (by decide +kernel)) ggX6_back_X1_copyFrom
set_option maxRecDepth 20000 in
theorem ggX6_back_X2_copyFrom : GoodIn wsX6_back wsX2_copyFrom := goodIn_r _ [36, 37, 38, 39, 20, 21, 22, 40, 41, 65, 66, 67, 68] (by decide +kernel) (by decide +kernel)
set_option maxRecDepth 20000 in
theorem gX6_back_X2_copyFrom : GoodIn wsX6_back (wsV RX6 230 RX2 yX2_copyFrom wsX2_copyFrom) := goodIn_app (goodIn_of _ (by decide +kernel)) ggX6_back_X2_copyFrom
theorem dX6_back_0 : decode cX6_back 0 = .ok (.iload_n 1, 1) := by decide +kernel
theorem dX6_back_1 : decode cX6_back 1 = .ok (.iconst 1, 1) := by decide +kernel
theorem dX6_back_2 : decode cX6_back 2 = .ok (.invokestatic 58, 3) := by decide +kernel
theorem dX6_back_5 : decode cX6_back 5 = .ok (.ifCond .ne 5, 3) := by decide +kernel
theorem dX6_back_8 : decode cX6_back 8 = .ok (.iconst (-1), 1) := by decide +kernel
theorem dX6_back_9 : decode cX6_back 9 = .ok (.ireturn, 1) := by decide +kernel
theorem dX6_back_10 : decode cX6_back 10 = .ok (.aload_n 0, 1) := by decide +kernel
theorem dX6_back_11 : decode cX6_back 11 = .ok (.getfield 46, 3) := by decide +kernel
theorem dX6_back_14 : decode cX6_back 14 = .ok (.iload_n 1, 1) := by decide +kernel
theorem dX6_back_15 : decode cX6_back 15 = .ok (.aaload, 1) := by decide +kernel
theorem dX6_back_16 : decode cX6_back 16 = .ok (.astore_n 2, 1) := by decide +kernel
theorem dX6_back_17 : decode cX6_back 17 = .ok (.aload_n 2, 1) := by decide +kernel
theorem dX6_back_18 : decode cX6_back 18 = .ok (.getfield 89, 3) := by decide +kernel
theorem dX6_back_21 : decode cX6_back 21 = .ok (.ifCond .ne 6, 3) := by decide +kernel
theorem dX6_back_24 : decode cX6_back 24 = .ok (.bipush (-2), 2) := by decide +kernel
theorem dX6_back_26 : decode cX6_back 26 = .ok (.ireturn, 1) := by decide +kernel
theorem dX6_back_27 : decode cX6_back 27 = .ok (.aload_n 0, 1) := by decide +kernel
theorem dX6_back_28 : decode cX6_back 28 = .ok (.getfield 26, 3) := by decide +kernel
theorem dX6_back_31 : decode cX6_back 31 = .ok (.aload_n 2, 1) := by decide +kernel
theorem dX6_back_32 : decode cX6_back 32 = .ok (.getfield 228, 3) := by decide +kernel
theorem dX6_back_35 : decode cX6_back 35 = .ok (.invokevirtual 83, 3) := by decide +kernel
theorem dX6_back_38 : decode cX6_back 38 = .ok (.aload_n 0, 1) := by decide +kernel
theorem dX6_back_39 : decode cX6_back 39 = .ok (.getfield 33, 3) := by decide +kernel
theorem dX6_back_42 : decode cX6_back 42 = .ok (.aload_n 2, 1) := by decide +kernel
theorem dX6_back_43 : decode cX6_back 43 = .ok (.getfield 229, 3) := by decide +kernel
theorem dX6_back_46 : decode cX6_back 46 = .ok (.invokevirtual 230, 3) := by decide +kernel
theorem dX6_back_49 : decode cX6_back 49 = .ok (.aload_n 0, 1) := by decide +kernel
theorem dX6_back_50 : decode cX6_back 50 = .ok (.getfield 26, 3) := by decide +kernel
theorem dX6_back_53 : decode cX6_back 53 = .ok (.getfield 108, 3) := by decide +kernel
theorem dX6_back_56 : decode cX6_back 56 = .ok (.ireturn, 1) := by decide +kernel
set_option maxRecDepth 20000 in
theorem ggX6_sheet_X6_isWithin : GoodIn wsX6_sheet wsX6_isWithin := goodIn_r _ [5] (by decide +kernel) (by decide +kernel)
set_option maxRecDepth 20000 in
theorem gX6_sheet_X6_isWithin : GoodIn wsX6_sheet (va_wsS RX6 58 yX6_isWithin wsX6_isWithin) := goodIn_app (goodIn_of _ (by decide +kernel)) ggX6_sheet_X6_isWithin
set_option maxRecDepth 20000 in
theorem ggX6_sheet_X4_renew : GoodIn wsX6_sheet wsX4_renew := goodIn_r _ [10, 11, 12, 13, 14, 15, 16, 17, 27, 28, 29] (by decide +kernel) (by decide +kernel)
set_option maxRecDepth 20000 in
theorem gX6_sheet_X4_renew : GoodIn wsX6_sheet (wsV RX6 233 RX4 yX4_renew wsX4_renew) := goodIn_app (goodIn_of _ (by decide +kernel)) ggX6_sheet_X4_renew
theorem dX6_sheet_0 : decode cX6_sheet 0 = .ok (.iload_n 1, 1) := by decide +kernel
theorem dX6_sheet_1 : decode cX6_sheet 1 = .ok (.iconst 3, 1) := by decide +kernel
theorem dX6_sheet_2 : decode cX6_sheet 2 = .ok (.invokestatic 58, 3) := by decide +kernel
theorem dX6_sheet_5 : decode cX6_sheet 5 = .ok (.ifCond .eq 17, 3) := by decide +kernel
theorem dX6_sheet_8 : decode cX6_sheet 8 = .ok (.iload_n 2, 1) := by decide +kernel
theorem dX6_sheet_9 : decode cX6_sheet 9 = .ok (.iconst 2, 1) := by decide +kernel
theorem dX6_sheet_10 : decode cX6_sheet 10 = .ok (.invokestatic 58, 3) := by decide +kernel
theorem dX6_sheet_13 : decode cX6_sheet 13 = .ok (.ifCond .eq 9, 3) := by decide +kernel
theorem dX6_sheet_16 : decode cX6_sheet 16 = .ok (.iload_n 3, 1) := by decide +kernel
theorem dX6_sheet_17 : decode cX6_sheet 17 = .ok (.bipush 40, 2) := by decide +kernel
theorem dX6_sheet_19 : decode cX6_sheet 19 = .ok (.if_icmp .le 5, 3) := by decide +kernel
theorem dX6_sheet_22 : decode cX6_sheet 22 = .ok (.iconst (-1), 1) := by decide +kernel
theorem dX6_sheet_23 : decode cX6_sheet 23 = .ok (.ireturn, 1) := by decide +kernel
theorem dX6_sheet_24 : decode cX6_sheet 24 = .ok (.iload_n 3, 1) := by decide +kernel
theorem dX6_sheet_25 : decode cX6_sheet 25 = .ok (.ifCond .ge 6, 3) := by decide +kernel
theorem dX6_sheet_28 : decode cX6_sheet 28 = .ok (.bipush (-14), 2) := by decide +kernel
theorem dX6_sheet_30 : decode cX6_sheet 30 = .ok (.ireturn, 1) := by decide +kernel
theorem dX6_sheet_31 : decode cX6_sheet 31 = .ok (.aload_n 0, 1) := by decide +kernel
theorem dX6_sheet_32 : decode cX6_sheet 32 = .ok (.getfield 52, 3) := by decide +kernel
theorem dX6_sheet_35 : decode cX6_sheet 35 = .ok (.iload_n 1, 1) := by decide +kernel
theorem dX6_sheet_36 : decode cX6_sheet 36 = .ok (.aaload, 1) := by decide +kernel
theorem dX6_sheet_37 : decode cX6_sheet 37 = .ok (.iload_n 2, 1) := by decide +kernel
theorem dX6_sheet_38 : decode cX6_sheet 38 = .ok (.iload_n 3, 1) := by decide +kernel
theorem dX6_sheet_39 : decode cX6_sheet 39 = .ok (.invokevirtual 233, 3) := by decide +kernel
theorem dX6_sheet_42 : decode cX6_sheet 42 = .ok (.iconst 1, 1) := by decide +kernel
theorem dX6_sheet_43 : decode cX6_sheet 43 = .ok (.ireturn, 1) := by decide +kernel
set_option maxRecDepth 20000 in
theorem ggX6_lay_X6_isWithin : GoodIn wsX6_lay wsX6_isWithin := goodIn_r _ [6] (by decide +kernel) (by decide +kernel)
set_option maxRecDepth 20000 in
theorem gX6_lay_X6_isWithin : GoodIn wsX6_lay (va_wsS RX6 58 yX6_isWithin wsX6_isWithin) := goodIn_app (goodIn_of _ (by decide +kernel)) ggX6_lay_X6_isWithin
set_option maxRecDepth 20000 in
theorem ggX6_lay_X4_faultAt : GoodIn wsX6_lay wsX4_faultAt := goodIn_r _ [11, 12, 13, 28, 29, 30] (by decide +kernel) (by decide +kernel)
set_option maxRecDepth 20000 in
theorem gX6_lay_X4_faultAt : GoodIn wsX6_lay (wsV RX6 239 RX4 yX4_faultAt wsX4_faultAt) := goodIn_app (goodIn_of _ (by decide +kernel)) ggX6_lay_X4_faultAt
set_option maxRecDepth 20000 in
theorem ggX6_lay_X4_put : GoodIn wsX6_lay wsX4_put := goodIn_r _ [17, 12, 18, 28, 29, 30] (by decide +kernel) (by decide +kernel)
set_option maxRecDepth 20000 in
theorem gX6_lay_X4_put : GoodIn wsX6_lay (wsV RX6 242 RX4 yX4_put wsX4_put) := goodIn_app (goodIn_of _ (by decide +kernel)) ggX6_lay_X4_put
theorem dX6_lay_0 : decode cX6_lay 0 = .ok (.iload_n 1, 1) := by decide +kernel
theorem dX6_lay_1 : decode cX6_lay 1 = .ok (.iconst 3, 1) := by decide +kernel
theorem dX6_lay_2 : decode cX6_lay 2 = .ok (.invokestatic 58, 3) := by decide +kernel
theorem dX6_lay_5 : decode cX6_lay 5 = .ok (.ifCond .ne 5, 3) := by decide +kernel
theorem dX6_lay_8 : decode cX6_lay 8 = .ok (.iconst (-1), 1) := by decide +kernel
theorem dX6_lay_9 : decode cX6_lay 9 = .ok (.ireturn, 1) := by decide +kernel
theorem dX6_lay_10 : decode cX6_lay 10 = .ok (.aload_n 0, 1) := by decide +kernel
theorem dX6_lay_11 : decode cX6_lay 11 = .ok (.getfield 52, 3) := by decide +kernel
theorem dX6_lay_14 : decode cX6_lay 14 = .ok (.iload_n 1, 1) := by decide +kernel
theorem dX6_lay_15 : decode cX6_lay 15 = .ok (.aaload, 1) := by decide +kernel
theorem dX6_lay_16 : decode cX6_lay 16 = .ok (.astore 4, 2) := by decide +kernel
theorem dX6_lay_18 : decode cX6_lay 18 = .ok (.aload 4, 2) := by decide +kernel
theorem dX6_lay_20 : decode cX6_lay 20 = .ok (.aload 4, 2) := by decide +kernel
theorem dX6_lay_22 : decode cX6_lay 22 = .ok (.getfield 236, 3) := by decide +kernel
theorem dX6_lay_25 : decode cX6_lay 25 = .ok (.iload_n 2, 1) := by decide +kernel
theorem dX6_lay_26 : decode cX6_lay 26 = .ok (.invokevirtual 239, 3) := by decide +kernel
theorem dX6_lay_29 : decode cX6_lay 29 = .ok (.istore 5, 2) := by decide +kernel
theorem dX6_lay_31 : decode cX6_lay 31 = .ok (.iload 5, 2) := by decide +kernel
theorem dX6_lay_33 : decode cX6_lay 33 = .ok (.ifCond .eq 9, 3) := by decide +kernel
theorem dX6_lay_36 : decode cX6_lay 36 = .ok (.bipush (-10), 2) := by decide +kernel
theorem dX6_lay_38 : decode cX6_lay 38 = .ok (.iload 5, 2) := by decide +kernel
theorem dX6_lay_40 : decode cX6_lay 40 = .ok (.isub, 1) := by decide +kernel
theorem dX6_lay_41 : decode cX6_lay 41 = .ok (.ireturn, 1) := by decide +kernel
theorem dX6_lay_42 : decode cX6_lay 42 = .ok (.aload 4, 2) := by decide +kernel
theorem dX6_lay_44 : decode cX6_lay 44 = .ok (.iload_n 2, 1) := by decide +kernel
theorem dX6_lay_45 : decode cX6_lay 45 = .ok (.iload_n 3, 1) := by decide +kernel
theorem dX6_lay_46 : decode cX6_lay 46 = .ok (.invokevirtual 242, 3) := by decide +kernel
theorem dX6_lay_49 : decode cX6_lay 49 = .ok (.iconst 1, 1) := by decide +kernel
theorem dX6_lay_50 : decode cX6_lay 50 = .ok (.ireturn, 1) := by decide +kernel
set_option maxRecDepth 20000 in
theorem ggX6_read_X6_isWithin : GoodIn wsX6_read wsX6_isWithin := goodIn_r _ [9] (by decide +kernel) (by decide +kernel)
set_option maxRecDepth 20000 in
theorem gX6_read_X6_isWithin : GoodIn wsX6_read (va_wsS RX6 58 yX6_isWithin wsX6_isWithin) := goodIn_app (goodIn_of _ (by decide +kernel)) ggX6_read_X6_isWithin
set_option maxRecDepth 20000 in
theorem ggX6_read_X1_copyFrom : GoodIn wsX6_read wsX1_copyFrom := goodIn_r _ [14, 15, 16, 17, 18, 19, 20, 21, 22, 23, 24, 25, 26, 27, 28, 29, 57, 58, 59, 60, 61, 62, 63, 64, 65, 66, 67] (by decide +kernel) (by decide +kernel)
set_option maxRecDepth 20000 in
theorem gX6_read_X1_copyFrom : GoodIn wsX6_read (wsV RX6 83 RX1 yX1_copyFrom wsX1_copyFrom) := goodIn_app (goodIn_of _ (by decide +kernel)) ggX6_read_X1_copyFrom
set_option maxRecDepth 20000 in
theorem ggX6_read_X4_faultOfPair : GoodIn wsX6_read wsX4_faultOfPair := goodIn_r _ [34, 35, 36, 37, 33, 38, 39, 40, 54, 55, 56] (by decide +kernel) (by decide +kernel)
set_option maxRecDepth 20000 in
theorem gX6_read_X4_faultOfPair : GoodIn wsX6_read (wsV RX6 245 RX4 yX4_faultOfPair wsX4_faultOfPair) := goodIn_app (goodIn_of _ (by decide +kernel)) ggX6_read_X4_faultOfPair
set_option maxRecDepth 20000 in
theorem ggX6_read_X1_takeOut : GoodIn wsX6_read wsX1_takeOut := goodIn_r _ [44, 15, 22, 27, 21, 7, 8, 9, 57, 58, 59, 60, 61, 62, 63, 64, 65, 66, 67] (by decide +kernel) (by decide +kernel)
set_option maxRecDepth 20000 in
theorem gX6_read_X1_takeOut : GoodIn wsX6_read (wsV RX6 161 RX1 yX1_takeOut wsX1_takeOut) := goodIn_app (goodIn_of _ (by decide +kernel)) ggX6_read_X1_takeOut
theorem dX6_read_0 : decode cX6_read 0 = .ok (.iload_n 1, 1) := by decide +kernel
theorem dX6_read_1 : decode cX6_read 1 = .ok (.iconst 3, 1) := by decide +kernel
theorem dX6_read_2 : decode cX6_read 2 = .ok (.invokestatic 58, 3) := by decide +kernel
theorem dX6_read_5 : decode cX6_read 5 = .ok (.ifCond .eq 21, 3) := by decide +kernel
theorem dX6_read_8 : decode cX6_read 8 = .ok (.iload_n 2, 1) := by decide +kernel
theorem dX6_read_9 : decode cX6_read 9 = .ok (.iconst 2, 1) := by decide +kernel
theorem dX6_read_10 : decode cX6_read 10 = .ok (.invokestatic 58, 3) := by decide +kernel
theorem dX6_read_13 : decode cX6_read 13 = .ok (.ifCond .eq 13, 3) := by decide +kernel
theorem dX6_read_16 : decode cX6_read 16 = .ok (.iload 4, 2) := by decide +kernel
theorem dX6_read_18 : decode cX6_read 18 = .ok (.bipush 20, 2) := by decide +kernel
theorem dX6_read_20 : decode cX6_read 20 = .ok (.invokestatic 58, 3) := by decide +kernel
theorem dX6_read_23 : decode cX6_read 23 = .ok (.ifCond .ne 5, 3) := by decide +kernel
theorem dX6_read_26 : decode cX6_read 26 = .ok (.iconst (-1), 1) := by decide +kernel
theorem dX6_read_27 : decode cX6_read 27 = .ok (.ireturn, 1) := by decide +kernel
theorem dX6_read_28 : decode cX6_read 28 = .ok (.aload_n 0, 1) := by decide +kernel
theorem dX6_read_29 : decode cX6_read 29 = .ok (.getfield 52, 3) := by decide +kernel
theorem dX6_read_32 : decode cX6_read 32 = .ok (.iload_n 1, 1) := by decide +kernel
theorem dX6_read_33 : decode cX6_read 33 = .ok (.aaload, 1) := by decide +kernel
theorem dX6_read_34 : decode cX6_read 34 = .ok (.astore 5, 2) := by decide +kernel
theorem dX6_read_36 : decode cX6_read 36 = .ok (.aload_n 0, 1) := by decide +kernel
theorem dX6_read_37 : decode cX6_read 37 = .ok (.getfield 37, 3) := by decide +kernel
theorem dX6_read_40 : decode cX6_read 40 = .ok (.aload_n 0, 1) := by decide +kernel
theorem dX6_read_41 : decode cX6_read 41 = .ok (.getfield 26, 3) := by decide +kernel
theorem dX6_read_44 : decode cX6_read 44 = .ok (.invokevirtual 83, 3) := by decide +kernel
theorem dX6_read_47 : decode cX6_read 47 = .ok (.iconst 0, 1) := by decide +kernel
theorem dX6_read_48 : decode cX6_read 48 = .ok (.istore 6, 2) := by decide +kernel
theorem dX6_read_50 : decode cX6_read 50 = .ok (.iconst 0, 1) := by decide +kernel
theorem dX6_read_51 : decode cX6_read 51 = .ok (.istore 7, 2) := by decide +kernel
theorem dX6_read_53 : decode cX6_read 53 = .ok (.iconst 0, 1) := by decide +kernel
theorem dX6_read_54 : decode cX6_read 54 = .ok (.istore 8, 2) := by decide +kernel
theorem dX6_read_56 : decode cX6_read 56 = .ok (.iload 8, 2) := by decide +kernel
theorem dX6_read_58 : decode cX6_read 58 = .ok (.iload 4, 2) := by decide +kernel
theorem dX6_read_60 : decode cX6_read 60 = .ok (.if_icmp .ge 74, 3) := by decide +kernel
theorem dX6_read_63 : decode cX6_read 63 = .ok (.iload 7, 2) := by decide +kernel
theorem dX6_read_65 : decode cX6_read 65 = .ok (.ifCond .ne 69, 3) := by decide +kernel
theorem dX6_read_68 : decode cX6_read 68 = .ok (.iload_n 3, 1) := by decide +kernel
theorem dX6_read_69 : decode cX6_read 69 = .ok (.iconst 2, 1) := by decide +kernel
theorem dX6_read_70 : decode cX6_read 70 = .ok (.iload 8, 2) := by decide +kernel
theorem dX6_read_72 : decode cX6_read 72 = .ok (.imul, 1) := by decide +kernel
theorem dX6_read_73 : decode cX6_read 73 = .ok (.iadd, 1) := by decide +kernel
theorem dX6_read_74 : decode cX6_read 74 = .ok (.istore 9, 2) := by decide +kernel
theorem dX6_read_76 : decode cX6_read 76 = .ok (.aload 5, 2) := by decide +kernel
theorem dX6_read_78 : decode cX6_read 78 = .ok (.iload_n 2, 1) := by decide +kernel
theorem dX6_read_79 : decode cX6_read 79 = .ok (.iload 9, 2) := by decide +kernel
theorem dX6_read_81 : decode cX6_read 81 = .ok (.invokevirtual 245, 3) := by decide +kernel
theorem dX6_read_84 : decode cX6_read 84 = .ok (.istore 7, 2) := by decide +kernel
theorem dX6_read_86 : decode cX6_read 86 = .ok (.iload 7, 2) := by decide +kernel
theorem dX6_read_88 : decode cX6_read 88 = .ok (.ifCond .ne 40, 3) := by decide +kernel
theorem dX6_read_91 : decode cX6_read 91 = .ok (.aload_n 0, 1) := by decide +kernel
theorem dX6_read_92 : decode cX6_read 92 = .ok (.getfield 37, 3) := by decide +kernel
theorem dX6_read_95 : decode cX6_read 95 = .ok (.aload 5, 2) := by decide +kernel
theorem dX6_read_97 : decode cX6_read 97 = .ok (.getfield 248, 3) := by decide +kernel
theorem dX6_read_100 : decode cX6_read 100 = .ok (.iload 9, 2) := by decide +kernel
theorem dX6_read_102 : decode cX6_read 102 = .ok (.iaload, 1) := by decide +kernel
theorem dX6_read_103 : decode cX6_read 103 = .ok (.aload 5, 2) := by decide +kernel
theorem dX6_read_105 : decode cX6_read 105 = .ok (.getfield 248, 3) := by decide +kernel
theorem dX6_read_108 : decode cX6_read 108 = .ok (.iload 9, 2) := by decide +kernel
theorem dX6_read_110 : decode cX6_read 110 = .ok (.iconst 1, 1) := by decide +kernel
theorem dX6_read_111 : decode cX6_read 111 = .ok (.iadd, 1) := by decide +kernel
theorem dX6_read_112 : decode cX6_read 112 = .ok (.iaload, 1) := by decide +kernel
theorem dX6_read_113 : decode cX6_read 113 = .ok (.invokevirtual 161, 3) := by decide +kernel
theorem dX6_read_116 : decode cX6_read 116 = .ok (.ifCond .ge 9, 3) := by decide +kernel
theorem dX6_read_119 : decode cX6_read 119 = .ok (.bipush (-20), 2) := by decide +kernel
theorem dX6_read_121 : decode cX6_read 121 = .ok (.iload 8, 2) := by decide +kernel
theorem dX6_read_123 : decode cX6_read 123 = .ok (.isub, 1) := by decide +kernel
theorem dX6_read_124 : decode cX6_read 124 = .ok (.ireturn, 1) := by decide +kernel
theorem dX6_read_125 : decode cX6_read 125 = .ok (.iinc 6 1, 3) := by decide +kernel
theorem dX6_read_128 : decode cX6_read 128 = .ok (.iinc 8 1, 3) := by decide +kernel
theorem dX6_read_131 : decode cX6_read 131 = .ok (.goto (-75), 3) := by decide +kernel
theorem dX6_read_134 : decode cX6_read 134 = .ok (.aload_n 0, 1) := by decide +kernel
theorem dX6_read_135 : decode cX6_read 135 = .ok (.getfield 26, 3) := by decide +kernel
theorem dX6_read_138 : decode cX6_read 138 = .ok (.aload_n 0, 1) := by decide +kernel
theorem dX6_read_139 : decode cX6_read 139 = .ok (.getfield 37, 3) := by decide +kernel
theorem dX6_read_142 : decode cX6_read 142 = .ok (.invokevirtual 83, 3) := by decide +kernel
theorem dX6_read_145 : decode cX6_read 145 = .ok (.aload_n 0, 1) := by decide +kernel
theorem dX6_read_146 : decode cX6_read 146 = .ok (.iload 7, 2) := by decide +kernel
theorem dX6_read_148 : decode cX6_read 148 = .ok (.putfield 251, 3) := by decide +kernel
theorem dX6_read_151 : decode cX6_read 151 = .ok (.iload 6, 2) := by decide +kernel
theorem dX6_read_153 : decode cX6_read 153 = .ok (.ireturn, 1) := by decide +kernel
theorem dX6_torn_0 : decode cX6_torn 0 = .ok (.aload_n 0, 1) := by decide +kernel
theorem dX6_torn_1 : decode cX6_torn 1 = .ok (.getfield 251, 3) := by decide +kernel
theorem dX6_torn_4 : decode cX6_torn 4 = .ok (.ireturn, 1) := by decide +kernel
set_option maxRecDepth 20000 in
theorem ggX6_count_X1_sumInHand : GoodIn wsX6_count wsX1_sumInHand := goodIn_r _ [15, 16, 17, 54, 55, 56, 57, 58, 59, 60, 61, 62, 63, 64] (by decide +kernel) (by decide +kernel)
set_option maxRecDepth 20000 in
theorem gX6_count_X1_sumInHand : GoodIn wsX6_count (wsV RX6 225 RX1 yX1_sumInHand wsX1_sumInHand) := goodIn_app (goodIn_of _ (by decide +kernel)) ggX6_count_X1_sumInHand
set_option maxRecDepth 20000 in
theorem ggX6_count_X1_sumAtBank : GoodIn wsX6_count wsX1_sumAtBank := goodIn_r _ [21, 16, 22, 54, 55, 56, 57, 58, 59, 60, 61, 62, 63, 64] (by decide +kernel) (by decide +kernel)
set_option maxRecDepth 20000 in
theorem gX6_count_X1_sumAtBank : GoodIn wsX6_count (wsV RX6 193 RX1 yX1_sumAtBank wsX1_sumAtBank) := goodIn_app (goodIn_of _ (by decide +kernel)) ggX6_count_X1_sumAtBank
theorem dX6_count_0 : decode cX6_count 0 = .ok (.iload_n 1, 1) := by decide +kernel
theorem dX6_count_1 : decode cX6_count 1 = .ok (.tableswitch 135 0 5 #[39, 47, 55, 63, 99, 107], 39) := by decide +kernel
theorem dX6_count_40 : decode cX6_count 40 = .ok (.aload_n 0, 1) := by decide +kernel
theorem dX6_count_41 : decode cX6_count 41 = .ok (.getfield 26, 3) := by decide +kernel
theorem dX6_count_44 : decode cX6_count 44 = .ok (.invokevirtual 225, 3) := by decide +kernel
theorem dX6_count_47 : decode cX6_count 47 = .ok (.ireturn, 1) := by decide +kernel
theorem dX6_count_48 : decode cX6_count 48 = .ok (.aload_n 0, 1) := by decide +kernel
theorem dX6_count_49 : decode cX6_count 49 = .ok (.getfield 26, 3) := by decide +kernel
theorem dX6_count_52 : decode cX6_count 52 = .ok (.invokevirtual 193, 3) := by decide +kernel
theorem dX6_count_55 : decode cX6_count 55 = .ok (.ireturn, 1) := by decide +kernel
theorem dX6_count_56 : decode cX6_count 56 = .ok (.aload_n 0, 1) := by decide +kernel
theorem dX6_count_57 : decode cX6_count 57 = .ok (.getfield 33, 3) := by decide +kernel
theorem dX6_count_60 : decode cX6_count 60 = .ok (.getfield 86, 3) := by decide +kernel
theorem dX6_count_63 : decode cX6_count 63 = .ok (.ireturn, 1) := by decide +kernel
theorem dX6_count_64 : decode cX6_count 64 = .ok (.aload_n 0, 1) := by decide +kernel
theorem dX6_count_65 : decode cX6_count 65 = .ok (.getfield 46, 3) := by decide +kernel
theorem dX6_count_68 : decode cX6_count 68 = .ok (.iconst 0, 1) := by decide +kernel
theorem dX6_count_69 : decode cX6_count 69 = .ok (.aaload, 1) := by decide +kernel
theorem dX6_count_70 : decode cX6_count 70 = .ok (.getfield 89, 3) := by decide +kernel
theorem dX6_count_73 : decode cX6_count 73 = .ok (.ifCond .eq 7, 3) := by decide +kernel
theorem dX6_count_76 : decode cX6_count 76 = .ok (.iconst 1, 1) := by decide +kernel
theorem dX6_count_77 : decode cX6_count 77 = .ok (.goto 4, 3) := by decide +kernel
theorem dX6_count_80 : decode cX6_count 80 = .ok (.iconst 0, 1) := by decide +kernel
theorem dX6_count_81 : decode cX6_count 81 = .ok (.aload_n 0, 1) := by decide +kernel
theorem dX6_count_82 : decode cX6_count 82 = .ok (.getfield 46, 3) := by decide +kernel
theorem dX6_count_85 : decode cX6_count 85 = .ok (.iconst 1, 1) := by decide +kernel
theorem dX6_count_86 : decode cX6_count 86 = .ok (.aaload, 1) := by decide +kernel
theorem dX6_count_87 : decode cX6_count 87 = .ok (.getfield 89, 3) := by decide +kernel
theorem dX6_count_90 : decode cX6_count 90 = .ok (.ifCond .eq 7, 3) := by decide +kernel
theorem dX6_count_93 : decode cX6_count 93 = .ok (.iconst 1, 1) := by decide +kernel
theorem dX6_count_94 : decode cX6_count 94 = .ok (.goto 4, 3) := by decide +kernel
theorem dX6_count_97 : decode cX6_count 97 = .ok (.iconst 0, 1) := by decide +kernel
theorem dX6_count_98 : decode cX6_count 98 = .ok (.iadd, 1) := by decide +kernel
theorem dX6_count_99 : decode cX6_count 99 = .ok (.ireturn, 1) := by decide +kernel
theorem dX6_count_100 : decode cX6_count 100 = .ok (.aload_n 0, 1) := by decide +kernel
theorem dX6_count_101 : decode cX6_count 101 = .ok (.getfield 10, 3) := by decide +kernel
theorem dX6_count_104 : decode cX6_count 104 = .ok (.getfield 66, 3) := by decide +kernel
theorem dX6_count_107 : decode cX6_count 107 = .ok (.ireturn, 1) := by decide +kernel
theorem dX6_count_108 : decode cX6_count 108 = .ok (.aload_n 0, 1) := by decide +kernel
theorem dX6_count_109 : decode cX6_count 109 = .ok (.getfield 52, 3) := by decide +kernel
theorem dX6_count_112 : decode cX6_count 112 = .ok (.iconst 0, 1) := by decide +kernel
theorem dX6_count_113 : decode cX6_count 113 = .ok (.aaload, 1) := by decide +kernel
theorem dX6_count_114 : decode cX6_count 114 = .ok (.getfield 236, 3) := by decide +kernel
theorem dX6_count_117 : decode cX6_count 117 = .ok (.iconst (-1), 1) := by decide +kernel
theorem dX6_count_118 : decode cX6_count 118 = .ok (.if_icmp .ne 8, 3) := by decide +kernel
theorem dX6_count_121 : decode cX6_count 121 = .ok (.bipush (-4), 2) := by decide +kernel
theorem dX6_count_123 : decode cX6_count 123 = .ok (.goto 12, 3) := by decide +kernel
theorem dX6_count_126 : decode cX6_count 126 = .ok (.aload_n 0, 1) := by decide +kernel
theorem dX6_count_127 : decode cX6_count 127 = .ok (.getfield 52, 3) := by decide +kernel
theorem dX6_count_130 : decode cX6_count 130 = .ok (.iconst 0, 1) := by decide +kernel
theorem dX6_count_131 : decode cX6_count 131 = .ok (.aaload, 1) := by decide +kernel
theorem dX6_count_132 : decode cX6_count 132 = .ok (.getfield 254, 3) := by decide +kernel
theorem dX6_count_135 : decode cX6_count 135 = .ok (.ireturn, 1) := by decide +kernel
theorem dX6_count_136 : decode cX6_count 136 = .ok (.iconst (-1), 1) := by decide +kernel
theorem dX6_count_137 : decode cX6_count 137 = .ok (.ireturn, 1) := by decide +kernel
theorem dX6_isWithin_0 : decode cX6_isWithin 0 = .ok (.iload_n 0, 1) := by decide +kernel
theorem dX6_isWithin_1 : decode cX6_isWithin 1 = .ok (.ifCond .lt 12, 3) := by decide +kernel
theorem dX6_isWithin_4 : decode cX6_isWithin 4 = .ok (.iload_n 0, 1) := by decide +kernel
theorem dX6_isWithin_5 : decode cX6_isWithin 5 = .ok (.iload_n 1, 1) := by decide +kernel
theorem dX6_isWithin_6 : decode cX6_isWithin 6 = .ok (.if_icmp .gt 7, 3) := by decide +kernel
theorem dX6_isWithin_9 : decode cX6_isWithin 9 = .ok (.iconst 1, 1) := by decide +kernel
theorem dX6_isWithin_10 : decode cX6_isWithin 10 = .ok (.goto 4, 3) := by decide +kernel
theorem dX6_isWithin_13 : decode cX6_isWithin 13 = .ok (.iconst 0, 1) := by decide +kernel
theorem dX6_isWithin_14 : decode cX6_isWithin 14 = .ok (.ireturn, 1) := by decide +kernel
theorem dX6_isOne_0 : decode cX6_isOne 0 = .ok (.iload_n 1, 1) := by decide +kernel
theorem dX6_isOne_1 : decode cX6_isOne 1 = .ok (.ifCond .lt 18, 3) := by decide +kernel
theorem dX6_isOne_4 : decode cX6_isOne 4 = .ok (.iload_n 1, 1) := by decide +kernel
theorem dX6_isOne_5 : decode cX6_isOne 5 = .ok (.aload_n 0, 1) := by decide +kernel
theorem dX6_isOne_6 : decode cX6_isOne 6 = .ok (.getfield 26, 3) := by decide +kernel
theorem dX6_isOne_9 : decode cX6_isOne 9 = .ok (.getfield 93, 3) := by decide +kernel
theorem dX6_isOne_12 : decode cX6_isOne 12 = .ok (.if_icmp .ge 7, 3) := by decide +kernel
theorem dX6_isOne_15 : decode cX6_isOne 15 = .ok (.iconst 1, 1) := by decide +kernel
theorem dX6_isOne_16 : decode cX6_isOne 16 = .ok (.goto 4, 3) := by decide +kernel
theorem dX6_isOne_19 : decode cX6_isOne 19 = .ok (.iconst 0, 1) := by decide +kernel
theorem dX6_isOne_20 : decode cX6_isOne 20 = .ok (.ireturn, 1) := by decide +kernel
theorem dX6_isIncident_0 : decode cX6_isIncident 0 = .ok (.iload_n 1, 1) := by decide +kernel
theorem dX6_isIncident_1 : decode cX6_isIncident 1 = .ok (.ifCond .lt 18, 3) := by decide +kernel
theorem dX6_isIncident_4 : decode cX6_isIncident 4 = .ok (.iload_n 1, 1) := by decide +kernel
theorem dX6_isIncident_5 : decode cX6_isIncident 5 = .ok (.aload_n 0, 1) := by decide +kernel
theorem dX6_isIncident_6 : decode cX6_isIncident 6 = .ok (.getfield 19, 3) := by decide +kernel
theorem dX6_isIncident_9 : decode cX6_isIncident 9 = .ok (.getfield 96, 3) := by decide +kernel
theorem dX6_isIncident_12 : decode cX6_isIncident 12 = .ok (.if_icmp .ge 7, 3) := by decide +kernel
theorem dX6_isIncident_15 : decode cX6_isIncident 15 = .ok (.iconst 1, 1) := by decide +kernel
theorem dX6_isIncident_16 : decode cX6_isIncident 16 = .ok (.goto 4, 3) := by decide +kernel
theorem dX6_isIncident_19 : decode cX6_isIncident 19 = .ok (.iconst 0, 1) := by decide +kernel
theorem dX6_isIncident_20 : decode cX6_isIncident 20 = .ok (.ireturn, 1) := by decide +kernel
theorem dX6_allIncidents_0 : decode cX6_allIncidents 0 = .ok (.iconst 1, 1) := by decide +kernel
theorem dX6_allIncidents_1 : decode cX6_allIncidents 1 = .ok (.aload_n 0, 1) := by decide +kernel
theorem dX6_allIncidents_2 : decode cX6_allIncidents 2 = .ok (.getfield 19, 3) := by decide +kernel
theorem dX6_allIncidents_5 : decode cX6_allIncidents 5 = .ok (.getfield 96, 3) := by decide +kernel
theorem dX6_allIncidents_8 : decode cX6_allIncidents 8 = .ok (.ishl, 1) := by decide +kernel
theorem dX6_allIncidents_9 : decode cX6_allIncidents 9 = .ok (.iconst 1, 1) := by decide +kernel
theorem dX6_allIncidents_10 : decode cX6_allIncidents 10 = .ok (.isub, 1) := by decide +kernel
theorem dX6_allIncidents_11 : decode cX6_allIncidents 11 = .ok (.ireturn, 1) := by decide +kernel
theorem dX6_keepsThePast_0 : decode cX6_keepsThePast 0 = .ok (.iload_n 1, 1) := by decide +kernel
theorem dX6_keepsThePast_1 : decode cX6_keepsThePast 1 = .ok (.aload_n 0, 1) := by decide +kernel
theorem dX6_keepsThePast_2 : decode cX6_keepsThePast 2 = .ok (.getfield 26, 3) := by decide +kernel
theorem dX6_keepsThePast_5 : decode cX6_keepsThePast 5 = .ok (.getfield 111, 3) := by decide +kernel
theorem dX6_keepsThePast_8 : decode cX6_keepsThePast 8 = .ok (.ixor, 1) := by decide +kernel
theorem dX6_keepsThePast_9 : decode cX6_keepsThePast 9 = .ok (.istore_n 2, 1) := by decide +kernel
theorem dX6_keepsThePast_10 : decode cX6_keepsThePast 10 = .ok (.iconst 0, 1) := by decide +kernel
theorem dX6_keepsThePast_11 : decode cX6_keepsThePast 11 = .ok (.istore_n 3, 1) := by decide +kernel
theorem dX6_keepsThePast_12 : decode cX6_keepsThePast 12 = .ok (.iload_n 3, 1) := by decide +kernel
theorem dX6_keepsThePast_13 : decode cX6_keepsThePast 13 = .ok (.aload_n 0, 1) := by decide +kernel
theorem dX6_keepsThePast_14 : decode cX6_keepsThePast 14 = .ok (.getfield 19, 3) := by decide +kernel
theorem dX6_keepsThePast_17 : decode cX6_keepsThePast 17 = .ok (.getfield 96, 3) := by decide +kernel
theorem dX6_keepsThePast_20 : decode cX6_keepsThePast 20 = .ok (.if_icmp .ge 39, 3) := by decide +kernel
theorem dX6_keepsThePast_23 : decode cX6_keepsThePast 23 = .ok (.aload_n 0, 1) := by decide +kernel
theorem dX6_keepsThePast_24 : decode cX6_keepsThePast 24 = .ok (.getfield 19, 3) := by decide +kernel
theorem dX6_keepsThePast_27 : decode cX6_keepsThePast 27 = .ok (.getfield 136, 3) := by decide +kernel
theorem dX6_keepsThePast_30 : decode cX6_keepsThePast 30 = .ok (.iload_n 3, 1) := by decide +kernel
theorem dX6_keepsThePast_31 : decode cX6_keepsThePast 31 = .ok (.iaload, 1) := by decide +kernel
theorem dX6_keepsThePast_32 : decode cX6_keepsThePast 32 = .ok (.aload_n 0, 1) := by decide +kernel
theorem dX6_keepsThePast_33 : decode cX6_keepsThePast 33 = .ok (.getfield 26, 3) := by decide +kernel
theorem dX6_keepsThePast_36 : decode cX6_keepsThePast 36 = .ok (.getfield 108, 3) := by decide +kernel
theorem dX6_keepsThePast_39 : decode cX6_keepsThePast 39 = .ok (.if_icmp .ge 14, 3) := by decide +kernel
theorem dX6_keepsThePast_42 : decode cX6_keepsThePast 42 = .ok (.iload_n 2, 1) := by decide +kernel
theorem dX6_keepsThePast_43 : decode cX6_keepsThePast 43 = .ok (.iload_n 3, 1) := by decide +kernel
theorem dX6_keepsThePast_44 : decode cX6_keepsThePast 44 = .ok (.ishr, 1) := by decide +kernel
theorem dX6_keepsThePast_45 : decode cX6_keepsThePast 45 = .ok (.iconst 1, 1) := by decide +kernel
theorem dX6_keepsThePast_46 : decode cX6_keepsThePast 46 = .ok (.iand, 1) := by decide +kernel
theorem dX6_keepsThePast_47 : decode cX6_keepsThePast 47 = .ok (.iconst 1, 1) := by decide +kernel
theorem dX6_keepsThePast_48 : decode cX6_keepsThePast 48 = .ok (.if_icmp .ne 5, 3) := by decide +kernel
theorem dX6_keepsThePast_51 : decode cX6_keepsThePast 51 = .ok (.iconst 0, 1) := by decide +kernel
theorem dX6_keepsThePast_52 : decode cX6_keepsThePast 52 = .ok (.ireturn, 1) := by decide +kernel
theorem dX6_keepsThePast_53 : decode cX6_keepsThePast 53 = .ok (.iinc 3 1, 3) := by decide +kernel
theorem dX6_keepsThePast_56 : decode cX6_keepsThePast 56 = .ok (.goto (-44), 3) := by decide +kernel
theorem dX6_keepsThePast_59 : decode cX6_keepsThePast 59 = .ok (.iconst 1, 1) := by decide +kernel
theorem dX6_keepsThePast_60 : decode cX6_keepsThePast 60 = .ok (.ireturn, 1) := by decide +kernel
set_option maxRecDepth 20000 in
theorem ggX6_isSmaller_J6_bitCount_0f7a4 : GoodIn wsX6_isSmaller wsJ6_bitCount_0f7a4 := goodIn_r _ [4, 5, 6, 7] (by decide +kernel) (by decide +kernel)
set_option maxRecDepth 20000 in
theorem gX6_isSmaller_J6_bitCount_0f7a4 : GoodIn wsX6_isSmaller (va_wsS RX6 257 yJ6_bitCount_0f7a4 wsJ6_bitCount_0f7a4) := goodIn_app (goodIn_of _ (by decide +kernel)) ggX6_isSmaller_J6_bitCount_0f7a4
theorem dX6_isSmaller_0 : decode cX6_isSmaller 0 = .ok (.iload_n 0, 1) := by decide +kernel
theorem dX6_isSmaller_1 : decode cX6_isSmaller 1 = .ok (.invokestatic 257, 3) := by decide +kernel
theorem dX6_isSmaller_4 : decode cX6_isSmaller 4 = .ok (.istore_n 2, 1) := by decide +kernel
theorem dX6_isSmaller_5 : decode cX6_isSmaller 5 = .ok (.iload_n 1, 1) := by decide +kernel
theorem dX6_isSmaller_6 : decode cX6_isSmaller 6 = .ok (.invokestatic 257, 3) := by decide +kernel
theorem dX6_isSmaller_9 : decode cX6_isSmaller 9 = .ok (.istore_n 3, 1) := by decide +kernel
theorem dX6_isSmaller_10 : decode cX6_isSmaller 10 = .ok (.iload_n 2, 1) := by decide +kernel
theorem dX6_isSmaller_11 : decode cX6_isSmaller 11 = .ok (.iload_n 3, 1) := by decide +kernel
theorem dX6_isSmaller_12 : decode cX6_isSmaller 12 = .ok (.if_icmp .lt 13, 3) := by decide +kernel
theorem dX6_isSmaller_15 : decode cX6_isSmaller 15 = .ok (.iload_n 2, 1) := by decide +kernel
theorem dX6_isSmaller_16 : decode cX6_isSmaller 16 = .ok (.iload_n 3, 1) := by decide +kernel
theorem dX6_isSmaller_17 : decode cX6_isSmaller 17 = .ok (.if_icmp .ne 12, 3) := by decide +kernel
theorem dX6_isSmaller_20 : decode cX6_isSmaller 20 = .ok (.iload_n 0, 1) := by decide +kernel
theorem dX6_isSmaller_21 : decode cX6_isSmaller 21 = .ok (.iload_n 1, 1) := by decide +kernel
theorem dX6_isSmaller_22 : decode cX6_isSmaller 22 = .ok (.if_icmp .ge 7, 3) := by decide +kernel
theorem dX6_isSmaller_25 : decode cX6_isSmaller 25 = .ok (.iconst 1, 1) := by decide +kernel
theorem dX6_isSmaller_26 : decode cX6_isSmaller 26 = .ok (.goto 4, 3) := by decide +kernel
theorem dX6_isSmaller_29 : decode cX6_isSmaller 29 = .ok (.iconst 0, 1) := by decide +kernel
theorem dX6_isSmaller_30 : decode cX6_isSmaller 30 = .ok (.ireturn, 1) := by decide +kernel
set_option maxRecDepth 20000 in
theorem ggX6_timesByPlan_X1_copyFrom : GoodIn wsX6_timesByPlan wsX1_copyFrom := goodIn_r _ [9, 10, 11, 12, 13, 14, 15, 16, 17, 18, 19, 20, 21, 22, 23, 24, 82, 83, 84, 85, 86, 87, 88, 89, 90, 91, 92] (by decide +kernel) (by decide +kernel)
set_option maxRecDepth 20000 in
theorem gX6_timesByPlan_X1_copyFrom : GoodIn wsX6_timesByPlan (wsV RX6 83 RX1 yX1_copyFrom wsX1_copyFrom) := goodIn_app (goodIn_of _ (by decide +kernel)) ggX6_timesByPlan_X1_copyFrom
set_option maxRecDepth 20000 in
theorem ggX6_timesByPlan_X1_passToLastWeek : GoodIn wsX6_timesByPlan wsX1_passToLastWeek := goodIn_r _ [28, 23, 29, 30, 31, 8, 32, 24, 33, 34, 35, 36, 37, 38, 39, 40, 41, 42, 43, 44, 45, 46, 47, 48, 19, 11, 49, 50, 51, 52, 20, 53, 54, 55, 56, 17, 57, 58, 59, 60, 61, 62, 63, 64, 16, 65, 66, 67, 68, 22, 18, 69, 70, 71, 72, 10, 21, 82, 83, 84, 85, 86, 87, 88, 89, 90, 91, 92, 93, 94, 95, 96, 97, 98, 99, 100] (by decide +kernel) (by decide +kernel)
set_option maxRecDepth 20000 in
theorem gX6_timesByPlan_X1_passToLastWeek : GoodIn wsX6_timesByPlan (wsV RX6 206 RX1 yX1_passToLastWeek wsX1_passToLastWeek) := goodIn_app (goodIn_of _ (by decide +kernel)) ggX6_timesByPlan_X1_passToLastWeek
theorem dX6_timesByPlan_0 : decode cX6_timesByPlan 0 = .ok (.aload_n 0, 1) := by decide +kernel
theorem dX6_timesByPlan_1 : decode cX6_timesByPlan 1 = .ok (.getfield 37, 3) := by decide +kernel
theorem dX6_timesByPlan_4 : decode cX6_timesByPlan 4 = .ok (.aload_n 0, 1) := by decide +kernel
theorem dX6_timesByPlan_5 : decode cX6_timesByPlan 5 = .ok (.getfield 26, 3) := by decide +kernel
theorem dX6_timesByPlan_8 : decode cX6_timesByPlan 8 = .ok (.invokevirtual 83, 3) := by decide +kernel
theorem dX6_timesByPlan_11 : decode cX6_timesByPlan 11 = .ok (.aload_n 0, 1) := by decide +kernel
theorem dX6_timesByPlan_12 : decode cX6_timesByPlan 12 = .ok (.getfield 37, 3) := by decide +kernel
theorem dX6_timesByPlan_15 : decode cX6_timesByPlan 15 = .ok (.iload_n 1, 1) := by decide +kernel
theorem dX6_timesByPlan_16 : decode cX6_timesByPlan 16 = .ok (.putfield 111, 3) := by decide +kernel
theorem dX6_timesByPlan_19 : decode cX6_timesByPlan 19 = .ok (.aload_n 0, 1) := by decide +kernel
theorem dX6_timesByPlan_20 : decode cX6_timesByPlan 20 = .ok (.getfield 37, 3) := by decide +kernel
theorem dX6_timesByPlan_23 : decode cX6_timesByPlan 23 = .ok (.aload_n 0, 1) := by decide +kernel
theorem dX6_timesByPlan_24 : decode cX6_timesByPlan 24 = .ok (.getfield 19, 3) := by decide +kernel
theorem dX6_timesByPlan_27 : decode cX6_timesByPlan 27 = .ok (.invokevirtual 206, 3) := by decide +kernel
theorem dX6_timesByPlan_30 : decode cX6_timesByPlan 30 = .ok (.ireturn, 1) := by decide +kernel
set_option maxRecDepth 20000 in
theorem ggX6_timesByRumour_X1_copyFrom : GoodIn wsX6_timesByRumour wsX1_copyFrom := goodIn_r _ [8, 9, 10, 11, 12, 13, 14, 15, 16, 17, 18, 19, 20, 21, 22, 23, 85, 86, 87, 88, 89, 90, 91, 92, 93, 94, 95] (by decide +kernel) (by decide +kernel)
set_option maxRecDepth 20000 in
theorem gX6_timesByRumour_X1_copyFrom : GoodIn wsX6_timesByRumour (wsV RX6 83 RX1 yX1_copyFrom wsX1_copyFrom) := goodIn_app (goodIn_of _ (by decide +kernel)) ggX6_timesByRumour_X1_copyFrom
set_option maxRecDepth 20000 in
theorem ggX6_timesByRumour_X1_spreadRumour : GoodIn wsX6_timesByRumour wsX1_spreadRumour := goodIn_r _ [27, 28, 29, 30, 22, 18, 96, 97, 98, 99, 100, 101, 102, 103, 85, 86, 87, 88, 89, 90, 91, 92, 93, 94, 95] (by decide +kernel) (by decide +kernel)
set_option maxRecDepth 20000 in
theorem gX6_timesByRumour_X1_spreadRumour : GoodIn wsX6_timesByRumour (wsV RX6 165 RX1 yX1_spreadRumour wsX1_spreadRumour) := goodIn_app (goodIn_of _ (by decide +kernel)) ggX6_timesByRumour_X1_spreadRumour
set_option maxRecDepth 20000 in
theorem ggX6_timesByRumour_X1_passToLastWeek : GoodIn wsX6_timesByRumour wsX1_passToLastWeek := goodIn_r _ [34, 22, 35, 36, 37, 7, 38, 23, 28, 30, 39, 40, 41, 42, 43, 44, 45, 46, 29, 47, 48, 49, 50, 51, 18, 10, 52, 53, 54, 55, 19, 56, 57, 58, 59, 16, 60, 61, 62, 63, 64, 65, 66, 67, 15, 68, 69, 70, 71, 21, 17, 72, 73, 74, 75, 9, 20, 85, 86, 87, 88, 89, 90, 91, 92, 93, 94, 95, 96, 97, 98, 99, 100, 101, 102, 103] (by decide +kernel) (by decide +kernel)
set_option maxRecDepth 20000 in
theorem gX6_timesByRumour_X1_passToLastWeek : GoodIn wsX6_timesByRumour (wsV RX6 206 RX1 yX1_passToLastWeek wsX1_passToLastWeek) := goodIn_app (goodIn_of _ (by decide +kernel)) ggX6_timesByRumour_X1_passToLastWeek
theorem dX6_timesByRumour_0 : decode cX6_timesByRumour 0 = .ok (.aload_n 0, 1) := by decide +kernel
theorem dX6_timesByRumour_1 : decode cX6_timesByRumour 1 = .ok (.getfield 37, 3) := by decide +kernel
theorem dX6_timesByRumour_4 : decode cX6_timesByRumour 4 = .ok (.aload_n 0, 1) := by decide +kernel
theorem dX6_timesByRumour_5 : decode cX6_timesByRumour 5 = .ok (.getfield 26, 3) := by decide +kernel
theorem dX6_timesByRumour_8 : decode cX6_timesByRumour 8 = .ok (.invokevirtual 83, 3) := by decide +kernel
theorem dX6_timesByRumour_11 : decode cX6_timesByRumour 11 = .ok (.aload_n 0, 1) := by decide +kernel
theorem dX6_timesByRumour_12 : decode cX6_timesByRumour 12 = .ok (.getfield 37, 3) := by decide +kernel
theorem dX6_timesByRumour_15 : decode cX6_timesByRumour 15 = .ok (.aload_n 0, 1) := by decide +kernel
theorem dX6_timesByRumour_16 : decode cX6_timesByRumour 16 = .ok (.getfield 19, 3) := by decide +kernel
theorem dX6_timesByRumour_19 : decode cX6_timesByRumour 19 = .ok (.iload_n 1, 1) := by decide +kernel
theorem dX6_timesByRumour_20 : decode cX6_timesByRumour 20 = .ok (.invokevirtual 165, 3) := by decide +kernel
theorem dX6_timesByRumour_23 : decode cX6_timesByRumour 23 = .ok (.pop, 1) := by decide +kernel
theorem dX6_timesByRumour_24 : decode cX6_timesByRumour 24 = .ok (.aload_n 0, 1) := by decide +kernel
theorem dX6_timesByRumour_25 : decode cX6_timesByRumour 25 = .ok (.getfield 37, 3) := by decide +kernel
theorem dX6_timesByRumour_28 : decode cX6_timesByRumour 28 = .ok (.aload_n 0, 1) := by decide +kernel
theorem dX6_timesByRumour_29 : decode cX6_timesByRumour 29 = .ok (.getfield 19, 3) := by decide +kernel
theorem dX6_timesByRumour_32 : decode cX6_timesByRumour 32 = .ok (.invokevirtual 206, 3) := by decide +kernel
theorem dX6_timesByRumour_35 : decode cX6_timesByRumour 35 = .ok (.ireturn, 1) := by decide +kernel
set_option maxRecDepth 20000 in
theorem ggX6_staysModest_X1_passWeek : GoodIn wsX6_staysModest wsX1_passWeek := goodIn_r _ [12, 13, 14, 15, 16, 17, 18, 19, 20, 21, 22, 23, 11, 24, 25, 26, 27, 28, 29, 30, 31, 32, 33, 34, 35, 36, 37, 38, 39, 40, 41, 42, 43, 4, 5, 6, 44, 45, 46, 47, 48, 49, 50, 51, 52, 53, 54, 55, 56, 57, 58, 59, 60, 70, 71, 72, 73, 74, 75, 76, 77, 78, 79, 80, 81, 82, 83, 84, 85, 86, 87, 88] (by decide +kernel) (by decide +kernel)
set_option maxRecDepth 20000 in
theorem gX6_staysModest_X1_passWeek : GoodIn wsX6_staysModest (wsV RX6 171 RX1 yX1_passWeek wsX1_passWeek) := goodIn_app (goodIn_of _ (by decide +kernel)) ggX6_staysModest_X1_passWeek
theorem dX6_staysModest_0 : decode cX6_staysModest 0 = .ok (.iload_n 1, 1) := by decide +kernel
theorem dX6_staysModest_1 : decode cX6_staysModest 1 = .ok (.bipush 10, 2) := by decide +kernel
theorem dX6_staysModest_3 : decode cX6_staysModest 3 = .ok (.aload_n 0, 1) := by decide +kernel
theorem dX6_staysModest_4 : decode cX6_staysModest 4 = .ok (.getfield 37, 3) := by decide +kernel
theorem dX6_staysModest_7 : decode cX6_staysModest 7 = .ok (.getfield 108, 3) := by decide +kernel
theorem dX6_staysModest_10 : decode cX6_staysModest 10 = .ok (.isub, 1) := by decide +kernel
theorem dX6_staysModest_11 : decode cX6_staysModest 11 = .ok (.invokestatic 262, 3) := by decide +kernel
theorem dX6_staysModest_14 : decode cX6_staysModest 14 = .ok (.istore_n 2, 1) := by decide +kernel
theorem dX6_staysModest_15 : decode cX6_staysModest 15 = .ok (.iconst 0, 1) := by decide +kernel
theorem dX6_staysModest_16 : decode cX6_staysModest 16 = .ok (.istore_n 3, 1) := by decide +kernel
theorem dX6_staysModest_17 : decode cX6_staysModest 17 = .ok (.iload_n 3, 1) := by decide +kernel
theorem dX6_staysModest_18 : decode cX6_staysModest 18 = .ok (.iload_n 2, 1) := by decide +kernel
theorem dX6_staysModest_19 : decode cX6_staysModest 19 = .ok (.if_icmp .ge 25, 3) := by decide +kernel
theorem dX6_staysModest_22 : decode cX6_staysModest 22 = .ok (.aload_n 0, 1) := by decide +kernel
theorem dX6_staysModest_23 : decode cX6_staysModest 23 = .ok (.getfield 37, 3) := by decide +kernel
theorem dX6_staysModest_26 : decode cX6_staysModest 26 = .ok (.aload_n 0, 1) := by decide +kernel
theorem dX6_staysModest_27 : decode cX6_staysModest 27 = .ok (.getfield 19, 3) := by decide +kernel
theorem dX6_staysModest_30 : decode cX6_staysModest 30 = .ok (.invokevirtual 171, 3) := by decide +kernel
theorem dX6_staysModest_33 : decode cX6_staysModest 33 = .ok (.ifCond .le 5, 3) := by decide +kernel
theorem dX6_staysModest_36 : decode cX6_staysModest 36 = .ok (.iconst 0, 1) := by decide +kernel
theorem dX6_staysModest_37 : decode cX6_staysModest 37 = .ok (.ireturn, 1) := by decide +kernel
theorem dX6_staysModest_38 : decode cX6_staysModest 38 = .ok (.iinc 3 1, 3) := by decide +kernel
theorem dX6_staysModest_41 : decode cX6_staysModest 41 = .ok (.goto (-24), 3) := by decide +kernel
theorem dX6_staysModest_44 : decode cX6_staysModest 44 = .ok (.iconst 1, 1) := by decide +kernel
theorem dX6_staysModest_45 : decode cX6_staysModest 45 = .ok (.ireturn, 1) := by decide +kernel
set_option maxRecDepth 20000 in
theorem ggX6_isAsNoted_X1_copyFrom : GoodIn wsX6_isAsNoted wsX1_copyFrom := goodIn_r _ [12, 13, 14, 15, 16, 17, 18, 19, 20, 21, 22, 23, 24, 25, 26, 27, 90, 91, 92, 93, 94, 95, 96, 97, 98, 99, 100] (by decide +kernel) (by decide +kernel)
set_option maxRecDepth 20000 in
theorem gX6_isAsNoted_X1_copyFrom : GoodIn wsX6_isAsNoted (wsV RX6 83 RX1 yX1_copyFrom wsX1_copyFrom) := goodIn_app (goodIn_of _ (by decide +kernel)) ggX6_isAsNoted_X1_copyFrom
set_option maxRecDepth 20000 in
theorem ggX6_isAsNoted_X1_passWeek : GoodIn wsX6_isAsNoted wsX1_passWeek := goodIn_r _ [31, 27, 32, 33, 26, 34, 35, 36, 37, 38, 39, 40, 11, 41, 42, 43, 44, 45, 46, 47, 22, 14, 48, 49, 50, 51, 23, 52, 53, 54, 55, 20, 56, 57, 58, 59, 60, 61, 62, 63, 19, 64, 65, 66, 67, 25, 21, 68, 69, 70, 71, 13, 24, 90, 91, 92, 93, 94, 95, 96, 97, 98, 99, 100, 101, 102, 103, 104, 105, 106, 107, 108] (by decide +kernel) (by decide +kernel)
set_option maxRecDepth 20000 in
theorem gX6_isAsNoted_X1_passWeek : GoodIn wsX6_isAsNoted (wsV RX6 171 RX1 yX1_passWeek wsX1_passWeek) := goodIn_app (goodIn_of _ (by decide +kernel)) ggX6_isAsNoted_X1_passWeek
set_option maxRecDepth 20000 in
theorem ggX6_isAsNoted_X2_agree : GoodIn wsX6_isAsNoted wsX2_agree := goodIn_r _ [76, 77, 78, 79, 80, 109, 110, 111, 112] (by decide +kernel) (by decide +kernel)
set_option maxRecDepth 20000 in
theorem gX6_isAsNoted_X2_agree : GoodIn wsX6_isAsNoted (wsV RX6 267 RX2 yX2_agree wsX2_agree) := goodIn_app (goodIn_of _ (by decide +kernel)) ggX6_isAsNoted_X2_agree
theorem dX6_isAsNoted_0 : decode cX6_isAsNoted 0 = .ok (.aload_n 0, 1) := by decide +kernel
theorem dX6_isAsNoted_1 : decode cX6_isAsNoted 1 = .ok (.getfield 37, 3) := by decide +kernel
theorem dX6_isAsNoted_4 : decode cX6_isAsNoted 4 = .ok (.aload_n 0, 1) := by decide +kernel
theorem dX6_isAsNoted_5 : decode cX6_isAsNoted 5 = .ok (.getfield 26, 3) := by decide +kernel
theorem dX6_isAsNoted_8 : decode cX6_isAsNoted 8 = .ok (.invokevirtual 83, 3) := by decide +kernel
theorem dX6_isAsNoted_11 : decode cX6_isAsNoted 11 = .ok (.aload_n 0, 1) := by decide +kernel
theorem dX6_isAsNoted_12 : decode cX6_isAsNoted 12 = .ok (.getfield 37, 3) := by decide +kernel
theorem dX6_isAsNoted_15 : decode cX6_isAsNoted 15 = .ok (.iload_n 1, 1) := by decide +kernel
theorem dX6_isAsNoted_16 : decode cX6_isAsNoted 16 = .ok (.putfield 111, 3) := by decide +kernel
theorem dX6_isAsNoted_19 : decode cX6_isAsNoted 19 = .ok (.aload_n 0, 1) := by decide +kernel
theorem dX6_isAsNoted_20 : decode cX6_isAsNoted 20 = .ok (.getfield 26, 3) := by decide +kernel
theorem dX6_isAsNoted_23 : decode cX6_isAsNoted 23 = .ok (.getfield 108, 3) := by decide +kernel
theorem dX6_isAsNoted_26 : decode cX6_isAsNoted 26 = .ok (.istore_n 2, 1) := by decide +kernel
theorem dX6_isAsNoted_27 : decode cX6_isAsNoted 27 = .ok (.iload_n 2, 1) := by decide +kernel
theorem dX6_isAsNoted_28 : decode cX6_isAsNoted 28 = .ok (.bipush 9, 2) := by decide +kernel
theorem dX6_isAsNoted_30 : decode cX6_isAsNoted 30 = .ok (.if_icmp .gt 41, 3) := by decide +kernel
theorem dX6_isAsNoted_33 : decode cX6_isAsNoted 33 = .ok (.aload_n 0, 1) := by decide +kernel
theorem dX6_isAsNoted_34 : decode cX6_isAsNoted 34 = .ok (.getfield 37, 3) := by decide +kernel
theorem dX6_isAsNoted_37 : decode cX6_isAsNoted 37 = .ok (.aload_n 0, 1) := by decide +kernel
theorem dX6_isAsNoted_38 : decode cX6_isAsNoted 38 = .ok (.getfield 19, 3) := by decide +kernel
theorem dX6_isAsNoted_41 : decode cX6_isAsNoted 41 = .ok (.invokevirtual 171, 3) := by decide +kernel
theorem dX6_isAsNoted_44 : decode cX6_isAsNoted 44 = .ok (.pop, 1) := by decide +kernel
theorem dX6_isAsNoted_45 : decode cX6_isAsNoted 45 = .ok (.aload_n 0, 1) := by decide +kernel
theorem dX6_isAsNoted_46 : decode cX6_isAsNoted 46 = .ok (.getfield 33, 3) := by decide +kernel
theorem dX6_isAsNoted_49 : decode cX6_isAsNoted 49 = .ok (.iload_n 2, 1) := by decide +kernel
theorem dX6_isAsNoted_50 : decode cX6_isAsNoted 50 = .ok (.aload_n 0, 1) := by decide +kernel
theorem dX6_isAsNoted_51 : decode cX6_isAsNoted 51 = .ok (.getfield 37, 3) := by decide +kernel
theorem dX6_isAsNoted_54 : decode cX6_isAsNoted 54 = .ok (.getfield 175, 3) := by decide +kernel
theorem dX6_isAsNoted_57 : decode cX6_isAsNoted 57 = .ok (.invokevirtual 267, 3) := by decide +kernel
theorem dX6_isAsNoted_60 : decode cX6_isAsNoted 60 = .ok (.ifCond .ne 5, 3) := by decide +kernel
theorem dX6_isAsNoted_63 : decode cX6_isAsNoted 63 = .ok (.iconst 0, 1) := by decide +kernel
theorem dX6_isAsNoted_64 : decode cX6_isAsNoted 64 = .ok (.ireturn, 1) := by decide +kernel
theorem dX6_isAsNoted_65 : decode cX6_isAsNoted 65 = .ok (.iinc 2 1, 3) := by decide +kernel
theorem dX6_isAsNoted_68 : decode cX6_isAsNoted 68 = .ok (.goto (-41), 3) := by decide +kernel
theorem dX6_isAsNoted_71 : decode cX6_isAsNoted 71 = .ok (.iconst 1, 1) := by decide +kernel
theorem dX6_isAsNoted_72 : decode cX6_isAsNoted 72 = .ok (.ireturn, 1) := by decide +kernel
set_option maxRecDepth 20000 in
theorem ggX7_init_X7_firstDraft : GoodIn wsX7_init wsX7_firstDraft := goodIn_r _ [32, 15, 33, 34, 35, 36, 37, 45, 46, 47, 48, 49, 50, 51, 52, 53, 54, 55, 56, 57, 58, 59, 60, 61, 62, 63, 64, 65, 66, 67, 68, 69, 70, 71, 72, 73, 74, 75, 76, 77, 78, 79, 80, 81, 82, 83] (by decide +kernel) (by decide +kernel)
set_option maxRecDepth 20000 in
theorem gX7_init_X7_firstDraft : GoodIn wsX7_init (wsV RX7 77 RX7 yX7_firstDraft wsX7_firstDraft) := goodIn_app (goodIn_of _ (by decide +kernel)) ggX7_init_X7_firstDraft
set_option maxRecDepth 20000 in
theorem ggX7_init_X7_keepDraft : GoodIn wsX7_init wsX7_keepDraft := goodIn_r _ [41, 5, 15, 33, 42, 34, 43, 35, 44, 9, 16, 10, 17, 11, 18, 12, 19, 13, 20, 14, 21, 8, 45, 46, 47, 48, 49, 50, 51, 52, 53, 54, 55, 56, 57, 58, 59, 60, 61, 62, 63, 64, 65, 66, 67, 68, 69, 70, 71, 72, 73, 74, 75, 76, 77, 78, 79, 80, 81, 82, 83] (by decide +kernel) (by decide +kernel)
set_option maxRecDepth 20000 in
theorem gX7_init_X7_keepDraft : GoodIn wsX7_init (wsV RX7 80 RX7 yX7_keepDraft wsX7_keepDraft) := goodIn_app (goodIn_of _ (by decide +kernel)) ggX7_init_X7_keepDraft
theorem dX7_init_0 : decode cX7_init 0 = .ok (.aload_n 0, 1) := by decide +kernel
theorem dX7_init_1 : decode cX7_init 1 = .ok (.invokespecial 1, 3) := by decide +kernel
theorem dX7_init_4 : decode cX7_init 4 = .ok (.aload_n 0, 1) := by decide +kernel
theorem dX7_init_5 : decode cX7_init 5 = .ok (.sipush 135, 3) := by decide +kernel
theorem dX7_init_8 : decode cX7_init 8 = .ok (.newarray .int, 2) := by decide +kernel
theorem dX7_init_10 : decode cX7_init 10 = .ok (.putfield 7, 3) := by decide +kernel
theorem dX7_init_13 : decode cX7_init 13 = .ok (.aload_n 0, 1) := by decide +kernel
theorem dX7_init_14 : decode cX7_init 14 = .ok (.bipush 45, 2) := by decide +kernel
theorem dX7_init_16 : decode cX7_init 16 = .ok (.newarray .int, 2) := by decide +kernel
theorem dX7_init_18 : decode cX7_init 18 = .ok (.putfield 13, 3) := by decide +kernel
theorem dX7_init_21 : decode cX7_init 21 = .ok (.aload_n 0, 1) := by decide +kernel
theorem dX7_init_22 : decode cX7_init 22 = .ok (.iconst 2, 1) := by decide +kernel
theorem dX7_init_23 : decode cX7_init 23 = .ok (.newarray .boolean, 2) := by decide +kernel
theorem dX7_init_25 : decode cX7_init 25 = .ok (.putfield 16, 3) := by decide +kernel
theorem dX7_init_28 : decode cX7_init 28 = .ok (.aload_n 0, 1) := by decide +kernel
theorem dX7_init_29 : decode cX7_init 29 = .ok (.bipush 6, 2) := by decide +kernel
theorem dX7_init_31 : decode cX7_init 31 = .ok (.newarray .int, 2) := by decide +kernel
theorem dX7_init_33 : decode cX7_init 33 = .ok (.putfield 20, 3) := by decide +kernel
theorem dX7_init_36 : decode cX7_init 36 = .ok (.aload_n 0, 1) := by decide +kernel
theorem dX7_init_37 : decode cX7_init 37 = .ok (.bipush 6, 2) := by decide +kernel
theorem dX7_init_39 : decode cX7_init 39 = .ok (.newarray .int, 2) := by decide +kernel
theorem dX7_init_41 : decode cX7_init 41 = .ok (.putfield 23, 3) := by decide +kernel
theorem dX7_init_44 : decode cX7_init 44 = .ok (.aload_n 0, 1) := by decide +kernel
theorem dX7_init_45 : decode cX7_init 45 = .ok (.bipush 6, 2) := by decide +kernel
theorem dX7_init_47 : decode cX7_init 47 = .ok (.newarray .int, 2) := by decide +kernel
theorem dX7_init_49 : decode cX7_init 49 = .ok (.putfield 26, 3) := by decide +kernel
theorem dX7_init_52 : decode cX7_init 52 = .ok (.aload_n 0, 1) := by decide +kernel
theorem dX7_init_53 : decode cX7_init 53 = .ok (.bipush 6, 2) := by decide +kernel
theorem dX7_init_55 : decode cX7_init 55 = .ok (.newarray .int, 2) := by decide +kernel
theorem dX7_init_57 : decode cX7_init 57 = .ok (.putfield 29, 3) := by decide +kernel
theorem dX7_init_60 : decode cX7_init 60 = .ok (.aload_n 0, 1) := by decide +kernel
theorem dX7_init_61 : decode cX7_init 61 = .ok (.bipush 6, 2) := by decide +kernel
theorem dX7_init_63 : decode cX7_init 63 = .ok (.newarray .int, 2) := by decide +kernel
theorem dX7_init_65 : decode cX7_init 65 = .ok (.putfield 32, 3) := by decide +kernel
theorem dX7_init_68 : decode cX7_init 68 = .ok (.aload_n 0, 1) := by decide +kernel
theorem dX7_init_69 : decode cX7_init 69 = .ok (.bipush 6, 2) := by decide +kernel
theorem dX7_init_71 : decode cX7_init 71 = .ok (.newarray .int, 2) := by decide +kernel
theorem dX7_init_73 : decode cX7_init 73 = .ok (.putfield 35, 3) := by decide +kernel
theorem dX7_init_76 : decode cX7_init 76 = .ok (.aload_n 0, 1) := by decide +kernel
theorem dX7_init_77 : decode cX7_init 77 = .ok (.bipush 45, 2) := by decide +kernel
theorem dX7_init_79 : decode cX7_init 79 = .ok (.newarray .int, 2) := by decide +kernel
theorem dX7_init_81 : decode cX7_init 81 = .ok (.putfield 38, 3) := by decide +kernel
theorem dX7_init_84 : decode cX7_init 84 = .ok (.aload_n 0, 1) := by decide +kernel
theorem dX7_init_85 : decode cX7_init 85 = .ok (.bipush 6, 2) := by decide +kernel
theorem dX7_init_87 : decode cX7_init 87 = .ok (.newarray .int, 2) := by decide +kernel
theorem dX7_init_89 : decode cX7_init 89 = .ok (.putfield 41, 3) := by decide +kernel
theorem dX7_init_92 : decode cX7_init 92 = .ok (.aload_n 0, 1) := by decide +kernel
theorem dX7_init_93 : decode cX7_init 93 = .ok (.bipush 6, 2) := by decide +kernel
theorem dX7_init_95 : decode cX7_init 95 = .ok (.newarray .int, 2) := by decide +kernel
theorem dX7_init_97 : decode cX7_init 97 = .ok (.putfield 44, 3) := by decide +kernel
theorem dX7_init_100 : decode cX7_init 100 = .ok (.aload_n 0, 1) := by decide +kernel
theorem dX7_init_101 : decode cX7_init 101 = .ok (.bipush 6, 2) := by decide +kernel
theorem dX7_init_103 : decode cX7_init 103 = .ok (.newarray .int, 2) := by decide +kernel
theorem dX7_init_105 : decode cX7_init 105 = .ok (.putfield 47, 3) := by decide +kernel
theorem dX7_init_108 : decode cX7_init 108 = .ok (.aload_n 0, 1) := by decide +kernel
theorem dX7_init_109 : decode cX7_init 109 = .ok (.bipush 6, 2) := by decide +kernel
theorem dX7_init_111 : decode cX7_init 111 = .ok (.newarray .int, 2) := by decide +kernel
theorem dX7_init_113 : decode cX7_init 113 = .ok (.putfield 50, 3) := by decide +kernel
theorem dX7_init_116 : decode cX7_init 116 = .ok (.aload_n 0, 1) := by decide +kernel
theorem dX7_init_117 : decode cX7_init 117 = .ok (.bipush 6, 2) := by decide +kernel
theorem dX7_init_119 : decode cX7_init 119 = .ok (.newarray .int, 2) := by decide +kernel
theorem dX7_init_121 : decode cX7_init 121 = .ok (.putfield 53, 3) := by decide +kernel
theorem dX7_init_124 : decode cX7_init 124 = .ok (.aload_n 0, 1) := by decide +kernel
theorem dX7_init_125 : decode cX7_init 125 = .ok (.bipush 6, 2) := by decide +kernel
theorem dX7_init_127 : decode cX7_init 127 = .ok (.newarray .int, 2) := by decide +kernel
theorem dX7_init_129 : decode cX7_init 129 = .ok (.putfield 56, 3) := by decide +kernel
theorem dX7_init_132 : decode cX7_init 132 = .ok (.aload_n 0, 1) := by decide +kernel
theorem dX7_init_133 : decode cX7_init 133 = .ok (.sipush 160, 3) := by decide +kernel
theorem dX7_init_136 : decode cX7_init 136 = .ok (.newarray .int, 2) := by decide +kernel
theorem dX7_init_138 : decode cX7_init 138 = .ok (.putfield 59, 3) := by decide +kernel
theorem dX7_init_141 : decode cX7_init 141 = .ok (.aload_n 0, 1) := by decide +kernel
theorem dX7_init_142 : decode cX7_init 142 = .ok (.iconst 4, 1) := by decide +kernel
theorem dX7_init_143 : decode cX7_init 143 = .ok (.newarray .int, 2) := by decide +kernel
theorem dX7_init_145 : decode cX7_init 145 = .ok (.putfield 62, 3) := by decide +kernel
theorem dX7_init_148 : decode cX7_init 148 = .ok (.aload_n 0, 1) := by decide +kernel
theorem dX7_init_149 : decode cX7_init 149 = .ok (.iconst 4, 1) := by decide +kernel
theorem dX7_init_150 : decode cX7_init 150 = .ok (.newarray .int, 2) := by decide +kernel
theorem dX7_init_152 : decode cX7_init 152 = .ok (.putfield 65, 3) := by decide +kernel
theorem dX7_init_155 : decode cX7_init 155 = .ok (.aload_n 0, 1) := by decide +kernel
theorem dX7_init_156 : decode cX7_init 156 = .ok (.iconst 4, 1) := by decide +kernel
theorem dX7_init_157 : decode cX7_init 157 = .ok (.newarray .int, 2) := by decide +kernel
theorem dX7_init_159 : decode cX7_init 159 = .ok (.putfield 68, 3) := by decide +kernel
theorem dX7_init_162 : decode cX7_init 162 = .ok (.aload_n 0, 1) := by decide +kernel
theorem dX7_init_163 : decode cX7_init 163 = .ok (.sipush 160, 3) := by decide +kernel
theorem dX7_init_166 : decode cX7_init 166 = .ok (.newarray .int, 2) := by decide +kernel
theorem dX7_init_168 : decode cX7_init 168 = .ok (.putfield 71, 3) := by decide +kernel
theorem dX7_init_171 : decode cX7_init 171 = .ok (.aload_n 0, 1) := by decide +kernel
theorem dX7_init_172 : decode cX7_init 172 = .ok (.bipush 45, 2) := by decide +kernel
theorem dX7_init_174 : decode cX7_init 174 = .ok (.newarray .int, 2) := by decide +kernel
theorem dX7_init_176 : decode cX7_init 176 = .ok (.putfield 74, 3) := by decide +kernel
theorem dX7_init_179 : decode cX7_init 179 = .ok (.iconst 0, 1) := by decide +kernel
theorem dX7_init_180 : decode cX7_init 180 = .ok (.istore_n 1, 1) := by decide +kernel
theorem dX7_init_181 : decode cX7_init 181 = .ok (.iload_n 1, 1) := by decide +kernel
theorem dX7_init_182 : decode cX7_init 182 = .ok (.iconst 4, 1) := by decide +kernel
theorem dX7_init_183 : decode cX7_init 183 = .ok (.if_icmp .ge 17, 3) := by decide +kernel
theorem dX7_init_186 : decode cX7_init 186 = .ok (.aload_n 0, 1) := by decide +kernel
theorem dX7_init_187 : decode cX7_init 187 = .ok (.getfield 65, 3) := by decide +kernel
theorem dX7_init_190 : decode cX7_init 190 = .ok (.iload_n 1, 1) := by decide +kernel
theorem dX7_init_191 : decode cX7_init 191 = .ok (.bipush (-4), 2) := by decide +kernel
theorem dX7_init_193 : decode cX7_init 193 = .ok (.iastore, 1) := by decide +kernel
theorem dX7_init_194 : decode cX7_init 194 = .ok (.iinc 1 1, 3) := by decide +kernel
theorem dX7_init_197 : decode cX7_init 197 = .ok (.goto (-16), 3) := by decide +kernel
theorem dX7_init_200 : decode cX7_init 200 = .ok (.aload_n 0, 1) := by decide +kernel
theorem dX7_init_201 : decode cX7_init 201 = .ok (.invokevirtual 77, 3) := by decide +kernel
theorem dX7_init_204 : decode cX7_init 204 = .ok (.aload_n 0, 1) := by decide +kernel
theorem dX7_init_205 : decode cX7_init 205 = .ok (.invokevirtual 80, 3) := by decide +kernel
theorem dX7_init_208 : decode cX7_init 208 = .ok (.return_, 1) := by decide +kernel
theorem dX7_in_0 : decode cX7_in 0 = .ok (.lload_n 0, 1) := by decide +kernel
theorem dX7_in_1 : decode cX7_in 1 = .ok (.lload_n 2, 1) := by decide +kernel
theorem dX7_in_2 : decode cX7_in 2 = .ok (.lcmp, 1) := by decide +kernel
theorem dX7_in_3 : decode cX7_in 3 = .ok (.ifCond .lt 14, 3) := by decide +kernel
theorem dX7_in_6 : decode cX7_in 6 = .ok (.lload_n 0, 1) := by decide +kernel
theorem dX7_in_7 : decode cX7_in 7 = .ok (.lload 4, 2) := by decide +kernel
theorem dX7_in_9 : decode cX7_in 9 = .ok (.lcmp, 1) := by decide +kernel
theorem dX7_in_10 : decode cX7_in 10 = .ok (.ifCond .gt 7, 3) := by decide +kernel
theorem dX7_in_13 : decode cX7_in 13 = .ok (.iconst 1, 1) := by decide +kernel
theorem dX7_in_14 : decode cX7_in 14 = .ok (.goto 4, 3) := by decide +kernel
theorem dX7_in_17 : decode cX7_in 17 = .ok (.iconst 0, 1) := by decide +kernel
theorem dX7_in_18 : decode cX7_in 18 = .ok (.ireturn, 1) := by decide +kernel
theorem dX7_flag_0 : decode cX7_flag 0 = .ok (.iload_n 0, 1) := by decide +kernel
theorem dX7_flag_1 : decode cX7_flag 1 = .ok (.ifCond .eq 7, 3) := by decide +kernel
theorem dX7_flag_4 : decode cX7_flag 4 = .ok (.iconst 1, 1) := by decide +kernel
theorem dX7_flag_5 : decode cX7_flag 5 = .ok (.goto 4, 3) := by decide +kernel
theorem dX7_flag_8 : decode cX7_flag 8 = .ok (.iconst 0, 1) := by decide +kernel
theorem dX7_flag_9 : decode cX7_flag 9 = .ok (.ireturn, 1) := by decide +kernel
theorem dX7_firstDraft_0 : decode cX7_firstDraft 0 = .ok (.iconst 0, 1) := by decide +kernel
theorem dX7_firstDraft_1 : decode cX7_firstDraft 1 = .ok (.istore_n 1, 1) := by decide +kernel
theorem dX7_firstDraft_2 : decode cX7_firstDraft 2 = .ok (.iload_n 1, 1) := by decide +kernel
theorem dX7_firstDraft_3 : decode cX7_firstDraft 3 = .ok (.bipush 45, 2) := by decide +kernel
theorem dX7_firstDraft_5 : decode cX7_firstDraft 5 = .ok (.if_icmp .ge 16, 3) := by decide +kernel
theorem dX7_firstDraft_8 : decode cX7_firstDraft 8 = .ok (.aload_n 0, 1) := by decide +kernel
theorem dX7_firstDraft_9 : decode cX7_firstDraft 9 = .ok (.getfield 38, 3) := by decide +kernel
theorem dX7_firstDraft_12 : decode cX7_firstDraft 12 = .ok (.iload_n 1, 1) := by decide +kernel
theorem dX7_firstDraft_13 : decode cX7_firstDraft 13 = .ok (.iconst 0, 1) := by decide +kernel
theorem dX7_firstDraft_14 : decode cX7_firstDraft 14 = .ok (.iastore, 1) := by decide +kernel
theorem dX7_firstDraft_15 : decode cX7_firstDraft 15 = .ok (.iinc 1 1, 3) := by decide +kernel
theorem dX7_firstDraft_18 : decode cX7_firstDraft 18 = .ok (.goto (-16), 3) := by decide +kernel
theorem dX7_firstDraft_21 : decode cX7_firstDraft 21 = .ok (.aload_n 0, 1) := by decide +kernel
theorem dX7_firstDraft_22 : decode cX7_firstDraft 22 = .ok (.getfield 38, 3) := by decide +kernel
theorem dX7_firstDraft_25 : decode cX7_firstDraft 25 = .ok (.bipush 23, 2) := by decide +kernel
theorem dX7_firstDraft_27 : decode cX7_firstDraft 27 = .ok (.iconst 1, 1) := by decide +kernel
theorem dX7_firstDraft_28 : decode cX7_firstDraft 28 = .ok (.iastore, 1) := by decide +kernel
theorem dX7_firstDraft_29 : decode cX7_firstDraft 29 = .ok (.aload_n 0, 1) := by decide +kernel
theorem dX7_firstDraft_30 : decode cX7_firstDraft 30 = .ok (.getfield 38, 3) := by decide +kernel
theorem dX7_firstDraft_33 : decode cX7_firstDraft 33 = .ok (.bipush 24, 2) := by decide +kernel
theorem dX7_firstDraft_35 : decode cX7_firstDraft 35 = .ok (.bipush 20, 2) := by decide +kernel
theorem dX7_firstDraft_37 : decode cX7_firstDraft 37 = .ok (.iastore, 1) := by decide +kernel
theorem dX7_firstDraft_38 : decode cX7_firstDraft 38 = .ok (.aload_n 0, 1) := by decide +kernel
theorem dX7_firstDraft_39 : decode cX7_firstDraft 39 = .ok (.iconst 0, 1) := by decide +kernel
theorem dX7_firstDraft_40 : decode cX7_firstDraft 40 = .ok (.putfield 83, 3) := by decide +kernel
theorem dX7_firstDraft_43 : decode cX7_firstDraft 43 = .ok (.aload_n 0, 1) := by decide +kernel
theorem dX7_firstDraft_44 : decode cX7_firstDraft 44 = .ok (.iconst 0, 1) := by decide +kernel
theorem dX7_firstDraft_45 : decode cX7_firstDraft 45 = .ok (.putfield 87, 3) := by decide +kernel
theorem dX7_firstDraft_48 : decode cX7_firstDraft 48 = .ok (.aload_n 0, 1) := by decide +kernel
theorem dX7_firstDraft_49 : decode cX7_firstDraft 49 = .ok (.iconst 0, 1) := by decide +kernel
theorem dX7_firstDraft_50 : decode cX7_firstDraft 50 = .ok (.putfield 90, 3) := by decide +kernel
theorem dX7_firstDraft_53 : decode cX7_firstDraft 53 = .ok (.aload_n 0, 1) := by decide +kernel
theorem dX7_firstDraft_54 : decode cX7_firstDraft 54 = .ok (.iconst 0, 1) := by decide +kernel
theorem dX7_firstDraft_55 : decode cX7_firstDraft 55 = .ok (.putfield 93, 3) := by decide +kernel
theorem dX7_firstDraft_58 : decode cX7_firstDraft 58 = .ok (.aload_n 0, 1) := by decide +kernel
theorem dX7_firstDraft_59 : decode cX7_firstDraft 59 = .ok (.bipush (-4), 2) := by decide +kernel
theorem dX7_firstDraft_61 : decode cX7_firstDraft 61 = .ok (.putfield 96, 3) := by decide +kernel
theorem dX7_firstDraft_64 : decode cX7_firstDraft 64 = .ok (.return_, 1) := by decide +kernel
theorem dX7_keepDraft_0 : decode cX7_keepDraft 0 = .ok (.iconst 0, 1) := by decide +kernel
theorem dX7_keepDraft_1 : decode cX7_keepDraft 1 = .ok (.istore_n 1, 1) := by decide +kernel
theorem dX7_keepDraft_2 : decode cX7_keepDraft 2 = .ok (.iload_n 1, 1) := by decide +kernel
theorem dX7_keepDraft_3 : decode cX7_keepDraft 3 = .ok (.bipush 45, 2) := by decide +kernel
theorem dX7_keepDraft_5 : decode cX7_keepDraft 5 = .ok (.if_icmp .ge 21, 3) := by decide +kernel
theorem dX7_keepDraft_8 : decode cX7_keepDraft 8 = .ok (.aload_n 0, 1) := by decide +kernel
theorem dX7_keepDraft_9 : decode cX7_keepDraft 9 = .ok (.getfield 7, 3) := by decide +kernel
theorem dX7_keepDraft_12 : decode cX7_keepDraft 12 = .ok (.iload_n 1, 1) := by decide +kernel
theorem dX7_keepDraft_13 : decode cX7_keepDraft 13 = .ok (.aload_n 0, 1) := by decide +kernel
theorem dX7_keepDraft_14 : decode cX7_keepDraft 14 = .ok (.getfield 38, 3) := by decide +kernel
theorem dX7_keepDraft_17 : decode cX7_keepDraft 17 = .ok (.iload_n 1, 1) := by decide +kernel
theorem dX7_keepDraft_18 : decode cX7_keepDraft 18 = .ok (.iaload, 1) := by decide +kernel
theorem dX7_keepDraft_19 : decode cX7_keepDraft 19 = .ok (.iastore, 1) := by decide +kernel
theorem dX7_keepDraft_20 : decode cX7_keepDraft 20 = .ok (.iinc 1 1, 3) := by decide +kernel
theorem dX7_keepDraft_23 : decode cX7_keepDraft 23 = .ok (.goto (-21), 3) := by decide +kernel
theorem dX7_keepDraft_26 : decode cX7_keepDraft 26 = .ok (.aload_n 0, 1) := by decide +kernel
theorem dX7_keepDraft_27 : decode cX7_keepDraft 27 = .ok (.aload_n 0, 1) := by decide +kernel
theorem dX7_keepDraft_28 : decode cX7_keepDraft 28 = .ok (.getfield 83, 3) := by decide +kernel
