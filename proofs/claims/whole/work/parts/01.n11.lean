theorem dX7_gift_102 : decode cX7_gift 102 = .ok (.if_icmp .ne 8, 3) := by decide +kernel
theorem dX7_gift_105 : decode cX7_gift 105 = .ok (.bipush (-4), 2) := by decide +kernel
theorem dX7_gift_107 : decode cX7_gift 107 = .ok (.goto 13, 3) := by decide +kernel
theorem dX7_gift_110 : decode cX7_gift 110 = .ok (.iload_n 2, 1) := by decide +kernel
theorem dX7_gift_111 : decode cX7_gift 111 = .ok (.ifCond .ne 8, 3) := by decide +kernel
theorem dX7_gift_114 : decode cX7_gift 114 = .ok (.iload 4, 2) := by decide +kernel
theorem dX7_gift_116 : decode cX7_gift 116 = .ok (.goto 4, 3) := by decide +kernel
theorem dX7_gift_119 : decode cX7_gift 119 = .ok (.iload_n 3, 1) := by decide +kernel
theorem dX7_gift_120 : decode cX7_gift 120 = .ok (.ireturn, 1) := by decide +kernel
set_option maxRecDepth 20000 in
theorem ggX7_told_X7_isOne : GoodIn wsX7_told wsX7_isOne := goodIn_r _ [7, 1, 8, 9, 6, 10, 79, 80, 81, 82, 83, 84, 85, 86, 87, 88, 89, 90, 91, 92, 93, 94, 95, 96, 97, 98, 99, 100, 101, 102, 103, 104, 105, 106, 107, 108, 109, 110, 111, 112, 113, 114, 115, 116, 117] (by decide +kernel) (by decide +kernel)
set_option maxRecDepth 20000 in
theorem gX7_told_X7_isOne : GoodIn wsX7_told (wsV RX7 210 RX7 yX7_isOne wsX7_isOne) := goodIn_app (goodIn_of _ (by decide +kernel)) ggX7_told_X7_isOne
set_option maxRecDepth 20000 in
theorem ggX7_told_X7_isPart : GoodIn wsX7_told wsX7_isPart := goodIn_r _ [13, 8, 9, 6, 10] (by decide +kernel) (by decide +kernel)
set_option maxRecDepth 20000 in
theorem gX7_told_X7_isPart : GoodIn wsX7_told (va_wsS RX7 234 yX7_isPart wsX7_isPart) := goodIn_app (goodIn_of _ (by decide +kernel)) ggX7_told_X7_isPart
set_option maxRecDepth 20000 in
theorem ggX7_told_X7_brazenAsNow : GoodIn wsX7_told wsX7_brazenAsNow := goodIn_r _ [17, 18, 19, 20, 6, 21, 22, 23, 24, 25, 26, 27, 28, 29, 30, 31, 32, 33, 34, 35, 36, 37, 38, 39, 40, 41, 42, 43, 44, 45, 1, 46, 47, 48, 49, 50, 51, 52, 53, 54, 55, 56, 57, 58, 59, 60, 61, 62, 63, 64, 65, 66, 67, 68, 69, 70, 71, 79, 80, 81, 82, 83, 84, 85, 86, 87, 88, 89, 90, 91, 92, 93, 94, 95, 96, 97, 98, 99, 100, 101, 102, 103, 104, 105, 106, 107, 108, 109, 110, 111, 112, 113, 114, 115, 116, 117] (by decide +kernel) (by decide +kernel)
set_option maxRecDepth 20000 in
theorem gX7_told_X7_brazenAsNow : GoodIn wsX7_told (wsV RX7 270 RX7 yX7_brazenAsNow wsX7_brazenAsNow) := goodIn_app (goodIn_of _ (by decide +kernel)) ggX7_told_X7_brazenAsNow
set_option maxRecDepth 20000 in
theorem ggX7_told_X7_of : GoodIn wsX7_told wsX7_of := goodIn_r _ [54, 22, 79, 80, 81, 82, 83, 84, 85, 86, 87, 88, 89, 90, 91, 92, 93, 94, 95, 96, 97, 98, 99, 100, 101, 102, 103, 104, 105, 106, 107, 108, 109, 110, 111, 112, 113, 114, 115, 116, 117] (by decide +kernel) (by decide +kernel)
set_option maxRecDepth 20000 in
theorem gX7_told_X7_of : GoodIn wsX7_told (wsV RX7 182 RX7 yX7_of wsX7_of) := goodIn_app (goodIn_of _ (by decide +kernel)) ggX7_told_X7_of
set_option maxRecDepth 20000 in
theorem ggX7_told_X7_starts : GoodIn wsX7_told wsX7_starts := goodIn_r _ [21, 22, 23, 79, 80, 81, 82, 83, 84, 85, 86, 87, 88, 89, 90, 91, 92, 93, 94, 95, 96, 97, 98, 99, 100, 101, 102, 103, 104, 105, 106, 107, 108, 109, 110, 111, 112, 113, 114, 115, 116, 117] (by decide +kernel) (by decide +kernel)
set_option maxRecDepth 20000 in
theorem gX7_told_X7_starts : GoodIn wsX7_told (wsV RX7 217 RX7 yX7_starts wsX7_starts) := goodIn_app (goodIn_of _ (by decide +kernel)) ggX7_told_X7_starts
set_option maxRecDepth 20000 in
theorem ggX7_told_X7_rumoured : GoodIn wsX7_told wsX7_rumoured := goodIn_r _ [75, 41, 43, 42, 22, 76, 77, 6, 78, 79, 80, 81, 82, 83, 84, 85, 86, 87, 88, 89, 90, 91, 92, 93, 94, 95, 96, 97, 98, 99, 100, 101, 102, 103, 104, 105, 106, 107, 108, 109, 110, 111, 112, 113, 114, 115, 116, 117] (by decide +kernel) (by decide +kernel)
set_option maxRecDepth 20000 in
theorem gX7_told_X7_rumoured : GoodIn wsX7_told (wsV RX7 228 RX7 yX7_rumoured wsX7_rumoured) := goodIn_app (goodIn_of _ (by decide +kernel)) ggX7_told_X7_rumoured
set_option maxRecDepth 20000 in
theorem ggX7_told_X7_weeksLeft : GoodIn wsX7_told wsX7_weeksLeft := goodIn_r _ [27, 23, 79, 80, 81, 82, 83, 84, 85, 86, 87, 88, 89, 90, 91, 92, 93, 94, 95, 96, 97, 98, 99, 100, 101, 102, 103, 104, 105, 106, 107, 108, 109, 110, 111, 112, 113, 114, 115, 116, 117] (by decide +kernel) (by decide +kernel)
set_option maxRecDepth 20000 in
theorem gX7_told_X7_weeksLeft : GoodIn wsX7_told (wsV RX7 253 RX7 yX7_weeksLeft wsX7_weeksLeft) := goodIn_app (goodIn_of _ (by decide +kernel)) ggX7_told_X7_weeksLeft
set_option maxRecDepth 20000 in
theorem ggX7_told_X7_weeksGo : GoodIn wsX7_told wsX7_weeksGo := goodIn_r _ [35, 36, 37, 38, 6, 39, 22, 40, 41, 42, 43, 44, 45, 1, 46, 47, 48, 49, 50, 51, 52, 53, 54, 55, 56, 57, 58, 59, 60, 61, 62, 63, 64, 65, 66, 67, 79, 80, 81, 82, 83, 84, 85, 86, 87, 88, 89, 90, 91, 92, 93, 94, 95, 96, 97, 98, 99, 100, 101, 102, 103, 104, 105, 106, 107, 108, 109, 110, 111, 112, 113, 114, 115, 116, 117] (by decide +kernel) (by decide +kernel)
set_option maxRecDepth 20000 in
theorem gX7_told_X7_weeksGo : GoodIn wsX7_told (wsV RX7 204 RX7 yX7_weeksGo wsX7_weeksGo) := goodIn_app (goodIn_of _ (by decide +kernel)) ggX7_told_X7_weeksGo
set_option maxRecDepth 20000 in
theorem ggX7_told_X7_flag : GoodIn wsX7_told wsX7_flag := goodIn_r _ [78] (by decide +kernel) (by decide +kernel)
set_option maxRecDepth 20000 in
theorem gX7_told_X7_flag : GoodIn wsX7_told (va_wsS RX7 224 yX7_flag wsX7_flag) := goodIn_app (goodIn_of _ (by decide +kernel)) ggX7_told_X7_flag
theorem dX7_told_0 : decode cX7_told 0 = .ok (.aload_n 0, 1) := by decide +kernel
theorem dX7_told_1 : decode cX7_told 1 = .ok (.iload_n 1, 1) := by decide +kernel
theorem dX7_told_2 : decode cX7_told 2 = .ok (.invokevirtual 210, 3) := by decide +kernel
theorem dX7_told_5 : decode cX7_told 5 = .ok (.ifCond .eq 10, 3) := by decide +kernel
theorem dX7_told_8 : decode cX7_told 8 = .ok (.iload_n 2, 1) := by decide +kernel
theorem dX7_told_9 : decode cX7_told 9 = .ok (.invokestatic 234, 3) := by decide +kernel
theorem dX7_told_12 : decode cX7_told 12 = .ok (.ifCond .ne 5, 3) := by decide +kernel
theorem dX7_told_15 : decode cX7_told 15 = .ok (.iconst (-1), 1) := by decide +kernel
theorem dX7_told_16 : decode cX7_told 16 = .ok (.ireturn, 1) := by decide +kernel
theorem dX7_told_17 : decode cX7_told 17 = .ok (.aload_n 0, 1) := by decide +kernel
theorem dX7_told_18 : decode cX7_told 18 = .ok (.invokevirtual 270, 3) := by decide +kernel
theorem dX7_told_21 : decode cX7_told 21 = .ok (.pop, 1) := by decide +kernel
theorem dX7_told_22 : decode cX7_told 22 = .ok (.iconst 0, 1) := by decide +kernel
theorem dX7_told_23 : decode cX7_told 23 = .ok (.istore_n 3, 1) := by decide +kernel
theorem dX7_told_24 : decode cX7_told 24 = .ok (.iload_n 3, 1) := by decide +kernel
theorem dX7_told_25 : decode cX7_told 25 = .ok (.aload_n 0, 1) := by decide +kernel
theorem dX7_told_26 : decode cX7_told 26 = .ok (.getfield 99, 3) := by decide +kernel
theorem dX7_told_29 : decode cX7_told 29 = .ok (.if_icmp .ge 21, 3) := by decide +kernel
theorem dX7_told_32 : decode cX7_told 32 = .ok (.aload_n 0, 1) := by decide +kernel
theorem dX7_told_33 : decode cX7_told 33 = .ok (.getfield 62, 3) := by decide +kernel
theorem dX7_told_36 : decode cX7_told 36 = .ok (.iload_n 3, 1) := by decide +kernel
theorem dX7_told_37 : decode cX7_told 37 = .ok (.aload_n 0, 1) := by decide +kernel
theorem dX7_told_38 : decode cX7_told 38 = .ok (.iload_n 3, 1) := by decide +kernel
theorem dX7_told_39 : decode cX7_told 39 = .ok (.iconst 3, 1) := by decide +kernel
theorem dX7_told_40 : decode cX7_told 40 = .ok (.invokevirtual 182, 3) := by decide +kernel
theorem dX7_told_43 : decode cX7_told 43 = .ok (.iastore, 1) := by decide +kernel
theorem dX7_told_44 : decode cX7_told 44 = .ok (.iinc 3 1, 3) := by decide +kernel
theorem dX7_told_47 : decode cX7_told 47 = .ok (.goto (-23), 3) := by decide +kernel
theorem dX7_told_50 : decode cX7_told 50 = .ok (.aload_n 0, 1) := by decide +kernel
theorem dX7_told_51 : decode cX7_told 51 = .ok (.invokevirtual 217, 3) := by decide +kernel
theorem dX7_told_54 : decode cX7_told 54 = .ok (.aload_n 0, 1) := by decide +kernel
theorem dX7_told_55 : decode cX7_told 55 = .ok (.iload_n 1, 1) := by decide +kernel
theorem dX7_told_56 : decode cX7_told 56 = .ok (.invokevirtual 228, 3) := by decide +kernel
theorem dX7_told_59 : decode cX7_told 59 = .ok (.pop, 1) := by decide +kernel
theorem dX7_told_60 : decode cX7_told 60 = .ok (.aload_n 0, 1) := by decide +kernel
theorem dX7_told_61 : decode cX7_told 61 = .ok (.aload_n 0, 1) := by decide +kernel
theorem dX7_told_62 : decode cX7_told 62 = .ok (.invokevirtual 253, 3) := by decide +kernel
theorem dX7_told_65 : decode cX7_told 65 = .ok (.invokevirtual 204, 3) := by decide +kernel
theorem dX7_told_68 : decode cX7_told 68 = .ok (.iconst 0, 1) := by decide +kernel
theorem dX7_told_69 : decode cX7_told 69 = .ok (.istore_n 3, 1) := by decide +kernel
theorem dX7_told_70 : decode cX7_told 70 = .ok (.iconst 0, 1) := by decide +kernel
theorem dX7_told_71 : decode cX7_told 71 = .ok (.istore 4, 2) := by decide +kernel
theorem dX7_told_73 : decode cX7_told 73 = .ok (.iload 4, 2) := by decide +kernel
theorem dX7_told_75 : decode cX7_told 75 = .ok (.aload_n 0, 1) := by decide +kernel
theorem dX7_told_76 : decode cX7_told 76 = .ok (.getfield 99, 3) := by decide +kernel
theorem dX7_told_79 : decode cX7_told 79 = .ok (.if_icmp .ge 73, 3) := by decide +kernel
theorem dX7_told_82 : decode cX7_told 82 = .ok (.iload_n 2, 1) := by decide +kernel
theorem dX7_told_83 : decode cX7_told 83 = .ok (.ifCond .ne 28, 3) := by decide +kernel
theorem dX7_told_86 : decode cX7_told 86 = .ok (.aload_n 0, 1) := by decide +kernel
theorem dX7_told_87 : decode cX7_told 87 = .ok (.iload 4, 2) := by decide +kernel
theorem dX7_told_89 : decode cX7_told 89 = .ok (.iconst 3, 1) := by decide +kernel
theorem dX7_told_90 : decode cX7_told 90 = .ok (.invokevirtual 182, 3) := by decide +kernel
theorem dX7_told_93 : decode cX7_told 93 = .ok (.aload_n 0, 1) := by decide +kernel
theorem dX7_told_94 : decode cX7_told 94 = .ok (.getfield 62, 3) := by decide +kernel
theorem dX7_told_97 : decode cX7_told 97 = .ok (.iload 4, 2) := by decide +kernel
theorem dX7_told_99 : decode cX7_told 99 = .ok (.iaload, 1) := by decide +kernel
theorem dX7_told_100 : decode cX7_told 100 = .ok (.if_icmp .le 7, 3) := by decide +kernel
theorem dX7_told_103 : decode cX7_told 103 = .ok (.iconst 1, 1) := by decide +kernel
theorem dX7_told_104 : decode cX7_told 104 = .ok (.goto 29, 3) := by decide +kernel
theorem dX7_told_107 : decode cX7_told 107 = .ok (.iconst 0, 1) := by decide +kernel
theorem dX7_told_108 : decode cX7_told 108 = .ok (.goto 25, 3) := by decide +kernel
theorem dX7_told_111 : decode cX7_told 111 = .ok (.aload_n 0, 1) := by decide +kernel
theorem dX7_told_112 : decode cX7_told 112 = .ok (.iload 4, 2) := by decide +kernel
theorem dX7_told_114 : decode cX7_told 114 = .ok (.iconst 3, 1) := by decide +kernel
theorem dX7_told_115 : decode cX7_told 115 = .ok (.invokevirtual 182, 3) := by decide +kernel
theorem dX7_told_118 : decode cX7_told 118 = .ok (.aload_n 0, 1) := by decide +kernel
theorem dX7_told_119 : decode cX7_told 119 = .ok (.getfield 62, 3) := by decide +kernel
theorem dX7_told_122 : decode cX7_told 122 = .ok (.iload 4, 2) := by decide +kernel
theorem dX7_told_124 : decode cX7_told 124 = .ok (.iaload, 1) := by decide +kernel
theorem dX7_told_125 : decode cX7_told 125 = .ok (.if_icmp .ge 7, 3) := by decide +kernel
theorem dX7_told_128 : decode cX7_told 128 = .ok (.iconst 1, 1) := by decide +kernel
theorem dX7_told_129 : decode cX7_told 129 = .ok (.goto 4, 3) := by decide +kernel
theorem dX7_told_132 : decode cX7_told 132 = .ok (.iconst 0, 1) := by decide +kernel
theorem dX7_told_133 : decode cX7_told 133 = .ok (.istore 5, 2) := by decide +kernel
theorem dX7_told_135 : decode cX7_told 135 = .ok (.iload_n 3, 1) := by decide +kernel
theorem dX7_told_136 : decode cX7_told 136 = .ok (.iload 5, 2) := by decide +kernel
theorem dX7_told_138 : decode cX7_told 138 = .ok (.invokestatic 224, 3) := by decide +kernel
theorem dX7_told_141 : decode cX7_told 141 = .ok (.iload 4, 2) := by decide +kernel
theorem dX7_told_143 : decode cX7_told 143 = .ok (.ishl, 1) := by decide +kernel
theorem dX7_told_144 : decode cX7_told 144 = .ok (.ior, 1) := by decide +kernel
theorem dX7_told_145 : decode cX7_told 145 = .ok (.istore_n 3, 1) := by decide +kernel
theorem dX7_told_146 : decode cX7_told 146 = .ok (.iinc 4 1, 3) := by decide +kernel
theorem dX7_told_149 : decode cX7_told 149 = .ok (.goto (-76), 3) := by decide +kernel
theorem dX7_told_152 : decode cX7_told 152 = .ok (.iload_n 3, 1) := by decide +kernel
theorem dX7_told_153 : decode cX7_told 153 = .ok (.ireturn, 1) := by decide +kernel
set_option maxRecDepth 20000 in
theorem ggX7_whisper_X7_isPart : GoodIn wsX7_whisper wsX7_isPart := goodIn_r _ [5, 6, 7, 4, 8] (by decide +kernel) (by decide +kernel)
set_option maxRecDepth 20000 in
theorem gX7_whisper_X7_isPart : GoodIn wsX7_whisper (va_wsS RX7 234 yX7_isPart wsX7_isPart) := goodIn_app (goodIn_of _ (by decide +kernel)) ggX7_whisper_X7_isPart
set_option maxRecDepth 20000 in
theorem ggX7_whisper_X7_brazenAsNow : GoodIn wsX7_whisper wsX7_brazenAsNow := goodIn_r _ [12, 13, 14, 15, 4, 16, 17, 18, 19, 20, 21, 22, 23, 24, 25, 26, 27, 28, 29, 30, 31, 32, 33, 34, 35, 36, 37, 38, 39, 40, 1, 41, 42, 43, 44, 45, 46, 47, 48, 49, 50, 51, 52, 53, 54, 55, 56, 57, 58, 59, 60, 61, 62, 63, 64, 65, 66, 74, 75, 76, 77, 78, 79, 80, 81, 82, 83, 84, 85, 86, 87, 88, 89, 90, 91, 92, 93, 94, 95, 96, 97, 98, 99, 100, 101, 102, 103, 104, 105, 106, 107, 108, 109, 110, 111, 112] (by decide +kernel) (by decide +kernel)
set_option maxRecDepth 20000 in
theorem gX7_whisper_X7_brazenAsNow : GoodIn wsX7_whisper (wsV RX7 270 RX7 yX7_brazenAsNow wsX7_brazenAsNow) := goodIn_app (goodIn_of _ (by decide +kernel)) ggX7_whisper_X7_brazenAsNow
set_option maxRecDepth 20000 in
theorem ggX7_whisper_X7_starts : GoodIn wsX7_whisper wsX7_starts := goodIn_r _ [16, 17, 18, 74, 75, 76, 77, 78, 79, 80, 81, 82, 83, 84, 85, 86, 87, 88, 89, 90, 91, 92, 93, 94, 95, 96, 97, 98, 99, 100, 101, 102, 103, 104, 105, 106, 107, 108, 109, 110, 111, 112] (by decide +kernel) (by decide +kernel)
set_option maxRecDepth 20000 in
theorem gX7_whisper_X7_starts : GoodIn wsX7_whisper (wsV RX7 217 RX7 yX7_starts wsX7_starts) := goodIn_app (goodIn_of _ (by decide +kernel)) ggX7_whisper_X7_starts
set_option maxRecDepth 20000 in
theorem ggX7_whisper_X7_rumoured : GoodIn wsX7_whisper wsX7_rumoured := goodIn_r _ [70, 36, 38, 37, 17, 71, 72, 4, 73, 74, 75, 76, 77, 78, 79, 80, 81, 82, 83, 84, 85, 86, 87, 88, 89, 90, 91, 92, 93, 94, 95, 96, 97, 98, 99, 100, 101, 102, 103, 104, 105, 106, 107, 108, 109, 110, 111, 112] (by decide +kernel) (by decide +kernel)
set_option maxRecDepth 20000 in
theorem gX7_whisper_X7_rumoured : GoodIn wsX7_whisper (wsV RX7 228 RX7 yX7_rumoured wsX7_rumoured) := goodIn_app (goodIn_of _ (by decide +kernel)) ggX7_whisper_X7_rumoured
set_option maxRecDepth 20000 in
theorem ggX7_whisper_X7_weeksLeft : GoodIn wsX7_whisper wsX7_weeksLeft := goodIn_r _ [22, 18, 74, 75, 76, 77, 78, 79, 80, 81, 82, 83, 84, 85, 86, 87, 88, 89, 90, 91, 92, 93, 94, 95, 96, 97, 98, 99, 100, 101, 102, 103, 104, 105, 106, 107, 108, 109, 110, 111, 112] (by decide +kernel) (by decide +kernel)
set_option maxRecDepth 20000 in
theorem gX7_whisper_X7_weeksLeft : GoodIn wsX7_whisper (wsV RX7 253 RX7 yX7_weeksLeft wsX7_weeksLeft) := goodIn_app (goodIn_of _ (by decide +kernel)) ggX7_whisper_X7_weeksLeft
set_option maxRecDepth 20000 in
theorem ggX7_whisper_X7_brazenIn : GoodIn wsX7_whisper wsX7_brazenIn := goodIn_r _ [26, 27, 28, 29, 4, 30, 31, 32, 33, 34, 17, 35, 36, 37, 38, 39, 40, 1, 41, 42, 43, 44, 45, 46, 47, 48, 49, 50, 51, 52, 53, 54, 55, 56, 57, 58, 59, 60, 61, 62, 63, 64, 65, 66, 18, 74, 75, 76, 77, 78, 79, 80, 81, 82, 83, 84, 85, 86, 87, 88, 89, 90, 91, 92, 93, 94, 95, 96, 97, 98, 99, 100, 101, 102, 103, 104, 105, 106, 107, 108, 109, 110, 111, 112] (by decide +kernel) (by decide +kernel)
set_option maxRecDepth 20000 in
theorem gX7_whisper_X7_brazenIn : GoodIn wsX7_whisper (wsV RX7 244 RX7 yX7_brazenIn wsX7_brazenIn) := goodIn_app (goodIn_of _ (by decide +kernel)) ggX7_whisper_X7_brazenIn
theorem dX7_whisper_0 : decode cX7_whisper 0 = .ok (.iload_n 1, 1) := by decide +kernel
theorem dX7_whisper_1 : decode cX7_whisper 1 = .ok (.invokestatic 234, 3) := by decide +kernel
theorem dX7_whisper_4 : decode cX7_whisper 4 = .ok (.ifCond .ne 5, 3) := by decide +kernel
theorem dX7_whisper_7 : decode cX7_whisper 7 = .ok (.iconst (-1), 1) := by decide +kernel
theorem dX7_whisper_8 : decode cX7_whisper 8 = .ok (.ireturn, 1) := by decide +kernel
theorem dX7_whisper_9 : decode cX7_whisper 9 = .ok (.aload_n 0, 1) := by decide +kernel
theorem dX7_whisper_10 : decode cX7_whisper 10 = .ok (.invokevirtual 270, 3) := by decide +kernel
theorem dX7_whisper_13 : decode cX7_whisper 13 = .ok (.istore_n 2, 1) := by decide +kernel
theorem dX7_whisper_14 : decode cX7_whisper 14 = .ok (.bipush (-4), 2) := by decide +kernel
theorem dX7_whisper_16 : decode cX7_whisper 16 = .ok (.istore_n 3, 1) := by decide +kernel
theorem dX7_whisper_17 : decode cX7_whisper 17 = .ok (.iconst 0, 1) := by decide +kernel
theorem dX7_whisper_18 : decode cX7_whisper 18 = .ok (.istore 4, 2) := by decide +kernel
theorem dX7_whisper_20 : decode cX7_whisper 20 = .ok (.iload 4, 2) := by decide +kernel
theorem dX7_whisper_22 : decode cX7_whisper 22 = .ok (.aload_n 0, 1) := by decide +kernel
theorem dX7_whisper_23 : decode cX7_whisper 23 = .ok (.getfield 99, 3) := by decide +kernel
theorem dX7_whisper_26 : decode cX7_whisper 26 = .ok (.if_icmp .ge 56, 3) := by decide +kernel
theorem dX7_whisper_29 : decode cX7_whisper 29 = .ok (.aload_n 0, 1) := by decide +kernel
theorem dX7_whisper_30 : decode cX7_whisper 30 = .ok (.invokevirtual 217, 3) := by decide +kernel
theorem dX7_whisper_33 : decode cX7_whisper 33 = .ok (.aload_n 0, 1) := by decide +kernel
theorem dX7_whisper_34 : decode cX7_whisper 34 = .ok (.iload 4, 2) := by decide +kernel
theorem dX7_whisper_36 : decode cX7_whisper 36 = .ok (.invokevirtual 228, 3) := by decide +kernel
theorem dX7_whisper_39 : decode cX7_whisper 39 = .ok (.pop, 1) := by decide +kernel
theorem dX7_whisper_40 : decode cX7_whisper 40 = .ok (.aload_n 0, 1) := by decide +kernel
theorem dX7_whisper_41 : decode cX7_whisper 41 = .ok (.aload_n 0, 1) := by decide +kernel
theorem dX7_whisper_42 : decode cX7_whisper 42 = .ok (.invokevirtual 253, 3) := by decide +kernel
theorem dX7_whisper_45 : decode cX7_whisper 45 = .ok (.invokevirtual 244, 3) := by decide +kernel
theorem dX7_whisper_48 : decode cX7_whisper 48 = .ok (.istore 5, 2) := by decide +kernel
theorem dX7_whisper_50 : decode cX7_whisper 50 = .ok (.iload 5, 2) := by decide +kernel
theorem dX7_whisper_52 : decode cX7_whisper 52 = .ok (.iload_n 2, 1) := by decide +kernel
theorem dX7_whisper_53 : decode cX7_whisper 53 = .ok (.if_icmp .ge 8, 3) := by decide +kernel
theorem dX7_whisper_56 : decode cX7_whisper 56 = .ok (.iload 4, 2) := by decide +kernel
theorem dX7_whisper_58 : decode cX7_whisper 58 = .ok (.goto 4, 3) := by decide +kernel
theorem dX7_whisper_61 : decode cX7_whisper 61 = .ok (.iload_n 3, 1) := by decide +kernel
theorem dX7_whisper_62 : decode cX7_whisper 62 = .ok (.istore_n 3, 1) := by decide +kernel
theorem dX7_whisper_63 : decode cX7_whisper 63 = .ok (.iload 5, 2) := by decide +kernel
theorem dX7_whisper_65 : decode cX7_whisper 65 = .ok (.iload_n 2, 1) := by decide +kernel
theorem dX7_whisper_66 : decode cX7_whisper 66 = .ok (.if_icmp .ge 8, 3) := by decide +kernel
theorem dX7_whisper_69 : decode cX7_whisper 69 = .ok (.iload 5, 2) := by decide +kernel
theorem dX7_whisper_71 : decode cX7_whisper 71 = .ok (.goto 4, 3) := by decide +kernel
theorem dX7_whisper_74 : decode cX7_whisper 74 = .ok (.iload_n 2, 1) := by decide +kernel
theorem dX7_whisper_75 : decode cX7_whisper 75 = .ok (.istore_n 2, 1) := by decide +kernel
theorem dX7_whisper_76 : decode cX7_whisper 76 = .ok (.iinc 4 1, 3) := by decide +kernel
theorem dX7_whisper_79 : decode cX7_whisper 79 = .ok (.goto (-59), 3) := by decide +kernel
theorem dX7_whisper_82 : decode cX7_whisper 82 = .ok (.iload_n 3, 1) := by decide +kernel
theorem dX7_whisper_83 : decode cX7_whisper 83 = .ok (.bipush (-4), 2) := by decide +kernel
theorem dX7_whisper_85 : decode cX7_whisper 85 = .ok (.if_icmp .ne 8, 3) := by decide +kernel
theorem dX7_whisper_88 : decode cX7_whisper 88 = .ok (.bipush (-4), 2) := by decide +kernel
theorem dX7_whisper_90 : decode cX7_whisper 90 = .ok (.goto 12, 3) := by decide +kernel
theorem dX7_whisper_93 : decode cX7_whisper 93 = .ok (.iload_n 1, 1) := by decide +kernel
theorem dX7_whisper_94 : decode cX7_whisper 94 = .ok (.ifCond .ne 7, 3) := by decide +kernel
theorem dX7_whisper_97 : decode cX7_whisper 97 = .ok (.iload_n 3, 1) := by decide +kernel
theorem dX7_whisper_98 : decode cX7_whisper 98 = .ok (.goto 4, 3) := by decide +kernel
theorem dX7_whisper_101 : decode cX7_whisper 101 = .ok (.iload_n 2, 1) := by decide +kernel
theorem dX7_whisper_102 : decode cX7_whisper 102 = .ok (.ireturn, 1) := by decide +kernel
set_option maxRecDepth 20000 in
theorem ggX7_note_X7_isOne : GoodIn wsX7_note wsX7_isOne := goodIn_r _ [7, 8, 9, 10, 6, 11, 15, 16, 17, 18, 19, 20, 21, 22, 23, 24, 25, 26, 27, 28, 29, 30, 31, 32, 33, 34, 35, 36, 37, 38, 39, 40, 41, 42, 43, 44, 45, 46, 47, 48, 49, 50, 51, 52, 53] (by decide +kernel) (by decide +kernel)
set_option maxRecDepth 20000 in
theorem gX7_note_X7_isOne : GoodIn wsX7_note (wsV RX7 210 RX7 yX7_isOne wsX7_isOne) := goodIn_app (goodIn_of _ (by decide +kernel)) ggX7_note_X7_isOne
set_option maxRecDepth 20000 in
theorem ggX7_note_X7_in : GoodIn wsX7_note wsX7_in := goodIn_r _ [11] (by decide +kernel) (by decide +kernel)
set_option maxRecDepth 20000 in
theorem gX7_note_X7_in : GoodIn wsX7_note (va_wsS RX7 110 yX7_in wsX7_in) := goodIn_app (goodIn_of _ (by decide +kernel)) ggX7_note_X7_in
set_option maxRecDepth 20000 in
theorem ggX7_note_X7_flag : GoodIn wsX7_note wsX7_flag := goodIn_r _ [14] (by decide +kernel) (by decide +kernel)
set_option maxRecDepth 20000 in
theorem gX7_note_X7_flag : GoodIn wsX7_note (va_wsS RX7 224 yX7_flag wsX7_flag) := goodIn_app (goodIn_of _ (by decide +kernel)) ggX7_note_X7_flag
theorem dX7_note_0 : decode cX7_note 0 = .ok (.aload_n 0, 1) := by decide +kernel
theorem dX7_note_1 : decode cX7_note 1 = .ok (.iload_n 1, 1) := by decide +kernel
theorem dX7_note_2 : decode cX7_note 2 = .ok (.invokevirtual 210, 3) := by decide +kernel
theorem dX7_note_5 : decode cX7_note 5 = .ok (.ifCond .eq 15, 3) := by decide +kernel
theorem dX7_note_8 : decode cX7_note 8 = .ok (.iload_n 2, 1) := by decide +kernel
theorem dX7_note_9 : decode cX7_note 9 = .ok (.i2l, 1) := by decide +kernel
theorem dX7_note_10 : decode cX7_note 10 = .ok (.lconst 0, 1) := by decide +kernel
theorem dX7_note_11 : decode cX7_note 11 = .ok (.ldc2_w 237, 3) := by decide +kernel
theorem dX7_note_14 : decode cX7_note 14 = .ok (.invokestatic 110, 3) := by decide +kernel
theorem dX7_note_17 : decode cX7_note 17 = .ok (.ifCond .ne 5, 3) := by decide +kernel
theorem dX7_note_20 : decode cX7_note 20 = .ok (.iconst (-1), 1) := by decide +kernel
theorem dX7_note_21 : decode cX7_note 21 = .ok (.ireturn, 1) := by decide +kernel
theorem dX7_note_22 : decode cX7_note 22 = .ok (.iload_n 2, 1) := by decide +kernel
theorem dX7_note_23 : decode cX7_note 23 = .ok (.aload_n 0, 1) := by decide +kernel
theorem dX7_note_24 : decode cX7_note 24 = .ok (.getfield 7, 3) := by decide +kernel
theorem dX7_note_27 : decode cX7_note 27 = .ok (.bipush 25, 2) := by decide +kernel
theorem dX7_note_29 : decode cX7_note 29 = .ok (.iaload, 1) := by decide +kernel
theorem dX7_note_30 : decode cX7_note 30 = .ok (.if_icmp .ge 6, 3) := by decide +kernel
theorem dX7_note_33 : decode cX7_note 33 = .ok (.bipush (-2), 2) := by decide +kernel
theorem dX7_note_35 : decode cX7_note 35 = .ok (.ireturn, 1) := by decide +kernel
theorem dX7_note_36 : decode cX7_note 36 = .ok (.aload_n 0, 1) := by decide +kernel
theorem dX7_note_37 : decode cX7_note 37 = .ok (.getfield 7, 3) := by decide +kernel
theorem dX7_note_40 : decode cX7_note 40 = .ok (.bipush 26, 2) := by decide +kernel
theorem dX7_note_42 : decode cX7_note 42 = .ok (.iaload, 1) := by decide +kernel
theorem dX7_note_43 : decode cX7_note 43 = .ok (.bipush 6, 2) := by decide +kernel
theorem dX7_note_45 : decode cX7_note 45 = .ok (.if_icmp .ne 6, 3) := by decide +kernel
theorem dX7_note_48 : decode cX7_note 48 = .ok (.bipush (-3), 2) := by decide +kernel
theorem dX7_note_50 : decode cX7_note 50 = .ok (.ireturn, 1) := by decide +kernel
theorem dX7_note_51 : decode cX7_note 51 = .ok (.bipush 27, 2) := by decide +kernel
theorem dX7_note_53 : decode cX7_note 53 = .ok (.iconst 3, 1) := by decide +kernel
theorem dX7_note_54 : decode cX7_note 54 = .ok (.aload_n 0, 1) := by decide +kernel
theorem dX7_note_55 : decode cX7_note 55 = .ok (.getfield 7, 3) := by decide +kernel
theorem dX7_note_58 : decode cX7_note 58 = .ok (.bipush 26, 2) := by decide +kernel
theorem dX7_note_60 : decode cX7_note 60 = .ok (.iaload, 1) := by decide +kernel
theorem dX7_note_61 : decode cX7_note 61 = .ok (.imul, 1) := by decide +kernel
theorem dX7_note_62 : decode cX7_note 62 = .ok (.iadd, 1) := by decide +kernel
theorem dX7_note_63 : decode cX7_note 63 = .ok (.istore 4, 2) := by decide +kernel
theorem dX7_note_65 : decode cX7_note 65 = .ok (.aload_n 0, 1) := by decide +kernel
theorem dX7_note_66 : decode cX7_note 66 = .ok (.getfield 7, 3) := by decide +kernel
theorem dX7_note_69 : decode cX7_note 69 = .ok (.iload 4, 2) := by decide +kernel
theorem dX7_note_71 : decode cX7_note 71 = .ok (.iload_n 1, 1) := by decide +kernel
theorem dX7_note_72 : decode cX7_note 72 = .ok (.iastore, 1) := by decide +kernel
theorem dX7_note_73 : decode cX7_note 73 = .ok (.aload_n 0, 1) := by decide +kernel
theorem dX7_note_74 : decode cX7_note 74 = .ok (.getfield 7, 3) := by decide +kernel
theorem dX7_note_77 : decode cX7_note 77 = .ok (.iload 4, 2) := by decide +kernel
theorem dX7_note_79 : decode cX7_note 79 = .ok (.iconst 1, 1) := by decide +kernel
theorem dX7_note_80 : decode cX7_note 80 = .ok (.iadd, 1) := by decide +kernel
theorem dX7_note_81 : decode cX7_note 81 = .ok (.iload_n 2, 1) := by decide +kernel
theorem dX7_note_82 : decode cX7_note 82 = .ok (.iastore, 1) := by decide +kernel
theorem dX7_note_83 : decode cX7_note 83 = .ok (.aload_n 0, 1) := by decide +kernel
theorem dX7_note_84 : decode cX7_note 84 = .ok (.getfield 7, 3) := by decide +kernel
theorem dX7_note_87 : decode cX7_note 87 = .ok (.iload 4, 2) := by decide +kernel
theorem dX7_note_89 : decode cX7_note 89 = .ok (.iconst 2, 1) := by decide +kernel
theorem dX7_note_90 : decode cX7_note 90 = .ok (.iadd, 1) := by decide +kernel
theorem dX7_note_91 : decode cX7_note 91 = .ok (.iload_n 3, 1) := by decide +kernel
theorem dX7_note_92 : decode cX7_note 92 = .ok (.invokestatic 224, 3) := by decide +kernel
theorem dX7_note_95 : decode cX7_note 95 = .ok (.iastore, 1) := by decide +kernel
theorem dX7_note_96 : decode cX7_note 96 = .ok (.aload_n 0, 1) := by decide +kernel
theorem dX7_note_97 : decode cX7_note 97 = .ok (.getfield 7, 3) := by decide +kernel
theorem dX7_note_100 : decode cX7_note 100 = .ok (.bipush 26, 2) := by decide +kernel
theorem dX7_note_102 : decode cX7_note 102 = .ok (.dup2, 1) := by decide +kernel
theorem dX7_note_103 : decode cX7_note 103 = .ok (.iaload, 1) := by decide +kernel
theorem dX7_note_104 : decode cX7_note 104 = .ok (.iconst 1, 1) := by decide +kernel
theorem dX7_note_105 : decode cX7_note 105 = .ok (.iadd, 1) := by decide +kernel
theorem dX7_note_106 : decode cX7_note 106 = .ok (.iastore, 1) := by decide +kernel
theorem dX7_note_107 : decode cX7_note 107 = .ok (.aload_n 0, 1) := by decide +kernel
theorem dX7_note_108 : decode cX7_note 108 = .ok (.getfield 7, 3) := by decide +kernel
theorem dX7_note_111 : decode cX7_note 111 = .ok (.bipush 26, 2) := by decide +kernel
theorem dX7_note_113 : decode cX7_note 113 = .ok (.iaload, 1) := by decide +kernel
theorem dX7_note_114 : decode cX7_note 114 = .ok (.ireturn, 1) := by decide +kernel
set_option maxRecDepth 20000 in
theorem ggX7_forget_X7_in : GoodIn wsX7_forget wsX7_in := goodIn_r _ [5] (by decide +kernel) (by decide +kernel)
set_option maxRecDepth 20000 in
theorem gX7_forget_X7_in : GoodIn wsX7_forget (va_wsS RX7 110 yX7_in wsX7_in) := goodIn_app (goodIn_of _ (by decide +kernel)) ggX7_forget_X7_in
set_option maxRecDepth 20000 in
theorem ggX7_forget_X7_becomes : GoodIn wsX7_forget wsX7_becomes := goodIn_r _ [9, 1, 10, 11, 12, 13, 14, 15, 16, 17, 18, 19, 20, 21, 22, 23, 24, 25, 26, 27, 28, 29, 30, 31, 32, 33, 34, 35, 36, 37, 38, 39, 40, 41, 42, 43, 44, 45, 46, 47, 48] (by decide +kernel) (by decide +kernel)
set_option maxRecDepth 20000 in
theorem gX7_forget_X7_becomes : GoodIn wsX7_forget (wsV RX7 239 RX7 yX7_becomes wsX7_becomes) := goodIn_app (goodIn_of _ (by decide +kernel)) ggX7_forget_X7_becomes
theorem dX7_forget_0 : decode cX7_forget 0 = .ok (.iload_n 1, 1) := by decide +kernel
theorem dX7_forget_1 : decode cX7_forget 1 = .ok (.i2l, 1) := by decide +kernel
theorem dX7_forget_2 : decode cX7_forget 2 = .ok (.lconst 0, 1) := by decide +kernel
theorem dX7_forget_3 : decode cX7_forget 3 = .ok (.aload_n 0, 1) := by decide +kernel
theorem dX7_forget_4 : decode cX7_forget 4 = .ok (.getfield 7, 3) := by decide +kernel
theorem dX7_forget_7 : decode cX7_forget 7 = .ok (.bipush 26, 2) := by decide +kernel
theorem dX7_forget_9 : decode cX7_forget 9 = .ok (.iaload, 1) := by decide +kernel
theorem dX7_forget_10 : decode cX7_forget 10 = .ok (.i2l, 1) := by decide +kernel
theorem dX7_forget_11 : decode cX7_forget 11 = .ok (.invokestatic 110, 3) := by decide +kernel
theorem dX7_forget_14 : decode cX7_forget 14 = .ok (.ifCond .eq 13, 3) := by decide +kernel
theorem dX7_forget_17 : decode cX7_forget 17 = .ok (.aload_n 0, 1) := by decide +kernel
theorem dX7_forget_18 : decode cX7_forget 18 = .ok (.bipush 26, 2) := by decide +kernel
theorem dX7_forget_20 : decode cX7_forget 20 = .ok (.iload_n 1, 1) := by decide +kernel
theorem dX7_forget_21 : decode cX7_forget 21 = .ok (.invokevirtual 239, 3) := by decide +kernel
theorem dX7_forget_24 : decode cX7_forget 24 = .ok (.goto 4, 3) := by decide +kernel
theorem dX7_forget_27 : decode cX7_forget 27 = .ok (.iconst (-1), 1) := by decide +kernel
theorem dX7_forget_28 : decode cX7_forget 28 = .ok (.ireturn, 1) := by decide +kernel
set_option maxRecDepth 20000 in
theorem ggX7_fitsTo_X7_isPlan : GoodIn wsX7_fitsTo wsX7_isPlan := goodIn_r _ [8, 9, 10, 2, 53, 54, 55, 56, 57, 58, 59, 60, 61, 62, 63, 64, 65, 66, 67, 68, 69, 70, 71, 72, 73, 74, 75, 76, 77, 78, 79, 80, 81, 82, 83, 84, 85, 86, 87, 88, 89, 90, 91] (by decide +kernel) (by decide +kernel)
set_option maxRecDepth 20000 in
theorem gX7_fitsTo_X7_isPlan : GoodIn wsX7_fitsTo (wsV RX7 247 RX7 yX7_isPlan wsX7_isPlan) := goodIn_app (goodIn_of _ (by decide +kernel)) ggX7_fitsTo_X7_isPlan
set_option maxRecDepth 20000 in
theorem ggX7_fitsTo_X7_startsBy : GoodIn wsX7_fitsTo wsX7_startsBy := goodIn_r _ [14, 1, 15, 16, 17, 7, 18, 2, 53, 54, 55, 56, 57, 58, 59, 60, 61, 62, 63, 64, 65, 66, 67, 68, 69, 70, 71, 72, 73, 74, 75, 76, 77, 78, 79, 80, 81, 82, 83, 84, 85, 86, 87, 88, 89, 90, 91] (by decide +kernel) (by decide +kernel)
set_option maxRecDepth 20000 in
theorem gX7_fitsTo_X7_startsBy : GoodIn wsX7_fitsTo (wsV RX7 250 RX7 yX7_startsBy wsX7_startsBy) := goodIn_app (goodIn_of _ (by decide +kernel)) ggX7_fitsTo_X7_startsBy
set_option maxRecDepth 20000 in
theorem ggX7_fitsTo_X7_weeksLeft : GoodIn wsX7_fitsTo wsX7_weeksLeft := goodIn_r _ [22, 2, 53, 54, 55, 56, 57, 58, 59, 60, 61, 62, 63, 64, 65, 66, 67, 68, 69, 70, 71, 72, 73, 74, 75, 76, 77, 78, 79, 80, 81, 82, 83, 84, 85, 86, 87, 88, 89, 90, 91] (by decide +kernel) (by decide +kernel)
set_option maxRecDepth 20000 in
theorem gX7_fitsTo_X7_weeksLeft : GoodIn wsX7_fitsTo (wsV RX7 253 RX7 yX7_weeksLeft wsX7_weeksLeft) := goodIn_app (goodIn_of _ (by decide +kernel)) ggX7_fitsTo_X7_weeksLeft
set_option maxRecDepth 20000 in
theorem ggX7_fitsTo_X7_weekGoes : GoodIn wsX7_fitsTo wsX7_weekGoes := goodIn_r _ [26, 1, 3, 9, 10, 27, 28, 29, 30, 31, 32, 33, 7, 34, 35, 36, 37, 38, 39, 40, 41, 42, 43, 44, 45, 46, 47, 48, 49, 50, 51, 52, 53, 54, 55, 56, 57, 58, 59, 60, 61, 62, 63, 64, 65, 66, 67, 68, 69, 70, 71, 72, 73, 74, 75, 76, 77, 78, 79, 80, 81, 82, 83, 84, 85, 86, 87, 88, 89, 90, 91] (by decide +kernel) (by decide +kernel)
set_option maxRecDepth 20000 in
theorem gX7_fitsTo_X7_weekGoes : GoodIn wsX7_fitsTo (wsV RX7 201 RX7 yX7_weekGoes wsX7_weekGoes) := goodIn_app (goodIn_of _ (by decide +kernel)) ggX7_fitsTo_X7_weekGoes
theorem dX7_fitsTo_0 : decode cX7_fitsTo 0 = .ok (.aload_n 0, 1) := by decide +kernel
theorem dX7_fitsTo_1 : decode cX7_fitsTo 1 = .ok (.iload_n 1, 1) := by decide +kernel
theorem dX7_fitsTo_2 : decode cX7_fitsTo 2 = .ok (.invokevirtual 247, 3) := by decide +kernel
theorem dX7_fitsTo_5 : decode cX7_fitsTo 5 = .ok (.istore_n 2, 1) := by decide +kernel
theorem dX7_fitsTo_6 : decode cX7_fitsTo 6 = .ok (.aload_n 0, 1) := by decide +kernel
theorem dX7_fitsTo_7 : decode cX7_fitsTo 7 = .ok (.iload_n 1, 1) := by decide +kernel
theorem dX7_fitsTo_8 : decode cX7_fitsTo 8 = .ok (.invokevirtual 250, 3) := by decide +kernel
theorem dX7_fitsTo_11 : decode cX7_fitsTo 11 = .ok (.iconst 0, 1) := by decide +kernel
theorem dX7_fitsTo_12 : decode cX7_fitsTo 12 = .ok (.istore_n 3, 1) := by decide +kernel
theorem dX7_fitsTo_13 : decode cX7_fitsTo 13 = .ok (.iload_n 3, 1) := by decide +kernel
theorem dX7_fitsTo_14 : decode cX7_fitsTo 14 = .ok (.aload_n 0, 1) := by decide +kernel
theorem dX7_fitsTo_15 : decode cX7_fitsTo 15 = .ok (.invokevirtual 253, 3) := by decide +kernel
theorem dX7_fitsTo_18 : decode cX7_fitsTo 18 = .ok (.if_icmp .ge 106, 3) := by decide +kernel
theorem dX7_fitsTo_21 : decode cX7_fitsTo 21 = .ok (.iload_n 2, 1) := by decide +kernel
theorem dX7_fitsTo_22 : decode cX7_fitsTo 22 = .ok (.ifCond .eq 102, 3) := by decide +kernel
theorem dX7_fitsTo_25 : decode cX7_fitsTo 25 = .ok (.aload_n 0, 1) := by decide +kernel
theorem dX7_fitsTo_26 : decode cX7_fitsTo 26 = .ok (.getfield 13, 3) := by decide +kernel
theorem dX7_fitsTo_29 : decode cX7_fitsTo 29 = .ok (.bipush 25, 2) := by decide +kernel
theorem dX7_fitsTo_31 : decode cX7_fitsTo 31 = .ok (.iaload, 1) := by decide +kernel
theorem dX7_fitsTo_32 : decode cX7_fitsTo 32 = .ok (.istore 4, 2) := by decide +kernel
theorem dX7_fitsTo_34 : decode cX7_fitsTo 34 = .ok (.aload_n 0, 1) := by decide +kernel
theorem dX7_fitsTo_35 : decode cX7_fitsTo 35 = .ok (.invokevirtual 201, 3) := by decide +kernel
theorem dX7_fitsTo_38 : decode cX7_fitsTo 38 = .ok (.iconst 0, 1) := by decide +kernel
theorem dX7_fitsTo_39 : decode cX7_fitsTo 39 = .ok (.istore 5, 2) := by decide +kernel
theorem dX7_fitsTo_41 : decode cX7_fitsTo 41 = .ok (.iload 5, 2) := by decide +kernel
theorem dX7_fitsTo_43 : decode cX7_fitsTo 43 = .ok (.aload_n 0, 1) := by decide +kernel
theorem dX7_fitsTo_44 : decode cX7_fitsTo 44 = .ok (.getfield 7, 3) := by decide +kernel
theorem dX7_fitsTo_47 : decode cX7_fitsTo 47 = .ok (.bipush 26, 2) := by decide +kernel
theorem dX7_fitsTo_49 : decode cX7_fitsTo 49 = .ok (.iaload, 1) := by decide +kernel
theorem dX7_fitsTo_50 : decode cX7_fitsTo 50 = .ok (.if_icmp .ge 68, 3) := by decide +kernel
theorem dX7_fitsTo_53 : decode cX7_fitsTo 53 = .ok (.bipush 27, 2) := by decide +kernel
theorem dX7_fitsTo_55 : decode cX7_fitsTo 55 = .ok (.iconst 3, 1) := by decide +kernel
theorem dX7_fitsTo_56 : decode cX7_fitsTo 56 = .ok (.iload 5, 2) := by decide +kernel
theorem dX7_fitsTo_58 : decode cX7_fitsTo 58 = .ok (.imul, 1) := by decide +kernel
theorem dX7_fitsTo_59 : decode cX7_fitsTo 59 = .ok (.iadd, 1) := by decide +kernel
theorem dX7_fitsTo_60 : decode cX7_fitsTo 60 = .ok (.istore 6, 2) := by decide +kernel
theorem dX7_fitsTo_62 : decode cX7_fitsTo 62 = .ok (.iload_n 2, 1) := by decide +kernel
theorem dX7_fitsTo_63 : decode cX7_fitsTo 63 = .ok (.ifCond .eq 47, 3) := by decide +kernel
theorem dX7_fitsTo_66 : decode cX7_fitsTo 66 = .ok (.aload_n 0, 1) := by decide +kernel
theorem dX7_fitsTo_67 : decode cX7_fitsTo 67 = .ok (.getfield 7, 3) := by decide +kernel
theorem dX7_fitsTo_70 : decode cX7_fitsTo 70 = .ok (.iload 6, 2) := by decide +kernel
theorem dX7_fitsTo_72 : decode cX7_fitsTo 72 = .ok (.iconst 1, 1) := by decide +kernel
theorem dX7_fitsTo_73 : decode cX7_fitsTo 73 = .ok (.iadd, 1) := by decide +kernel
theorem dX7_fitsTo_74 : decode cX7_fitsTo 74 = .ok (.iaload, 1) := by decide +kernel
theorem dX7_fitsTo_75 : decode cX7_fitsTo 75 = .ok (.iload 4, 2) := by decide +kernel
theorem dX7_fitsTo_77 : decode cX7_fitsTo 77 = .ok (.if_icmp .ne 29, 3) := by decide +kernel
theorem dX7_fitsTo_80 : decode cX7_fitsTo 80 = .ok (.aload_n 0, 1) := by decide +kernel
theorem dX7_fitsTo_81 : decode cX7_fitsTo 81 = .ok (.getfield 192, 3) := by decide +kernel
theorem dX7_fitsTo_84 : decode cX7_fitsTo 84 = .ok (.aload_n 0, 1) := by decide +kernel
theorem dX7_fitsTo_85 : decode cX7_fitsTo 85 = .ok (.getfield 7, 3) := by decide +kernel
theorem dX7_fitsTo_88 : decode cX7_fitsTo 88 = .ok (.iload 6, 2) := by decide +kernel
theorem dX7_fitsTo_90 : decode cX7_fitsTo 90 = .ok (.iaload, 1) := by decide +kernel
theorem dX7_fitsTo_91 : decode cX7_fitsTo 91 = .ok (.ishr, 1) := by decide +kernel
theorem dX7_fitsTo_92 : decode cX7_fitsTo 92 = .ok (.iconst 1, 1) := by decide +kernel
theorem dX7_fitsTo_93 : decode cX7_fitsTo 93 = .ok (.iand, 1) := by decide +kernel
theorem dX7_fitsTo_94 : decode cX7_fitsTo 94 = .ok (.aload_n 0, 1) := by decide +kernel
theorem dX7_fitsTo_95 : decode cX7_fitsTo 95 = .ok (.getfield 7, 3) := by decide +kernel
theorem dX7_fitsTo_98 : decode cX7_fitsTo 98 = .ok (.iload 6, 2) := by decide +kernel
theorem dX7_fitsTo_100 : decode cX7_fitsTo 100 = .ok (.iconst 2, 1) := by decide +kernel
theorem dX7_fitsTo_101 : decode cX7_fitsTo 101 = .ok (.iadd, 1) := by decide +kernel
theorem dX7_fitsTo_102 : decode cX7_fitsTo 102 = .ok (.iaload, 1) := by decide +kernel
theorem dX7_fitsTo_103 : decode cX7_fitsTo 103 = .ok (.if_icmp .ne 7, 3) := by decide +kernel
theorem dX7_fitsTo_106 : decode cX7_fitsTo 106 = .ok (.iconst 1, 1) := by decide +kernel
theorem dX7_fitsTo_107 : decode cX7_fitsTo 107 = .ok (.goto 4, 3) := by decide +kernel
theorem dX7_fitsTo_110 : decode cX7_fitsTo 110 = .ok (.iconst 0, 1) := by decide +kernel
theorem dX7_fitsTo_111 : decode cX7_fitsTo 111 = .ok (.istore_n 2, 1) := by decide +kernel
theorem dX7_fitsTo_112 : decode cX7_fitsTo 112 = .ok (.iinc 5 1, 3) := by decide +kernel
theorem dX7_fitsTo_115 : decode cX7_fitsTo 115 = .ok (.goto (-74), 3) := by decide +kernel
theorem dX7_fitsTo_118 : decode cX7_fitsTo 118 = .ok (.iinc 3 1, 3) := by decide +kernel
theorem dX7_fitsTo_121 : decode cX7_fitsTo 121 = .ok (.goto (-108), 3) := by decide +kernel
theorem dX7_fitsTo_124 : decode cX7_fitsTo 124 = .ok (.iload_n 2, 1) := by decide +kernel
theorem dX7_fitsTo_125 : decode cX7_fitsTo 125 = .ok (.ireturn, 1) := by decide +kernel
set_option maxRecDepth 20000 in
theorem ggX7_fits_X7_in : GoodIn wsX7_fits wsX7_in := goodIn_r _ [6] (by decide +kernel) (by decide +kernel)
set_option maxRecDepth 20000 in
theorem gX7_fits_X7_in : GoodIn wsX7_fits (va_wsS RX7 110 yX7_in wsX7_in) := goodIn_app (goodIn_of _ (by decide +kernel)) ggX7_fits_X7_in
set_option maxRecDepth 20000 in
theorem ggX7_fits_X7_fitsTo : GoodIn wsX7_fits wsX7_fitsTo := goodIn_r _ [10, 11, 12, 13, 14, 15, 16, 5, 17, 2, 18, 19, 20, 21, 22, 23, 24, 25, 26, 27, 28, 29, 30, 31, 32, 33, 34, 35, 36, 37, 38, 39, 40, 41, 42, 43, 44, 45, 46, 47, 48, 49, 50, 51, 52, 53, 54, 55, 56, 57, 58, 59, 60, 61, 62, 63, 64, 65, 66, 67, 68, 69, 70, 71, 72, 73, 74, 75, 76, 77, 78, 79, 80, 81, 82, 83, 84, 85, 86, 87, 88, 89, 90, 91, 92, 93, 94, 95, 96, 97, 98, 99] (by decide +kernel) (by decide +kernel)
set_option maxRecDepth 20000 in
theorem gX7_fits_X7_fitsTo : GoodIn wsX7_fits (wsV RX7 273 RX7 yX7_fitsTo wsX7_fitsTo) := goodIn_app (goodIn_of _ (by decide +kernel)) ggX7_fits_X7_fitsTo
theorem dX7_fits_0 : decode cX7_fits 0 = .ok (.iload_n 1, 1) := by decide +kernel
theorem dX7_fits_1 : decode cX7_fits 1 = .ok (.i2l, 1) := by decide +kernel
theorem dX7_fits_2 : decode cX7_fits 2 = .ok (.lconst 0, 1) := by decide +kernel
theorem dX7_fits_3 : decode cX7_fits 3 = .ok (.ldc2_w 173, 3) := by decide +kernel
theorem dX7_fits_6 : decode cX7_fits 6 = .ok (.invokestatic 110, 3) := by decide +kernel
theorem dX7_fits_9 : decode cX7_fits 9 = .ok (.ifCond .ne 5, 3) := by decide +kernel
theorem dX7_fits_12 : decode cX7_fits 12 = .ok (.iconst (-1), 1) := by decide +kernel
theorem dX7_fits_13 : decode cX7_fits 13 = .ok (.ireturn, 1) := by decide +kernel
theorem dX7_fits_14 : decode cX7_fits 14 = .ok (.iconst 1, 1) := by decide +kernel
theorem dX7_fits_15 : decode cX7_fits 15 = .ok (.aload_n 0, 1) := by decide +kernel
theorem dX7_fits_16 : decode cX7_fits 16 = .ok (.getfield 102, 3) := by decide +kernel
theorem dX7_fits_19 : decode cX7_fits 19 = .ok (.ishl, 1) := by decide +kernel
theorem dX7_fits_20 : decode cX7_fits 20 = .ok (.iconst 1, 1) := by decide +kernel
theorem dX7_fits_21 : decode cX7_fits 21 = .ok (.isub, 1) := by decide +kernel
theorem dX7_fits_22 : decode cX7_fits 22 = .ok (.istore_n 2, 1) := by decide +kernel
theorem dX7_fits_23 : decode cX7_fits 23 = .ok (.iconst 0, 1) := by decide +kernel
theorem dX7_fits_24 : decode cX7_fits 24 = .ok (.istore_n 3, 1) := by decide +kernel
theorem dX7_fits_25 : decode cX7_fits 25 = .ok (.bipush (-4), 2) := by decide +kernel
theorem dX7_fits_27 : decode cX7_fits 27 = .ok (.istore 4, 2) := by decide +kernel
theorem dX7_fits_29 : decode cX7_fits 29 = .ok (.iload_n 2, 1) := by decide +kernel
theorem dX7_fits_30 : decode cX7_fits 30 = .ok (.istore 5, 2) := by decide +kernel
theorem dX7_fits_32 : decode cX7_fits 32 = .ok (.iconst 0, 1) := by decide +kernel
theorem dX7_fits_33 : decode cX7_fits 33 = .ok (.istore 6, 2) := by decide +kernel
theorem dX7_fits_35 : decode cX7_fits 35 = .ok (.iconst 0, 1) := by decide +kernel
theorem dX7_fits_36 : decode cX7_fits 36 = .ok (.istore 7, 2) := by decide +kernel
theorem dX7_fits_38 : decode cX7_fits 38 = .ok (.iload 7, 2) := by decide +kernel
theorem dX7_fits_40 : decode cX7_fits 40 = .ok (.iload_n 2, 1) := by decide +kernel
theorem dX7_fits_41 : decode cX7_fits 41 = .ok (.if_icmp .gt 48, 3) := by decide +kernel
theorem dX7_fits_44 : decode cX7_fits 44 = .ok (.aload_n 0, 1) := by decide +kernel
theorem dX7_fits_45 : decode cX7_fits 45 = .ok (.iload 7, 2) := by decide +kernel
theorem dX7_fits_47 : decode cX7_fits 47 = .ok (.invokevirtual 273, 3) := by decide +kernel
theorem dX7_fits_50 : decode cX7_fits 50 = .ok (.ifCond .eq 33, 3) := by decide +kernel
theorem dX7_fits_53 : decode cX7_fits 53 = .ok (.iload_n 3, 1) := by decide +kernel
theorem dX7_fits_54 : decode cX7_fits 54 = .ok (.ifCond .ne 8, 3) := by decide +kernel
theorem dX7_fits_57 : decode cX7_fits 57 = .ok (.iload 7, 2) := by decide +kernel
theorem dX7_fits_59 : decode cX7_fits 59 = .ok (.goto 5, 3) := by decide +kernel
theorem dX7_fits_62 : decode cX7_fits 62 = .ok (.iload 4, 2) := by decide +kernel
theorem dX7_fits_64 : decode cX7_fits 64 = .ok (.istore 4, 2) := by decide +kernel
theorem dX7_fits_66 : decode cX7_fits 66 = .ok (.iload 5, 2) := by decide +kernel
theorem dX7_fits_68 : decode cX7_fits 68 = .ok (.iload 7, 2) := by decide +kernel
theorem dX7_fits_70 : decode cX7_fits 70 = .ok (.iand, 1) := by decide +kernel
theorem dX7_fits_71 : decode cX7_fits 71 = .ok (.istore 5, 2) := by decide +kernel
theorem dX7_fits_73 : decode cX7_fits 73 = .ok (.iload 6, 2) := by decide +kernel
theorem dX7_fits_75 : decode cX7_fits 75 = .ok (.iload 7, 2) := by decide +kernel
theorem dX7_fits_77 : decode cX7_fits 77 = .ok (.ior, 1) := by decide +kernel
theorem dX7_fits_78 : decode cX7_fits 78 = .ok (.istore 6, 2) := by decide +kernel
theorem dX7_fits_80 : decode cX7_fits 80 = .ok (.iinc 3 1, 3) := by decide +kernel
theorem dX7_fits_83 : decode cX7_fits 83 = .ok (.iinc 7 1, 3) := by decide +kernel
theorem dX7_fits_86 : decode cX7_fits 86 = .ok (.goto (-48), 3) := by decide +kernel
theorem dX7_fits_89 : decode cX7_fits 89 = .ok (.iload_n 1, 1) := by decide +kernel
theorem dX7_fits_90 : decode cX7_fits 90 = .ok (.ifCond .eq 7, 3) := by decide +kernel
theorem dX7_fits_93 : decode cX7_fits 93 = .ok (.iload_n 3, 1) := by decide +kernel
theorem dX7_fits_94 : decode cX7_fits 94 = .ok (.ifCond .ne 14, 3) := by decide +kernel
theorem dX7_fits_97 : decode cX7_fits 97 = .ok (.iload_n 1, 1) := by decide +kernel
theorem dX7_fits_98 : decode cX7_fits 98 = .ok (.ifCond .ne 7, 3) := by decide +kernel
theorem dX7_fits_101 : decode cX7_fits 101 = .ok (.iload_n 3, 1) := by decide +kernel
theorem dX7_fits_102 : decode cX7_fits 102 = .ok (.goto 5, 3) := by decide +kernel
theorem dX7_fits_105 : decode cX7_fits 105 = .ok (.bipush (-4), 2) := by decide +kernel
theorem dX7_fits_107 : decode cX7_fits 107 = .ok (.ireturn, 1) := by decide +kernel
theorem dX7_fits_108 : decode cX7_fits 108 = .ok (.iload_n 1, 1) := by decide +kernel
theorem dX7_fits_109 : decode cX7_fits 109 = .ok (.iconst 1, 1) := by decide +kernel
theorem dX7_fits_110 : decode cX7_fits 110 = .ok (.if_icmp .ne 8, 3) := by decide +kernel
theorem dX7_fits_113 : decode cX7_fits 113 = .ok (.iload 4, 2) := by decide +kernel
theorem dX7_fits_115 : decode cX7_fits 115 = .ok (.goto 19, 3) := by decide +kernel
theorem dX7_fits_118 : decode cX7_fits 118 = .ok (.iload_n 1, 1) := by decide +kernel
theorem dX7_fits_119 : decode cX7_fits 119 = .ok (.iconst 2, 1) := by decide +kernel
theorem dX7_fits_120 : decode cX7_fits 120 = .ok (.if_icmp .ne 8, 3) := by decide +kernel
theorem dX7_fits_123 : decode cX7_fits 123 = .ok (.iload 5, 2) := by decide +kernel
theorem dX7_fits_125 : decode cX7_fits 125 = .ok (.goto 9, 3) := by decide +kernel
theorem dX7_fits_128 : decode cX7_fits 128 = .ok (.iload_n 2, 1) := by decide +kernel
theorem dX7_fits_129 : decode cX7_fits 129 = .ok (.iload 6, 2) := by decide +kernel
theorem dX7_fits_131 : decode cX7_fits 131 = .ok (.iconst (-1), 1) := by decide +kernel
theorem dX7_fits_132 : decode cX7_fits 132 = .ok (.ixor, 1) := by decide +kernel
theorem dX7_fits_133 : decode cX7_fits 133 = .ok (.iand, 1) := by decide +kernel
theorem dX7_fits_134 : decode cX7_fits 134 = .ok (.ireturn, 1) := by decide +kernel
set_option maxRecDepth 20000 in
theorem ggX7_drift_X7_in : GoodIn wsX7_drift wsX7_in := goodIn_r _ [8] (by decide +kernel) (by decide +kernel)
set_option maxRecDepth 20000 in
theorem gX7_drift_X7_in : GoodIn wsX7_drift (va_wsS RX7 110 yX7_in wsX7_in) := goodIn_app (goodIn_of _ (by decide +kernel)) ggX7_drift_X7_in
set_option maxRecDepth 20000 in
theorem ggX7_drift_X7_isPart : GoodIn wsX7_drift wsX7_isPart := goodIn_r _ [11, 5, 6, 7, 8] (by decide +kernel) (by decide +kernel)
set_option maxRecDepth 20000 in
theorem gX7_drift_X7_isPart : GoodIn wsX7_drift (va_wsS RX7 234 yX7_isPart wsX7_isPart) := goodIn_app (goodIn_of _ (by decide +kernel)) ggX7_drift_X7_isPart
set_option maxRecDepth 20000 in
theorem ggX7_drift_X7_starts : GoodIn wsX7_drift wsX7_starts := goodIn_r _ [15, 4, 16, 57, 58, 59, 60, 61, 62, 63, 64, 65, 66, 67, 68, 69, 70, 71, 72, 73, 74, 75, 76, 77, 78, 79, 80, 81, 82, 83, 84, 85, 86, 87, 88, 89, 90, 91, 92, 93, 94, 95] (by decide +kernel) (by decide +kernel)
set_option maxRecDepth 20000 in
theorem gX7_drift_X7_starts : GoodIn wsX7_drift (wsV RX7 217 RX7 yX7_starts wsX7_starts) := goodIn_app (goodIn_of _ (by decide +kernel)) ggX7_drift_X7_starts
set_option maxRecDepth 20000 in
theorem ggX7_drift_X7_of : GoodIn wsX7_drift wsX7_of := goodIn_r _ [20, 4, 57, 58, 59, 60, 61, 62, 63, 64, 65, 66, 67, 68, 69, 70, 71, 72, 73, 74, 75, 76, 77, 78, 79, 80, 81, 82, 83, 84, 85, 86, 87, 88, 89, 90, 91, 92, 93, 94, 95] (by decide +kernel) (by decide +kernel)
set_option maxRecDepth 20000 in
theorem gX7_drift_X7_of : GoodIn wsX7_drift (wsV RX7 182 RX7 yX7_of wsX7_of) := goodIn_app (goodIn_of _ (by decide +kernel)) ggX7_drift_X7_of
set_option maxRecDepth 20000 in
theorem ggX7_drift_X7_least : GoodIn wsX7_drift wsX7_least := goodIn_r _ [23] (by decide +kernel) (by decide +kernel)
set_option maxRecDepth 20000 in
theorem gX7_drift_X7_least : GoodIn wsX7_drift (va_wsS RX7 185 yX7_least wsX7_least) := goodIn_app (goodIn_of _ (by decide +kernel)) ggX7_drift_X7_least
set_option maxRecDepth 20000 in
theorem ggX7_drift_X7_weekGoes : GoodIn wsX7_drift wsX7_weekGoes := goodIn_r _ [27, 4, 28, 29, 30, 31, 32, 33, 2, 34, 35, 36, 7, 37, 38, 17, 18, 19, 20, 39, 40, 41, 42, 43, 44, 45, 46, 47, 48, 21, 22, 23, 57, 58, 59, 60, 61, 62, 63, 64, 65, 66, 67, 68, 69, 70, 71, 72, 73, 74, 75, 76, 77, 78, 79, 80, 81, 82, 83, 84, 85, 86, 87, 88, 89, 90, 91, 92, 93, 94, 95] (by decide +kernel) (by decide +kernel)
set_option maxRecDepth 20000 in
theorem gX7_drift_X7_weekGoes : GoodIn wsX7_drift (wsV RX7 201 RX7 yX7_weekGoes wsX7_weekGoes) := goodIn_app (goodIn_of _ (by decide +kernel)) ggX7_drift_X7_weekGoes
set_option maxRecDepth 20000 in
theorem ggX7_drift_X7_brazenMore : GoodIn wsX7_drift wsX7_brazenMore := goodIn_r _ [52, 2, 16, 17, 18, 19, 7, 20, 4, 57, 58, 59, 60, 61, 62, 63, 64, 65, 66, 67, 68, 69, 70, 71, 72, 73, 74, 75, 76, 77, 78, 79, 80, 81, 82, 83, 84, 85, 86, 87, 88, 89, 90, 91, 92, 93, 94, 95] (by decide +kernel) (by decide +kernel)
set_option maxRecDepth 20000 in
theorem gX7_drift_X7_brazenMore : GoodIn wsX7_drift (wsV RX7 207 RX7 yX7_brazenMore wsX7_brazenMore) := goodIn_app (goodIn_of _ (by decide +kernel)) ggX7_drift_X7_brazenMore
set_option maxRecDepth 20000 in
theorem ggX7_drift_X7_allOf : GoodIn wsX7_drift wsX7_allOf := goodIn_r _ [56, 2, 17, 18, 19, 7, 20, 4, 57, 58, 59, 60, 61, 62, 63, 64, 65, 66, 67, 68, 69, 70, 71, 72, 73, 74, 75, 76, 77, 78, 79, 80, 81, 82, 83, 84, 85, 86, 87, 88, 89, 90, 91, 92, 93, 94, 95] (by decide +kernel) (by decide +kernel)
set_option maxRecDepth 20000 in
theorem gX7_drift_X7_allOf : GoodIn wsX7_drift (wsV RX7 263 RX7 yX7_allOf wsX7_allOf) := goodIn_app (goodIn_of _ (by decide +kernel)) ggX7_drift_X7_allOf
theorem dX7_drift_0 : decode cX7_drift 0 = .ok (.iload_n 2, 1) := by decide +kernel
theorem dX7_drift_1 : decode cX7_drift 1 = .ok (.i2l, 1) := by decide +kernel
theorem dX7_drift_2 : decode cX7_drift 2 = .ok (.lconst 1, 1) := by decide +kernel
theorem dX7_drift_3 : decode cX7_drift 3 = .ok (.ldc2_w 242, 3) := by decide +kernel
theorem dX7_drift_6 : decode cX7_drift 6 = .ok (.invokestatic 110, 3) := by decide +kernel
theorem dX7_drift_9 : decode cX7_drift 9 = .ok (.ifCond .eq 10, 3) := by decide +kernel
theorem dX7_drift_12 : decode cX7_drift 12 = .ok (.iload_n 3, 1) := by decide +kernel
theorem dX7_drift_13 : decode cX7_drift 13 = .ok (.invokestatic 234, 3) := by decide +kernel
theorem dX7_drift_16 : decode cX7_drift 16 = .ok (.ifCond .ne 5, 3) := by decide +kernel
theorem dX7_drift_19 : decode cX7_drift 19 = .ok (.iconst (-1), 1) := by decide +kernel
theorem dX7_drift_20 : decode cX7_drift 20 = .ok (.ireturn, 1) := by decide +kernel
theorem dX7_drift_21 : decode cX7_drift 21 = .ok (.aload_n 0, 1) := by decide +kernel
theorem dX7_drift_22 : decode cX7_drift 22 = .ok (.getfield 99, 3) := by decide +kernel
theorem dX7_drift_25 : decode cX7_drift 25 = .ok (.ifCond .ne 6, 3) := by decide +kernel
theorem dX7_drift_28 : decode cX7_drift 28 = .ok (.bipush (-2), 2) := by decide +kernel
theorem dX7_drift_30 : decode cX7_drift 30 = .ok (.ireturn, 1) := by decide +kernel
theorem dX7_drift_31 : decode cX7_drift 31 = .ok (.iload_n 1, 1) := by decide +kernel
theorem dX7_drift_32 : decode cX7_drift 32 = .ok (.istore 4, 2) := by decide +kernel
theorem dX7_drift_34 : decode cX7_drift 34 = .ok (.aload_n 0, 1) := by decide +kernel
theorem dX7_drift_35 : decode cX7_drift 35 = .ok (.invokevirtual 217, 3) := by decide +kernel
theorem dX7_drift_38 : decode cX7_drift 38 = .ok (.iconst 0, 1) := by decide +kernel
theorem dX7_drift_39 : decode cX7_drift 39 = .ok (.istore 5, 2) := by decide +kernel
theorem dX7_drift_41 : decode cX7_drift 41 = .ok (.iload 5, 2) := by decide +kernel
theorem dX7_drift_43 : decode cX7_drift 43 = .ok (.iload_n 2, 1) := by decide +kernel
theorem dX7_drift_44 : decode cX7_drift 44 = .ok (.if_icmp .ge 76, 3) := by decide +kernel
theorem dX7_drift_47 : decode cX7_drift 47 = .ok (.iload 4, 2) := by decide +kernel
theorem dX7_drift_49 : decode cX7_drift 49 = .ok (.ldc_w 276, 3) := by decide +kernel
theorem dX7_drift_52 : decode cX7_drift 52 = .ok (.imul, 1) := by decide +kernel
theorem dX7_drift_53 : decode cX7_drift 53 = .ok (.sipush 12345, 3) := by decide +kernel
theorem dX7_drift_56 : decode cX7_drift 56 = .ok (.iadd, 1) := by decide +kernel
theorem dX7_drift_57 : decode cX7_drift 57 = .ok (.istore 4, 2) := by decide +kernel
theorem dX7_drift_59 : decode cX7_drift 59 = .ok (.iload 4, 2) := by decide +kernel
theorem dX7_drift_61 : decode cX7_drift 61 = .ok (.bipush 16, 2) := by decide +kernel
theorem dX7_drift_63 : decode cX7_drift 63 = .ok (.ishr, 1) := by decide +kernel
theorem dX7_drift_64 : decode cX7_drift 64 = .ok (.sipush 32767, 3) := by decide +kernel
theorem dX7_drift_67 : decode cX7_drift 67 = .ok (.iand, 1) := by decide +kernel
theorem dX7_drift_68 : decode cX7_drift 68 = .ok (.istore 6, 2) := by decide +kernel
theorem dX7_drift_70 : decode cX7_drift 70 = .ok (.aload_n 0, 1) := by decide +kernel
theorem dX7_drift_71 : decode cX7_drift 71 = .ok (.getfield 13, 3) := by decide +kernel
theorem dX7_drift_74 : decode cX7_drift 74 = .ok (.iconst 4, 1) := by decide +kernel
theorem dX7_drift_75 : decode cX7_drift 75 = .ok (.iload 6, 2) := by decide +kernel
theorem dX7_drift_77 : decode cX7_drift 77 = .ok (.aload_n 0, 1) := by decide +kernel
theorem dX7_drift_78 : decode cX7_drift 78 = .ok (.getfield 99, 3) := by decide +kernel
theorem dX7_drift_81 : decode cX7_drift 81 = .ok (.irem, 1) := by decide +kernel
theorem dX7_drift_82 : decode cX7_drift 82 = .ok (.imul, 1) := by decide +kernel
theorem dX7_drift_83 : decode cX7_drift 83 = .ok (.iconst 1, 1) := by decide +kernel
theorem dX7_drift_84 : decode cX7_drift 84 = .ok (.iadd, 1) := by decide +kernel
theorem dX7_drift_85 : decode cX7_drift 85 = .ok (.sipush 999, 3) := by decide +kernel
theorem dX7_drift_88 : decode cX7_drift 88 = .ok (.aload_n 0, 1) := by decide +kernel
theorem dX7_drift_89 : decode cX7_drift 89 = .ok (.iload 6, 2) := by decide +kernel
theorem dX7_drift_91 : decode cX7_drift 91 = .ok (.aload_n 0, 1) := by decide +kernel
theorem dX7_drift_92 : decode cX7_drift 92 = .ok (.getfield 99, 3) := by decide +kernel
theorem dX7_drift_95 : decode cX7_drift 95 = .ok (.irem, 1) := by decide +kernel
theorem dX7_drift_96 : decode cX7_drift 96 = .ok (.iconst 1, 1) := by decide +kernel
theorem dX7_drift_97 : decode cX7_drift 97 = .ok (.invokevirtual 182, 3) := by decide +kernel
theorem dX7_drift_100 : decode cX7_drift 100 = .ok (.iload 6, 2) := by decide +kernel
theorem dX7_drift_102 : decode cX7_drift 102 = .ok (.bipush 10, 2) := by decide +kernel
theorem dX7_drift_104 : decode cX7_drift 104 = .ok (.irem, 1) := by decide +kernel
theorem dX7_drift_105 : decode cX7_drift 105 = .ok (.iadd, 1) := by decide +kernel
theorem dX7_drift_106 : decode cX7_drift 106 = .ok (.invokestatic 185, 3) := by decide +kernel
theorem dX7_drift_109 : decode cX7_drift 109 = .ok (.iastore, 1) := by decide +kernel
theorem dX7_drift_110 : decode cX7_drift 110 = .ok (.aload_n 0, 1) := by decide +kernel
theorem dX7_drift_111 : decode cX7_drift 111 = .ok (.invokevirtual 201, 3) := by decide +kernel
theorem dX7_drift_114 : decode cX7_drift 114 = .ok (.iinc 5 1, 3) := by decide +kernel
theorem dX7_drift_117 : decode cX7_drift 117 = .ok (.goto (-76), 3) := by decide +kernel
theorem dX7_drift_120 : decode cX7_drift 120 = .ok (.iload_n 3, 1) := by decide +kernel
theorem dX7_drift_121 : decode cX7_drift 121 = .ok (.ifCond .ne 10, 3) := by decide +kernel
theorem dX7_drift_124 : decode cX7_drift 124 = .ok (.aload_n 0, 1) := by decide +kernel
theorem dX7_drift_125 : decode cX7_drift 125 = .ok (.invokevirtual 207, 3) := by decide +kernel
theorem dX7_drift_128 : decode cX7_drift 128 = .ok (.goto 8, 3) := by decide +kernel
theorem dX7_drift_131 : decode cX7_drift 131 = .ok (.aload_n 0, 1) := by decide +kernel
theorem dX7_drift_132 : decode cX7_drift 132 = .ok (.iconst 1, 1) := by decide +kernel
theorem dX7_drift_133 : decode cX7_drift 133 = .ok (.invokevirtual 263, 3) := by decide +kernel
theorem dX7_drift_136 : decode cX7_drift 136 = .ok (.ireturn, 1) := by decide +kernel
theorem dX7_copies_0 : decode cX7_copies 0 = .ok (.iconst 0, 1) := by decide +kernel
theorem dX7_copies_1 : decode cX7_copies 1 = .ok (.istore_n 3, 1) := by decide +kernel
theorem dX7_copies_2 : decode cX7_copies 2 = .ok (.iload_n 3, 1) := by decide +kernel
theorem dX7_copies_3 : decode cX7_copies 3 = .ok (.bipush 45, 2) := by decide +kernel
theorem dX7_copies_5 : decode cX7_copies 5 = .ok (.if_icmp .ge 25, 3) := by decide +kernel
theorem dX7_copies_8 : decode cX7_copies 8 = .ok (.aload_n 0, 1) := by decide +kernel
theorem dX7_copies_9 : decode cX7_copies 9 = .ok (.getfield 7, 3) := by decide +kernel
theorem dX7_copies_12 : decode cX7_copies 12 = .ok (.iload_n 1, 1) := by decide +kernel
theorem dX7_copies_13 : decode cX7_copies 13 = .ok (.iload_n 3, 1) := by decide +kernel
theorem dX7_copies_14 : decode cX7_copies 14 = .ok (.iadd, 1) := by decide +kernel
theorem dX7_copies_15 : decode cX7_copies 15 = .ok (.aload_n 0, 1) := by decide +kernel
theorem dX7_copies_16 : decode cX7_copies 16 = .ok (.getfield 7, 3) := by decide +kernel
theorem dX7_copies_19 : decode cX7_copies 19 = .ok (.iload_n 2, 1) := by decide +kernel
theorem dX7_copies_20 : decode cX7_copies 20 = .ok (.iload_n 3, 1) := by decide +kernel
theorem dX7_copies_21 : decode cX7_copies 21 = .ok (.iadd, 1) := by decide +kernel
theorem dX7_copies_22 : decode cX7_copies 22 = .ok (.iaload, 1) := by decide +kernel
theorem dX7_copies_23 : decode cX7_copies 23 = .ok (.iastore, 1) := by decide +kernel
theorem dX7_copies_24 : decode cX7_copies 24 = .ok (.iinc 3 1, 3) := by decide +kernel
theorem dX7_copies_27 : decode cX7_copies 27 = .ok (.goto (-25), 3) := by decide +kernel
theorem dX7_copies_30 : decode cX7_copies 30 = .ok (.return_, 1) := by decide +kernel
set_option maxRecDepth 20000 in
theorem ggX7_keep_X7_in : GoodIn wsX7_keep wsX7_in := goodIn_r _ [5] (by decide +kernel) (by decide +kernel)
set_option maxRecDepth 20000 in
theorem gX7_keep_X7_in : GoodIn wsX7_keep (va_wsS RX7 110 yX7_in wsX7_in) := goodIn_app (goodIn_of _ (by decide +kernel)) ggX7_keep_X7_in
set_option maxRecDepth 20000 in
theorem ggX7_keep_X7_flag : GoodIn wsX7_keep wsX7_flag := goodIn_r _ [8] (by decide +kernel) (by decide +kernel)
set_option maxRecDepth 20000 in
theorem gX7_keep_X7_flag : GoodIn wsX7_keep (va_wsS RX7 224 yX7_flag wsX7_flag) := goodIn_app (goodIn_of _ (by decide +kernel)) ggX7_keep_X7_flag
set_option maxRecDepth 20000 in
theorem ggX7_keep_X7_copies : GoodIn wsX7_keep wsX7_copies := goodIn_r _ [12, 13, 14, 15, 16, 17, 18, 19, 20, 21, 22, 23, 24, 25, 26, 27, 28, 29, 30, 31, 32, 33, 34, 35, 36, 37, 38, 39, 40, 41, 42, 43, 44, 45, 46, 47, 48, 49, 50, 51, 52] (by decide +kernel) (by decide +kernel)
set_option maxRecDepth 20000 in
theorem gX7_keep_X7_copies : GoodIn wsX7_keep (wsV RX7 277 RX7 yX7_copies wsX7_copies) := goodIn_app (goodIn_of _ (by decide +kernel)) ggX7_keep_X7_copies
theorem dX7_keep_0 : decode cX7_keep 0 = .ok (.iload_n 1, 1) := by decide +kernel
theorem dX7_keep_1 : decode cX7_keep 1 = .ok (.i2l, 1) := by decide +kernel
theorem dX7_keep_2 : decode cX7_keep 2 = .ok (.lconst 0, 1) := by decide +kernel
theorem dX7_keep_3 : decode cX7_keep 3 = .ok (.lconst 1, 1) := by decide +kernel
theorem dX7_keep_4 : decode cX7_keep 4 = .ok (.invokestatic 110, 3) := by decide +kernel
theorem dX7_keep_7 : decode cX7_keep 7 = .ok (.ifCond .ne 5, 3) := by decide +kernel
theorem dX7_keep_10 : decode cX7_keep 10 = .ok (.iconst (-1), 1) := by decide +kernel
theorem dX7_keep_11 : decode cX7_keep 11 = .ok (.ireturn, 1) := by decide +kernel
theorem dX7_keep_12 : decode cX7_keep 12 = .ok (.aload_n 0, 1) := by decide +kernel
theorem dX7_keep_13 : decode cX7_keep 13 = .ok (.getfield 16, 3) := by decide +kernel
theorem dX7_keep_16 : decode cX7_keep 16 = .ok (.iload_n 1, 1) := by decide +kernel
theorem dX7_keep_17 : decode cX7_keep 17 = .ok (.baload, 1) := by decide +kernel
theorem dX7_keep_18 : decode cX7_keep 18 = .ok (.invokestatic 224, 3) := by decide +kernel
theorem dX7_keep_21 : decode cX7_keep 21 = .ok (.istore_n 2, 1) := by decide +kernel
theorem dX7_keep_22 : decode cX7_keep 22 = .ok (.aload_n 0, 1) := by decide +kernel
theorem dX7_keep_23 : decode cX7_keep 23 = .ok (.getfield 16, 3) := by decide +kernel
theorem dX7_keep_26 : decode cX7_keep 26 = .ok (.iload_n 1, 1) := by decide +kernel
theorem dX7_keep_27 : decode cX7_keep 27 = .ok (.iconst 1, 1) := by decide +kernel
theorem dX7_keep_28 : decode cX7_keep 28 = .ok (.bastore, 1) := by decide +kernel
theorem dX7_keep_29 : decode cX7_keep 29 = .ok (.aload_n 0, 1) := by decide +kernel
theorem dX7_keep_30 : decode cX7_keep 30 = .ok (.bipush 45, 2) := by decide +kernel
theorem dX7_keep_32 : decode cX7_keep 32 = .ok (.iload_n 1, 1) := by decide +kernel
theorem dX7_keep_33 : decode cX7_keep 33 = .ok (.iconst 1, 1) := by decide +kernel
theorem dX7_keep_34 : decode cX7_keep 34 = .ok (.iadd, 1) := by decide +kernel
theorem dX7_keep_35 : decode cX7_keep 35 = .ok (.imul, 1) := by decide +kernel
theorem dX7_keep_36 : decode cX7_keep 36 = .ok (.iconst 0, 1) := by decide +kernel
theorem dX7_keep_37 : decode cX7_keep 37 = .ok (.invokevirtual 277, 3) := by decide +kernel
theorem dX7_keep_40 : decode cX7_keep 40 = .ok (.iload_n 2, 1) := by decide +kernel
theorem dX7_keep_41 : decode cX7_keep 41 = .ok (.ireturn, 1) := by decide +kernel
set_option maxRecDepth 20000 in
theorem ggX7_back_X7_in : GoodIn wsX7_back wsX7_in := goodIn_r _ [6] (by decide +kernel) (by decide +kernel)
set_option maxRecDepth 20000 in
theorem gX7_back_X7_in : GoodIn wsX7_back (va_wsS RX7 110 yX7_in wsX7_in) := goodIn_app (goodIn_of _ (by decide +kernel)) ggX7_back_X7_in
set_option maxRecDepth 20000 in
theorem ggX7_back_X7_copies : GoodIn wsX7_back wsX7_copies := goodIn_r _ [10, 2, 11, 12, 13, 14, 15, 16, 17, 18, 19, 20, 21, 22, 23, 24, 25, 26, 27, 28, 29, 30, 31, 32, 33, 34, 35, 36, 37, 38, 39, 40, 41, 42, 43, 44, 45, 46, 47, 48, 49] (by decide +kernel) (by decide +kernel)
set_option maxRecDepth 20000 in
theorem gX7_back_X7_copies : GoodIn wsX7_back (wsV RX7 277 RX7 yX7_copies wsX7_copies) := goodIn_app (goodIn_of _ (by decide +kernel)) ggX7_back_X7_copies
theorem dX7_back_0 : decode cX7_back 0 = .ok (.iload_n 1, 1) := by decide +kernel
theorem dX7_back_1 : decode cX7_back 1 = .ok (.i2l, 1) := by decide +kernel
theorem dX7_back_2 : decode cX7_back 2 = .ok (.lconst 0, 1) := by decide +kernel
theorem dX7_back_3 : decode cX7_back 3 = .ok (.lconst 1, 1) := by decide +kernel
theorem dX7_back_4 : decode cX7_back 4 = .ok (.invokestatic 110, 3) := by decide +kernel
theorem dX7_back_7 : decode cX7_back 7 = .ok (.ifCond .ne 5, 3) := by decide +kernel
theorem dX7_back_10 : decode cX7_back 10 = .ok (.iconst (-1), 1) := by decide +kernel
theorem dX7_back_11 : decode cX7_back 11 = .ok (.ireturn, 1) := by decide +kernel
theorem dX7_back_12 : decode cX7_back 12 = .ok (.aload_n 0, 1) := by decide +kernel
theorem dX7_back_13 : decode cX7_back 13 = .ok (.getfield 16, 3) := by decide +kernel
theorem dX7_back_16 : decode cX7_back 16 = .ok (.iload_n 1, 1) := by decide +kernel
theorem dX7_back_17 : decode cX7_back 17 = .ok (.baload, 1) := by decide +kernel
theorem dX7_back_18 : decode cX7_back 18 = .ok (.ifCond .ne 6, 3) := by decide +kernel
theorem dX7_back_21 : decode cX7_back 21 = .ok (.bipush (-2), 2) := by decide +kernel
theorem dX7_back_23 : decode cX7_back 23 = .ok (.ireturn, 1) := by decide +kernel
theorem dX7_back_24 : decode cX7_back 24 = .ok (.aload_n 0, 1) := by decide +kernel
theorem dX7_back_25 : decode cX7_back 25 = .ok (.iconst 0, 1) := by decide +kernel
theorem dX7_back_26 : decode cX7_back 26 = .ok (.bipush 45, 2) := by decide +kernel
theorem dX7_back_28 : decode cX7_back 28 = .ok (.iload_n 1, 1) := by decide +kernel
theorem dX7_back_29 : decode cX7_back 29 = .ok (.iconst 1, 1) := by decide +kernel
theorem dX7_back_30 : decode cX7_back 30 = .ok (.iadd, 1) := by decide +kernel
theorem dX7_back_31 : decode cX7_back 31 = .ok (.imul, 1) := by decide +kernel
theorem dX7_back_32 : decode cX7_back 32 = .ok (.invokevirtual 277, 3) := by decide +kernel
theorem dX7_back_35 : decode cX7_back 35 = .ok (.aload_n 0, 1) := by decide +kernel
theorem dX7_back_36 : decode cX7_back 36 = .ok (.getfield 7, 3) := by decide +kernel
theorem dX7_back_39 : decode cX7_back 39 = .ok (.bipush 25, 2) := by decide +kernel
theorem dX7_back_41 : decode cX7_back 41 = .ok (.iaload, 1) := by decide +kernel
theorem dX7_back_42 : decode cX7_back 42 = .ok (.ireturn, 1) := by decide +kernel
set_option maxRecDepth 20000 in
theorem ggX7_isSheet_X7_in : GoodIn wsX7_isSheet wsX7_in := goodIn_r _ [6] (by decide +kernel) (by decide +kernel)
set_option maxRecDepth 20000 in
theorem gX7_isSheet_X7_in : GoodIn wsX7_isSheet (va_wsS RX7 110 yX7_in wsX7_in) := goodIn_app (goodIn_of _ (by decide +kernel)) ggX7_isSheet_X7_in
theorem dX7_isSheet_0 : decode cX7_isSheet 0 = .ok (.iload_n 0, 1) := by decide +kernel
theorem dX7_isSheet_1 : decode cX7_isSheet 1 = .ok (.i2l, 1) := by decide +kernel
theorem dX7_isSheet_2 : decode cX7_isSheet 2 = .ok (.lconst 0, 1) := by decide +kernel
theorem dX7_isSheet_3 : decode cX7_isSheet 3 = .ok (.ldc2_w 173, 3) := by decide +kernel
theorem dX7_isSheet_6 : decode cX7_isSheet 6 = .ok (.invokestatic 110, 3) := by decide +kernel
theorem dX7_isSheet_9 : decode cX7_isSheet 9 = .ok (.ifCond .eq 19, 3) := by decide +kernel
theorem dX7_isSheet_12 : decode cX7_isSheet 12 = .ok (.iload_n 1, 1) := by decide +kernel
theorem dX7_isSheet_13 : decode cX7_isSheet 13 = .ok (.i2l, 1) := by decide +kernel
theorem dX7_isSheet_14 : decode cX7_isSheet 14 = .ok (.lconst 0, 1) := by decide +kernel
theorem dX7_isSheet_15 : decode cX7_isSheet 15 = .ok (.ldc2_w 220, 3) := by decide +kernel
theorem dX7_isSheet_18 : decode cX7_isSheet 18 = .ok (.invokestatic 110, 3) := by decide +kernel
theorem dX7_isSheet_21 : decode cX7_isSheet 21 = .ok (.ifCond .eq 7, 3) := by decide +kernel
theorem dX7_isSheet_24 : decode cX7_isSheet 24 = .ok (.iconst 1, 1) := by decide +kernel
theorem dX7_isSheet_25 : decode cX7_isSheet 25 = .ok (.goto 4, 3) := by decide +kernel
theorem dX7_isSheet_28 : decode cX7_isSheet 28 = .ok (.iconst 0, 1) := by decide +kernel
theorem dX7_isSheet_29 : decode cX7_isSheet 29 = .ok (.ireturn, 1) := by decide +kernel
set_option maxRecDepth 20000 in
theorem ggX7_sheet_X7_isSheet : GoodIn wsX7_sheet wsX7_isSheet := goodIn_r _ [7, 8, 9, 10, 11, 6, 12] (by decide +kernel) (by decide +kernel)
set_option maxRecDepth 20000 in
theorem gX7_sheet_X7_isSheet : GoodIn wsX7_sheet (va_wsS RX7 281 yX7_isSheet wsX7_isSheet) := goodIn_app (goodIn_of _ (by decide +kernel)) ggX7_sheet_X7_isSheet
theorem dX7_sheet_0 : decode cX7_sheet 0 = .ok (.iload_n 1, 1) := by decide +kernel
theorem dX7_sheet_1 : decode cX7_sheet 1 = .ok (.iload_n 2, 1) := by decide +kernel
theorem dX7_sheet_2 : decode cX7_sheet 2 = .ok (.invokestatic 281, 3) := by decide +kernel
theorem dX7_sheet_5 : decode cX7_sheet 5 = .ok (.ifCond .eq 9, 3) := by decide +kernel
theorem dX7_sheet_8 : decode cX7_sheet 8 = .ok (.iload_n 3, 1) := by decide +kernel
theorem dX7_sheet_9 : decode cX7_sheet 9 = .ok (.bipush 40, 2) := by decide +kernel
theorem dX7_sheet_11 : decode cX7_sheet 11 = .ok (.if_icmp .le 5, 3) := by decide +kernel
theorem dX7_sheet_14 : decode cX7_sheet 14 = .ok (.iconst (-1), 1) := by decide +kernel
theorem dX7_sheet_15 : decode cX7_sheet 15 = .ok (.ireturn, 1) := by decide +kernel
theorem dX7_sheet_16 : decode cX7_sheet 16 = .ok (.iload_n 3, 1) := by decide +kernel
theorem dX7_sheet_17 : decode cX7_sheet 17 = .ok (.ifCond .ge 6, 3) := by decide +kernel
theorem dX7_sheet_20 : decode cX7_sheet 20 = .ok (.bipush (-14), 2) := by decide +kernel
theorem dX7_sheet_22 : decode cX7_sheet 22 = .ok (.ireturn, 1) := by decide +kernel
theorem dX7_sheet_23 : decode cX7_sheet 23 = .ok (.aload_n 0, 1) := by decide +kernel
theorem dX7_sheet_24 : decode cX7_sheet 24 = .ok (.getfield 65, 3) := by decide +kernel
theorem dX7_sheet_27 : decode cX7_sheet 27 = .ok (.iload_n 1, 1) := by decide +kernel
theorem dX7_sheet_28 : decode cX7_sheet 28 = .ok (.iload_n 2, 1) := by decide +kernel
theorem dX7_sheet_29 : decode cX7_sheet 29 = .ok (.iastore, 1) := by decide +kernel
theorem dX7_sheet_30 : decode cX7_sheet 30 = .ok (.aload_n 0, 1) := by decide +kernel
theorem dX7_sheet_31 : decode cX7_sheet 31 = .ok (.getfield 68, 3) := by decide +kernel
theorem dX7_sheet_34 : decode cX7_sheet 34 = .ok (.iload_n 1, 1) := by decide +kernel
theorem dX7_sheet_35 : decode cX7_sheet 35 = .ok (.iload_n 3, 1) := by decide +kernel
theorem dX7_sheet_36 : decode cX7_sheet 36 = .ok (.iastore, 1) := by decide +kernel
theorem dX7_sheet_37 : decode cX7_sheet 37 = .ok (.iconst 0, 1) := by decide +kernel
theorem dX7_sheet_38 : decode cX7_sheet 38 = .ok (.istore 4, 2) := by decide +kernel
theorem dX7_sheet_40 : decode cX7_sheet 40 = .ok (.iload 4, 2) := by decide +kernel
theorem dX7_sheet_42 : decode cX7_sheet 42 = .ok (.bipush 40, 2) := by decide +kernel
theorem dX7_sheet_44 : decode cX7_sheet 44 = .ok (.if_icmp .ge 22, 3) := by decide +kernel
theorem dX7_sheet_47 : decode cX7_sheet 47 = .ok (.aload_n 0, 1) := by decide +kernel
theorem dX7_sheet_48 : decode cX7_sheet 48 = .ok (.getfield 71, 3) := by decide +kernel
theorem dX7_sheet_51 : decode cX7_sheet 51 = .ok (.bipush 40, 2) := by decide +kernel
theorem dX7_sheet_53 : decode cX7_sheet 53 = .ok (.iload_n 1, 1) := by decide +kernel
theorem dX7_sheet_54 : decode cX7_sheet 54 = .ok (.imul, 1) := by decide +kernel
theorem dX7_sheet_55 : decode cX7_sheet 55 = .ok (.iload 4, 2) := by decide +kernel
theorem dX7_sheet_57 : decode cX7_sheet 57 = .ok (.iadd, 1) := by decide +kernel
theorem dX7_sheet_58 : decode cX7_sheet 58 = .ok (.iconst 0, 1) := by decide +kernel
theorem dX7_sheet_59 : decode cX7_sheet 59 = .ok (.iastore, 1) := by decide +kernel
theorem dX7_sheet_60 : decode cX7_sheet 60 = .ok (.iinc 4 1, 3) := by decide +kernel
theorem dX7_sheet_63 : decode cX7_sheet 63 = .ok (.goto (-23), 3) := by decide +kernel
theorem dX7_sheet_66 : decode cX7_sheet 66 = .ok (.iconst 1, 1) := by decide +kernel
theorem dX7_sheet_67 : decode cX7_sheet 67 = .ok (.ireturn, 1) := by decide +kernel
set_option maxRecDepth 20000 in
theorem ggX7_lay_X7_isSheet : GoodIn wsX7_lay wsX7_isSheet := goodIn_r _ [7, 8, 9, 10, 11, 6, 12] (by decide +kernel) (by decide +kernel)
set_option maxRecDepth 20000 in
theorem gX7_lay_X7_isSheet : GoodIn wsX7_lay (va_wsS RX7 281 yX7_isSheet wsX7_isSheet) := goodIn_app (goodIn_of _ (by decide +kernel)) ggX7_lay_X7_isSheet
set_option maxRecDepth 20000 in
theorem ggX7_lay_X7_in : GoodIn wsX7_lay wsX7_in := goodIn_r _ [12] (by decide +kernel) (by decide +kernel)
set_option maxRecDepth 20000 in
theorem gX7_lay_X7_in : GoodIn wsX7_lay (va_wsS RX7 110 yX7_in wsX7_in) := goodIn_app (goodIn_of _ (by decide +kernel)) ggX7_lay_X7_in
theorem dX7_lay_0 : decode cX7_lay 0 = .ok (.iload_n 1, 1) := by decide +kernel
theorem dX7_lay_1 : decode cX7_lay 1 = .ok (.iconst 0, 1) := by decide +kernel
theorem dX7_lay_2 : decode cX7_lay 2 = .ok (.invokestatic 281, 3) := by decide +kernel
theorem dX7_lay_5 : decode cX7_lay 5 = .ok (.ifCond .ne 5, 3) := by decide +kernel
theorem dX7_lay_8 : decode cX7_lay 8 = .ok (.iconst (-1), 1) := by decide +kernel
theorem dX7_lay_9 : decode cX7_lay 9 = .ok (.ireturn, 1) := by decide +kernel
theorem dX7_lay_10 : decode cX7_lay 10 = .ok (.aload_n 0, 1) := by decide +kernel
theorem dX7_lay_11 : decode cX7_lay 11 = .ok (.getfield 65, 3) := by decide +kernel
theorem dX7_lay_14 : decode cX7_lay 14 = .ok (.iload_n 1, 1) := by decide +kernel
theorem dX7_lay_15 : decode cX7_lay 15 = .ok (.iaload, 1) := by decide +kernel
theorem dX7_lay_16 : decode cX7_lay 16 = .ok (.bipush (-4), 2) := by decide +kernel
theorem dX7_lay_18 : decode cX7_lay 18 = .ok (.if_icmp .ne 6, 3) := by decide +kernel
theorem dX7_lay_21 : decode cX7_lay 21 = .ok (.bipush (-11), 2) := by decide +kernel
theorem dX7_lay_23 : decode cX7_lay 23 = .ok (.ireturn, 1) := by decide +kernel
theorem dX7_lay_24 : decode cX7_lay 24 = .ok (.iload_n 2, 1) := by decide +kernel
theorem dX7_lay_25 : decode cX7_lay 25 = .ok (.i2l, 1) := by decide +kernel
theorem dX7_lay_26 : decode cX7_lay 26 = .ok (.lconst 0, 1) := by decide +kernel
theorem dX7_lay_27 : decode cX7_lay 27 = .ok (.aload_n 0, 1) := by decide +kernel
theorem dX7_lay_28 : decode cX7_lay 28 = .ok (.getfield 68, 3) := by decide +kernel
theorem dX7_lay_31 : decode cX7_lay 31 = .ok (.iload_n 1, 1) := by decide +kernel
theorem dX7_lay_32 : decode cX7_lay 32 = .ok (.iaload, 1) := by decide +kernel
theorem dX7_lay_33 : decode cX7_lay 33 = .ok (.iconst 1, 1) := by decide +kernel
theorem dX7_lay_34 : decode cX7_lay 34 = .ok (.isub, 1) := by decide +kernel
theorem dX7_lay_35 : decode cX7_lay 35 = .ok (.i2l, 1) := by decide +kernel
theorem dX7_lay_36 : decode cX7_lay 36 = .ok (.invokestatic 110, 3) := by decide +kernel
theorem dX7_lay_39 : decode cX7_lay 39 = .ok (.ifCond .ne 6, 3) := by decide +kernel
theorem dX7_lay_42 : decode cX7_lay 42 = .ok (.bipush (-12), 2) := by decide +kernel
theorem dX7_lay_44 : decode cX7_lay 44 = .ok (.ireturn, 1) := by decide +kernel
theorem dX7_lay_45 : decode cX7_lay 45 = .ok (.aload_n 0, 1) := by decide +kernel
theorem dX7_lay_46 : decode cX7_lay 46 = .ok (.getfield 71, 3) := by decide +kernel
theorem dX7_lay_49 : decode cX7_lay 49 = .ok (.bipush 40, 2) := by decide +kernel
theorem dX7_lay_51 : decode cX7_lay 51 = .ok (.iload_n 1, 1) := by decide +kernel
theorem dX7_lay_52 : decode cX7_lay 52 = .ok (.imul, 1) := by decide +kernel
theorem dX7_lay_53 : decode cX7_lay 53 = .ok (.iload_n 2, 1) := by decide +kernel
theorem dX7_lay_54 : decode cX7_lay 54 = .ok (.iadd, 1) := by decide +kernel
theorem dX7_lay_55 : decode cX7_lay 55 = .ok (.aload_n 0, 1) := by decide +kernel
theorem dX7_lay_56 : decode cX7_lay 56 = .ok (.getfield 65, 3) := by decide +kernel
theorem dX7_lay_59 : decode cX7_lay 59 = .ok (.iload_n 1, 1) := by decide +kernel
theorem dX7_lay_60 : decode cX7_lay 60 = .ok (.iaload, 1) := by decide +kernel
theorem dX7_lay_61 : decode cX7_lay 61 = .ok (.ifCond .ne 8, 3) := by decide +kernel
theorem dX7_lay_64 : decode cX7_lay 64 = .ok (.iload_n 3, 1) := by decide +kernel
theorem dX7_lay_65 : decode cX7_lay 65 = .ok (.i2b, 1) := by decide +kernel
theorem dX7_lay_66 : decode cX7_lay 66 = .ok (.goto 19, 3) := by decide +kernel
theorem dX7_lay_69 : decode cX7_lay 69 = .ok (.aload_n 0, 1) := by decide +kernel
theorem dX7_lay_70 : decode cX7_lay 70 = .ok (.getfield 65, 3) := by decide +kernel
theorem dX7_lay_73 : decode cX7_lay 73 = .ok (.iload_n 1, 1) := by decide +kernel
theorem dX7_lay_74 : decode cX7_lay 74 = .ok (.iaload, 1) := by decide +kernel
theorem dX7_lay_75 : decode cX7_lay 75 = .ok (.iconst 1, 1) := by decide +kernel
theorem dX7_lay_76 : decode cX7_lay 76 = .ok (.if_icmp .ne 8, 3) := by decide +kernel
theorem dX7_lay_79 : decode cX7_lay 79 = .ok (.iload_n 3, 1) := by decide +kernel
theorem dX7_lay_80 : decode cX7_lay 80 = .ok (.i2s, 1) := by decide +kernel
theorem dX7_lay_81 : decode cX7_lay 81 = .ok (.goto 4, 3) := by decide +kernel
theorem dX7_lay_84 : decode cX7_lay 84 = .ok (.iload_n 3, 1) := by decide +kernel
theorem dX7_lay_85 : decode cX7_lay 85 = .ok (.iastore, 1) := by decide +kernel
theorem dX7_lay_86 : decode cX7_lay 86 = .ok (.iconst 1, 1) := by decide +kernel
theorem dX7_lay_87 : decode cX7_lay 87 = .ok (.ireturn, 1) := by decide +kernel
set_option maxRecDepth 20000 in
theorem ggX7_read_X7_isSheet : GoodIn wsX7_read wsX7_isSheet := goodIn_r _ [11, 12, 13, 14, 15, 10, 16] (by decide +kernel) (by decide +kernel)
set_option maxRecDepth 20000 in
theorem gX7_read_X7_isSheet : GoodIn wsX7_read (va_wsS RX7 281 yX7_isSheet wsX7_isSheet) := goodIn_app (goodIn_of _ (by decide +kernel)) ggX7_read_X7_isSheet
set_option maxRecDepth 20000 in
theorem ggX7_read_X7_in : GoodIn wsX7_read wsX7_in := goodIn_r _ [16] (by decide +kernel) (by decide +kernel)
set_option maxRecDepth 20000 in
theorem gX7_read_X7_in : GoodIn wsX7_read (va_wsS RX7 110 yX7_in wsX7_in) := goodIn_app (goodIn_of _ (by decide +kernel)) ggX7_read_X7_in
set_option maxRecDepth 20000 in
theorem ggX7_read_X7_draw : GoodIn wsX7_read wsX7_draw := goodIn_r _ [20, 21, 3, 22, 23, 24, 10, 25, 26, 14, 15, 16, 27, 28, 29, 30, 31, 32, 33, 34, 35, 36, 37, 38, 39, 40, 41, 42, 43, 44, 45, 46, 47, 48, 49, 50, 51, 52, 53, 54, 55, 56, 57, 58, 59, 60, 61, 62, 63, 64, 65] (by decide +kernel) (by decide +kernel)
set_option maxRecDepth 20000 in
theorem gX7_read_X7_draw : GoodIn wsX7_read (wsV RX7 285 RX7 yX7_draw wsX7_draw) := goodIn_app (goodIn_of _ (by decide +kernel)) ggX7_read_X7_draw
theorem dX7_read_0 : decode cX7_read 0 = .ok (.iload_n 1, 1) := by decide +kernel
theorem dX7_read_1 : decode cX7_read 1 = .ok (.iload_n 2, 1) := by decide +kernel
theorem dX7_read_2 : decode cX7_read 2 = .ok (.invokestatic 281, 3) := by decide +kernel
theorem dX7_read_5 : decode cX7_read 5 = .ok (.ifCond .eq 16, 3) := by decide +kernel
theorem dX7_read_8 : decode cX7_read 8 = .ok (.iload 4, 2) := by decide +kernel
theorem dX7_read_10 : decode cX7_read 10 = .ok (.i2l, 1) := by decide +kernel
theorem dX7_read_11 : decode cX7_read 11 = .ok (.lconst 0, 1) := by decide +kernel
theorem dX7_read_12 : decode cX7_read 12 = .ok (.ldc2_w 242, 3) := by decide +kernel
theorem dX7_read_15 : decode cX7_read 15 = .ok (.invokestatic 110, 3) := by decide +kernel
theorem dX7_read_18 : decode cX7_read 18 = .ok (.ifCond .ne 5, 3) := by decide +kernel
theorem dX7_read_21 : decode cX7_read 21 = .ok (.iconst (-1), 1) := by decide +kernel
theorem dX7_read_22 : decode cX7_read 22 = .ok (.ireturn, 1) := by decide +kernel
theorem dX7_read_23 : decode cX7_read 23 = .ok (.iconst 0, 1) := by decide +kernel
theorem dX7_read_24 : decode cX7_read 24 = .ok (.istore 5, 2) := by decide +kernel
theorem dX7_read_26 : decode cX7_read 26 = .ok (.iload 5, 2) := by decide +kernel
theorem dX7_read_28 : decode cX7_read 28 = .ok (.bipush 45, 2) := by decide +kernel
theorem dX7_read_30 : decode cX7_read 30 = .ok (.if_icmp .ge 23, 3) := by decide +kernel
theorem dX7_read_33 : decode cX7_read 33 = .ok (.aload_n 0, 1) := by decide +kernel
theorem dX7_read_34 : decode cX7_read 34 = .ok (.getfield 74, 3) := by decide +kernel
theorem dX7_read_37 : decode cX7_read 37 = .ok (.iload 5, 2) := by decide +kernel
theorem dX7_read_39 : decode cX7_read 39 = .ok (.aload_n 0, 1) := by decide +kernel
theorem dX7_read_40 : decode cX7_read 40 = .ok (.getfield 7, 3) := by decide +kernel
theorem dX7_read_43 : decode cX7_read 43 = .ok (.iload 5, 2) := by decide +kernel
theorem dX7_read_45 : decode cX7_read 45 = .ok (.iaload, 1) := by decide +kernel
theorem dX7_read_46 : decode cX7_read 46 = .ok (.iastore, 1) := by decide +kernel
theorem dX7_read_47 : decode cX7_read 47 = .ok (.iinc 5 1, 3) := by decide +kernel
theorem dX7_read_50 : decode cX7_read 50 = .ok (.goto (-24), 3) := by decide +kernel
theorem dX7_read_53 : decode cX7_read 53 = .ok (.iconst 0, 1) := by decide +kernel
theorem dX7_read_54 : decode cX7_read 54 = .ok (.istore 5, 2) := by decide +kernel
theorem dX7_read_56 : decode cX7_read 56 = .ok (.iconst 0, 1) := by decide +kernel
theorem dX7_read_57 : decode cX7_read 57 = .ok (.istore 6, 2) := by decide +kernel
theorem dX7_read_59 : decode cX7_read 59 = .ok (.iconst 0, 1) := by decide +kernel
theorem dX7_read_60 : decode cX7_read 60 = .ok (.istore 7, 2) := by decide +kernel
theorem dX7_read_62 : decode cX7_read 62 = .ok (.iload 7, 2) := by decide +kernel
theorem dX7_read_64 : decode cX7_read 64 = .ok (.iload 4, 2) := by decide +kernel
theorem dX7_read_66 : decode cX7_read 66 = .ok (.if_icmp .ge 184, 3) := by decide +kernel
theorem dX7_read_69 : decode cX7_read 69 = .ok (.iload 5, 2) := by decide +kernel
theorem dX7_read_71 : decode cX7_read 71 = .ok (.ifCond .ne 179, 3) := by decide +kernel
theorem dX7_read_74 : decode cX7_read 74 = .ok (.iconst 0, 1) := by decide +kernel
theorem dX7_read_75 : decode cX7_read 75 = .ok (.istore 8, 2) := by decide +kernel
theorem dX7_read_77 : decode cX7_read 77 = .ok (.iload 8, 2) := by decide +kernel
theorem dX7_read_79 : decode cX7_read 79 = .ok (.iconst 2, 1) := by decide +kernel
theorem dX7_read_80 : decode cX7_read 80 = .ok (.if_icmp .ge 84, 3) := by decide +kernel
theorem dX7_read_83 : decode cX7_read 83 = .ok (.iload 5, 2) := by decide +kernel
theorem dX7_read_85 : decode cX7_read 85 = .ok (.ifCond .ne 79, 3) := by decide +kernel
theorem dX7_read_88 : decode cX7_read 88 = .ok (.iload_n 3, 1) := by decide +kernel
theorem dX7_read_89 : decode cX7_read 89 = .ok (.i2l, 1) := by decide +kernel
theorem dX7_read_90 : decode cX7_read 90 = .ok (.iconst 2, 1) := by decide +kernel
theorem dX7_read_91 : decode cX7_read 91 = .ok (.iload 7, 2) := by decide +kernel
theorem dX7_read_93 : decode cX7_read 93 = .ok (.imul, 1) := by decide +kernel
theorem dX7_read_94 : decode cX7_read 94 = .ok (.i2l, 1) := by decide +kernel
theorem dX7_read_95 : decode cX7_read 95 = .ok (.ladd, 1) := by decide +kernel
theorem dX7_read_96 : decode cX7_read 96 = .ok (.iload 8, 2) := by decide +kernel
theorem dX7_read_98 : decode cX7_read 98 = .ok (.i2l, 1) := by decide +kernel
theorem dX7_read_99 : decode cX7_read 99 = .ok (.ladd, 1) := by decide +kernel
theorem dX7_read_100 : decode cX7_read 100 = .ok (.lstore 9, 2) := by decide +kernel
theorem dX7_read_102 : decode cX7_read 102 = .ok (.aload_n 0, 1) := by decide +kernel
theorem dX7_read_103 : decode cX7_read 103 = .ok (.getfield 65, 3) := by decide +kernel
theorem dX7_read_106 : decode cX7_read 106 = .ok (.iload_n 1, 1) := by decide +kernel
theorem dX7_read_107 : decode cX7_read 107 = .ok (.iaload, 1) := by decide +kernel
theorem dX7_read_108 : decode cX7_read 108 = .ok (.bipush (-4), 2) := by decide +kernel
theorem dX7_read_110 : decode cX7_read 110 = .ok (.if_icmp .ne 7, 3) := by decide +kernel
theorem dX7_read_113 : decode cX7_read 113 = .ok (.iconst 1, 1) := by decide +kernel
theorem dX7_read_114 : decode cX7_read 114 = .ok (.goto 42, 3) := by decide +kernel
theorem dX7_read_117 : decode cX7_read 117 = .ok (.aload_n 0, 1) := by decide +kernel
theorem dX7_read_118 : decode cX7_read 118 = .ok (.getfield 65, 3) := by decide +kernel
theorem dX7_read_121 : decode cX7_read 121 = .ok (.iload_n 1, 1) := by decide +kernel
theorem dX7_read_122 : decode cX7_read 122 = .ok (.iaload, 1) := by decide +kernel
theorem dX7_read_123 : decode cX7_read 123 = .ok (.iload_n 2, 1) := by decide +kernel
theorem dX7_read_124 : decode cX7_read 124 = .ok (.if_icmp .eq 7, 3) := by decide +kernel
theorem dX7_read_127 : decode cX7_read 127 = .ok (.iconst 3, 1) := by decide +kernel
theorem dX7_read_128 : decode cX7_read 128 = .ok (.goto 28, 3) := by decide +kernel
theorem dX7_read_131 : decode cX7_read 131 = .ok (.lload 9, 2) := by decide +kernel
theorem dX7_read_133 : decode cX7_read 133 = .ok (.lconst 0, 1) := by decide +kernel
theorem dX7_read_134 : decode cX7_read 134 = .ok (.lcmp, 1) := by decide +kernel
theorem dX7_read_135 : decode cX7_read 135 = .ok (.ifCond .lt 16, 3) := by decide +kernel
theorem dX7_read_138 : decode cX7_read 138 = .ok (.lload 9, 2) := by decide +kernel
theorem dX7_read_140 : decode cX7_read 140 = .ok (.aload_n 0, 1) := by decide +kernel
theorem dX7_read_141 : decode cX7_read 141 = .ok (.getfield 68, 3) := by decide +kernel
theorem dX7_read_144 : decode cX7_read 144 = .ok (.iload_n 1, 1) := by decide +kernel
theorem dX7_read_145 : decode cX7_read 145 = .ok (.iaload, 1) := by decide +kernel
theorem dX7_read_146 : decode cX7_read 146 = .ok (.i2l, 1) := by decide +kernel
theorem dX7_read_147 : decode cX7_read 147 = .ok (.lcmp, 1) := by decide +kernel
theorem dX7_read_148 : decode cX7_read 148 = .ok (.ifCond .lt 7, 3) := by decide +kernel
theorem dX7_read_151 : decode cX7_read 151 = .ok (.iconst 2, 1) := by decide +kernel
theorem dX7_read_152 : decode cX7_read 152 = .ok (.goto 4, 3) := by decide +kernel
theorem dX7_read_155 : decode cX7_read 155 = .ok (.iconst 0, 1) := by decide +kernel
theorem dX7_read_156 : decode cX7_read 156 = .ok (.istore 5, 2) := by decide +kernel
theorem dX7_read_158 : decode cX7_read 158 = .ok (.iinc 8 1, 3) := by decide +kernel
theorem dX7_read_161 : decode cX7_read 161 = .ok (.goto (-84), 3) := by decide +kernel
theorem dX7_read_164 : decode cX7_read 164 = .ok (.iload 5, 2) := by decide +kernel
theorem dX7_read_166 : decode cX7_read 166 = .ok (.ifCond .ne 78, 3) := by decide +kernel
theorem dX7_read_169 : decode cX7_read 169 = .ok (.bipush 40, 2) := by decide +kernel
theorem dX7_read_171 : decode cX7_read 171 = .ok (.iload_n 1, 1) := by decide +kernel
theorem dX7_read_172 : decode cX7_read 172 = .ok (.imul, 1) := by decide +kernel
theorem dX7_read_173 : decode cX7_read 173 = .ok (.iload_n 3, 1) := by decide +kernel
theorem dX7_read_174 : decode cX7_read 174 = .ok (.iadd, 1) := by decide +kernel
theorem dX7_read_175 : decode cX7_read 175 = .ok (.iconst 2, 1) := by decide +kernel
theorem dX7_read_176 : decode cX7_read 176 = .ok (.iload 7, 2) := by decide +kernel
theorem dX7_read_178 : decode cX7_read 178 = .ok (.imul, 1) := by decide +kernel
theorem dX7_read_179 : decode cX7_read 179 = .ok (.iadd, 1) := by decide +kernel
theorem dX7_read_180 : decode cX7_read 180 = .ok (.istore 8, 2) := by decide +kernel
theorem dX7_read_182 : decode cX7_read 182 = .ok (.aload_n 0, 1) := by decide +kernel
theorem dX7_read_183 : decode cX7_read 183 = .ok (.aload_n 0, 1) := by decide +kernel
theorem dX7_read_184 : decode cX7_read 184 = .ok (.getfield 71, 3) := by decide +kernel
theorem dX7_read_187 : decode cX7_read 187 = .ok (.iload 8, 2) := by decide +kernel
theorem dX7_read_189 : decode cX7_read 189 = .ok (.iaload, 1) := by decide +kernel
theorem dX7_read_190 : decode cX7_read 190 = .ok (.aload_n 0, 1) := by decide +kernel
theorem dX7_read_191 : decode cX7_read 191 = .ok (.getfield 71, 3) := by decide +kernel
theorem dX7_read_194 : decode cX7_read 194 = .ok (.iload 8, 2) := by decide +kernel
theorem dX7_read_196 : decode cX7_read 196 = .ok (.iconst 1, 1) := by decide +kernel
theorem dX7_read_197 : decode cX7_read 197 = .ok (.iadd, 1) := by decide +kernel
theorem dX7_read_198 : decode cX7_read 198 = .ok (.iaload, 1) := by decide +kernel
theorem dX7_read_199 : decode cX7_read 199 = .ok (.invokevirtual 285, 3) := by decide +kernel
theorem dX7_read_202 : decode cX7_read 202 = .ok (.ifCond .ge 39, 3) := by decide +kernel
theorem dX7_read_205 : decode cX7_read 205 = .ok (.iconst 0, 1) := by decide +kernel
theorem dX7_read_206 : decode cX7_read 206 = .ok (.istore 9, 2) := by decide +kernel
theorem dX7_read_208 : decode cX7_read 208 = .ok (.iload 9, 2) := by decide +kernel
theorem dX7_read_210 : decode cX7_read 210 = .ok (.bipush 45, 2) := by decide +kernel
theorem dX7_read_212 : decode cX7_read 212 = .ok (.if_icmp .ge 23, 3) := by decide +kernel
theorem dX7_read_215 : decode cX7_read 215 = .ok (.aload_n 0, 1) := by decide +kernel
theorem dX7_read_216 : decode cX7_read 216 = .ok (.getfield 7, 3) := by decide +kernel
theorem dX7_read_219 : decode cX7_read 219 = .ok (.iload 9, 2) := by decide +kernel
theorem dX7_read_221 : decode cX7_read 221 = .ok (.aload_n 0, 1) := by decide +kernel
theorem dX7_read_222 : decode cX7_read 222 = .ok (.getfield 74, 3) := by decide +kernel
theorem dX7_read_225 : decode cX7_read 225 = .ok (.iload 9, 2) := by decide +kernel
theorem dX7_read_227 : decode cX7_read 227 = .ok (.iaload, 1) := by decide +kernel
theorem dX7_read_228 : decode cX7_read 228 = .ok (.iastore, 1) := by decide +kernel
theorem dX7_read_229 : decode cX7_read 229 = .ok (.iinc 9 1, 3) := by decide +kernel
theorem dX7_read_232 : decode cX7_read 232 = .ok (.goto (-24), 3) := by decide +kernel
theorem dX7_read_235 : decode cX7_read 235 = .ok (.bipush (-20), 2) := by decide +kernel
theorem dX7_read_237 : decode cX7_read 237 = .ok (.iload 7, 2) := by decide +kernel
theorem dX7_read_239 : decode cX7_read 239 = .ok (.isub, 1) := by decide +kernel
theorem dX7_read_240 : decode cX7_read 240 = .ok (.ireturn, 1) := by decide +kernel
theorem dX7_read_241 : decode cX7_read 241 = .ok (.iinc 6 1, 3) := by decide +kernel
theorem dX7_read_244 : decode cX7_read 244 = .ok (.iinc 7 1, 3) := by decide +kernel
theorem dX7_read_247 : decode cX7_read 247 = .ok (.goto (-185), 3) := by decide +kernel
theorem dX7_read_250 : decode cX7_read 250 = .ok (.aload_n 0, 1) := by decide +kernel
theorem dX7_read_251 : decode cX7_read 251 = .ok (.iload 5, 2) := by decide +kernel
theorem dX7_read_253 : decode cX7_read 253 = .ok (.putfield 288, 3) := by decide +kernel
theorem dX7_read_256 : decode cX7_read 256 = .ok (.iload 6, 2) := by decide +kernel
theorem dX7_read_258 : decode cX7_read 258 = .ok (.ireturn, 1) := by decide +kernel
theorem dX7_torn_0 : decode cX7_torn 0 = .ok (.aload_n 0, 1) := by decide +kernel
theorem dX7_torn_1 : decode cX7_torn 1 = .ok (.getfield 288, 3) := by decide +kernel
theorem dX7_torn_4 : decode cX7_torn 4 = .ok (.ireturn, 1) := by decide +kernel
set_option maxRecDepth 20000 in
theorem ggX7_count_X7_starts : GoodIn wsX7_count wsX7_starts := goodIn_r _ [10, 11, 1, 24, 25, 26, 27, 28, 29, 30, 31, 32, 33, 34, 35, 36, 37, 38, 39, 40, 41, 42, 43, 44, 45, 46, 47, 48, 49, 50, 51, 52, 53, 54, 55, 56, 57, 58, 59, 60, 61, 62] (by decide +kernel) (by decide +kernel)
set_option maxRecDepth 20000 in
theorem gX7_count_X7_starts : GoodIn wsX7_count (wsV RX7 217 RX7 yX7_starts wsX7_starts) := goodIn_app (goodIn_of _ (by decide +kernel)) ggX7_count_X7_starts
set_option maxRecDepth 20000 in
theorem ggX7_count_X7_allOf : GoodIn wsX7_count wsX7_allOf := goodIn_r _ [15, 16, 17, 18, 19, 9, 20, 11, 24, 25, 26, 27, 28, 29, 30, 31, 32, 33, 34, 35, 36, 37, 38, 39, 40, 41, 42, 43, 44, 45, 46, 47, 48, 49, 50, 51, 52, 53, 54, 55, 56, 57, 58, 59, 60, 61, 62] (by decide +kernel) (by decide +kernel)
set_option maxRecDepth 20000 in
theorem gX7_count_X7_allOf : GoodIn wsX7_count (wsV RX7 263 RX7 yX7_allOf wsX7_allOf) := goodIn_app (goodIn_of _ (by decide +kernel)) ggX7_count_X7_allOf
set_option maxRecDepth 20000 in
theorem ggX7_count_X7_flag : GoodIn wsX7_count wsX7_flag := goodIn_r _ [23] (by decide +kernel) (by decide +kernel)
set_option maxRecDepth 20000 in
theorem gX7_count_X7_flag : GoodIn wsX7_count (va_wsS RX7 224 yX7_flag wsX7_flag) := goodIn_app (goodIn_of _ (by decide +kernel)) ggX7_count_X7_flag
theorem dX7_count_0 : decode cX7_count 0 = .ok (.aload_n 0, 1) := by decide +kernel
theorem dX7_count_1 : decode cX7_count 1 = .ok (.invokevirtual 217, 3) := by decide +kernel
theorem dX7_count_4 : decode cX7_count 4 = .ok (.iload_n 1, 1) := by decide +kernel
theorem dX7_count_5 : decode cX7_count 5 = .ok (.tableswitch 107 0 5 #[39, 45, 51, 59, 79, 84], 39) := by decide +kernel
theorem dX7_count_44 : decode cX7_count 44 = .ok (.aload_n 0, 1) := by decide +kernel
