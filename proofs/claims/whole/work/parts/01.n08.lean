theorem dX7_next_222 : decode cX7_next 222 = .ok (.aload_n 0, 1) := by decide +kernel
theorem dX7_next_223 : decode cX7_next 223 = .ok (.getfield 120, 3) := by decide +kernel
theorem dX7_next_226 : decode cX7_next 226 = .ok (.isub, 1) := by decide +kernel
theorem dX7_next_227 : decode cX7_next 227 = .ok (.iconst 2, 1) := by decide +kernel
theorem dX7_next_228 : decode cX7_next 228 = .ok (.if_icmp .gt 7, 3) := by decide +kernel
theorem dX7_next_231 : decode cX7_next 231 = .ok (.iconst 1, 1) := by decide +kernel
theorem dX7_next_232 : decode cX7_next 232 = .ok (.goto 4, 3) := by decide +kernel
theorem dX7_next_235 : decode cX7_next 235 = .ok (.iconst 0, 1) := by decide +kernel
theorem dX7_next_236 : decode cX7_next 236 = .ok (.iconst 1, 1) := by decide +kernel
theorem dX7_next_237 : decode cX7_next 237 = .ok (.invokevirtual 155, 3) := by decide +kernel
theorem dX7_next_240 : decode cX7_next 240 = .ok (.goto 34, 3) := by decide +kernel
theorem dX7_next_243 : decode cX7_next 243 = .ok (.aload_n 0, 1) := by decide +kernel
theorem dX7_next_244 : decode cX7_next 244 = .ok (.iconst 3, 1) := by decide +kernel
theorem dX7_next_245 : decode cX7_next 245 = .ok (.putfield 141, 3) := by decide +kernel
theorem dX7_next_248 : decode cX7_next 248 = .ok (.aload_n 0, 1) := by decide +kernel
theorem dX7_next_249 : decode cX7_next 249 = .ok (.iload_n 1, 1) := by decide +kernel
theorem dX7_next_250 : decode cX7_next 250 = .ok (.bipush 59, 2) := by decide +kernel
theorem dX7_next_252 : decode cX7_next 252 = .ok (.if_icmp .ne 7, 3) := by decide +kernel
theorem dX7_next_255 : decode cX7_next 255 = .ok (.iconst 1, 1) := by decide +kernel
theorem dX7_next_256 : decode cX7_next 256 = .ok (.goto 4, 3) := by decide +kernel
theorem dX7_next_259 : decode cX7_next 259 = .ok (.iconst 0, 1) := by decide +kernel
theorem dX7_next_260 : decode cX7_next 260 = .ok (.iconst 1, 1) := by decide +kernel
theorem dX7_next_261 : decode cX7_next 261 = .ok (.invokevirtual 155, 3) := by decide +kernel
theorem dX7_next_264 : decode cX7_next 264 = .ok (.aload_n 0, 1) := by decide +kernel
theorem dX7_next_265 : decode cX7_next 265 = .ok (.dup, 1) := by decide +kernel
theorem dX7_next_266 : decode cX7_next 266 = .ok (.getfield 126, 3) := by decide +kernel
theorem dX7_next_269 : decode cX7_next 269 = .ok (.iconst 1, 1) := by decide +kernel
theorem dX7_next_270 : decode cX7_next 270 = .ok (.iadd, 1) := by decide +kernel
theorem dX7_next_271 : decode cX7_next 271 = .ok (.putfield 126, 3) := by decide +kernel
theorem dX7_next_274 : decode cX7_next 274 = .ok (.return_, 1) := by decide +kernel
set_option maxRecDepth 20000 in
theorem ggX7_readNumber_X7_needs : GoodIn wsX7_readNumber wsX7_needs := goodIn_r _ [8, 1, 9, 10, 29, 30, 31, 32, 33, 34, 35, 36, 37, 38, 39, 40, 41, 42, 43, 44, 45, 46, 47, 48, 49, 50, 51, 52, 53, 54, 55, 56, 57, 58, 59, 60, 61, 62, 63, 64, 65, 66, 67] (by decide +kernel) (by decide +kernel)
set_option maxRecDepth 20000 in
theorem gX7_readNumber_X7_needs : GoodIn wsX7_readNumber (wsV RX7 155 RX7 yX7_needs wsX7_needs) := goodIn_app (goodIn_of _ (by decide +kernel)) ggX7_readNumber_X7_needs
set_option maxRecDepth 20000 in
theorem ggX7_readNumber_X7_in : GoodIn wsX7_readNumber wsX7_in := goodIn_r _ [13] (by decide +kernel) (by decide +kernel)
set_option maxRecDepth 20000 in
theorem gX7_readNumber_X7_in : GoodIn wsX7_readNumber (va_wsS RX7 110 yX7_in wsX7_in) := goodIn_app (goodIn_of _ (by decide +kernel)) ggX7_readNumber_X7_in
set_option maxRecDepth 20000 in
theorem ggX7_readNumber_X7_next : GoodIn wsX7_readNumber wsX7_next := goodIn_r _ [17, 1, 18, 9, 2, 19, 20, 21, 22, 3, 23, 24, 25, 7, 26, 27, 28, 11, 12, 13, 4, 5, 6, 8, 10, 29, 30, 31, 32, 33, 34, 35, 36, 37, 38, 39, 40, 41, 42, 43, 44, 45, 46, 47, 48, 49, 50, 51, 52, 53, 54, 55, 56, 57, 58, 59, 60, 61, 62, 63, 64, 65, 66, 67] (by decide +kernel) (by decide +kernel)
set_option maxRecDepth 20000 in
theorem gX7_readNumber_X7_next : GoodIn wsX7_readNumber (wsV RX7 159 RX7 yX7_next wsX7_next) := goodIn_app (goodIn_of _ (by decide +kernel)) ggX7_readNumber_X7_next
theorem dX7_readNumber_0 : decode cX7_readNumber 0 = .ok (.aload_n 0, 1) := by decide +kernel
theorem dX7_readNumber_1 : decode cX7_readNumber 1 = .ok (.getfield 117, 3) := by decide +kernel
theorem dX7_readNumber_4 : decode cX7_readNumber 4 = .ok (.ifCond .ne 21, 3) := by decide +kernel
theorem dX7_readNumber_7 : decode cX7_readNumber 7 = .ok (.aload_n 0, 1) := by decide +kernel
theorem dX7_readNumber_8 : decode cX7_readNumber 8 = .ok (.aload_n 0, 1) := by decide +kernel
theorem dX7_readNumber_9 : decode cX7_readNumber 9 = .ok (.getfield 141, 3) := by decide +kernel
theorem dX7_readNumber_12 : decode cX7_readNumber 12 = .ok (.iconst 2, 1) := by decide +kernel
theorem dX7_readNumber_13 : decode cX7_readNumber 13 = .ok (.if_icmp .ne 7, 3) := by decide +kernel
theorem dX7_readNumber_16 : decode cX7_readNumber 16 = .ok (.iconst 1, 1) := by decide +kernel
theorem dX7_readNumber_17 : decode cX7_readNumber 17 = .ok (.goto 4, 3) := by decide +kernel
theorem dX7_readNumber_20 : decode cX7_readNumber 20 = .ok (.iconst 0, 1) := by decide +kernel
theorem dX7_readNumber_21 : decode cX7_readNumber 21 = .ok (.iconst 2, 1) := by decide +kernel
theorem dX7_readNumber_22 : decode cX7_readNumber 22 = .ok (.invokevirtual 155, 3) := by decide +kernel
theorem dX7_readNumber_25 : decode cX7_readNumber 25 = .ok (.aload_n 0, 1) := by decide +kernel
theorem dX7_readNumber_26 : decode cX7_readNumber 26 = .ok (.getfield 117, 3) := by decide +kernel
theorem dX7_readNumber_29 : decode cX7_readNumber 29 = .ok (.ifCond .ne 20, 3) := by decide +kernel
theorem dX7_readNumber_32 : decode cX7_readNumber 32 = .ok (.aload_n 0, 1) := by decide +kernel
theorem dX7_readNumber_33 : decode cX7_readNumber 33 = .ok (.aload_n 0, 1) := by decide +kernel
theorem dX7_readNumber_34 : decode cX7_readNumber 34 = .ok (.getfield 152, 3) := by decide +kernel
theorem dX7_readNumber_37 : decode cX7_readNumber 37 = .ok (.i2l, 1) := by decide +kernel
theorem dX7_readNumber_38 : decode cX7_readNumber 38 = .ok (.iload_n 1, 1) := by decide +kernel
theorem dX7_readNumber_39 : decode cX7_readNumber 39 = .ok (.i2l, 1) := by decide +kernel
theorem dX7_readNumber_40 : decode cX7_readNumber 40 = .ok (.iload_n 2, 1) := by decide +kernel
theorem dX7_readNumber_41 : decode cX7_readNumber 41 = .ok (.i2l, 1) := by decide +kernel
theorem dX7_readNumber_42 : decode cX7_readNumber 42 = .ok (.invokestatic 110, 3) := by decide +kernel
theorem dX7_readNumber_45 : decode cX7_readNumber 45 = .ok (.iconst 3, 1) := by decide +kernel
theorem dX7_readNumber_46 : decode cX7_readNumber 46 = .ok (.invokevirtual 155, 3) := by decide +kernel
theorem dX7_readNumber_49 : decode cX7_readNumber 49 = .ok (.aload_n 0, 1) := by decide +kernel
theorem dX7_readNumber_50 : decode cX7_readNumber 50 = .ok (.getfield 117, 3) := by decide +kernel
theorem dX7_readNumber_53 : decode cX7_readNumber 53 = .ok (.ifCond .ne 10, 3) := by decide +kernel
theorem dX7_readNumber_56 : decode cX7_readNumber 56 = .ok (.aload_n 0, 1) := by decide +kernel
theorem dX7_readNumber_57 : decode cX7_readNumber 57 = .ok (.getfield 152, 3) := by decide +kernel
theorem dX7_readNumber_60 : decode cX7_readNumber 60 = .ok (.goto 4, 3) := by decide +kernel
theorem dX7_readNumber_63 : decode cX7_readNumber 63 = .ok (.iconst 0, 1) := by decide +kernel
theorem dX7_readNumber_64 : decode cX7_readNumber 64 = .ok (.istore_n 3, 1) := by decide +kernel
theorem dX7_readNumber_65 : decode cX7_readNumber 65 = .ok (.aload_n 0, 1) := by decide +kernel
theorem dX7_readNumber_66 : decode cX7_readNumber 66 = .ok (.invokevirtual 159, 3) := by decide +kernel
theorem dX7_readNumber_69 : decode cX7_readNumber 69 = .ok (.iload_n 3, 1) := by decide +kernel
theorem dX7_readNumber_70 : decode cX7_readNumber 70 = .ok (.ireturn, 1) := by decide +kernel
set_option maxRecDepth 20000 in
theorem ggX7_readPerson_X7_readNumber : GoodIn wsX7_readPerson wsX7_readNumber := goodIn_r _ [6, 7, 8, 9, 10, 11, 12, 5, 13, 14, 15, 16, 17, 18, 19, 20, 21, 22, 23, 24, 25, 26, 27, 28, 29, 30, 31, 32, 33, 34, 35, 36, 37, 38, 39, 40, 41, 42, 43, 44, 45, 46, 47, 48, 49, 50, 51, 52, 53, 54, 55, 56, 57, 58, 59, 60, 61, 62, 63, 64, 65, 66, 67, 68, 69, 70, 71, 72] (by decide +kernel) (by decide +kernel)
set_option maxRecDepth 20000 in
theorem gX7_readPerson_X7_readNumber : GoodIn wsX7_readPerson (wsV RX7 162 RX7 yX7_readNumber wsX7_readNumber) := goodIn_app (goodIn_of _ (by decide +kernel)) ggX7_readPerson_X7_readNumber
theorem dX7_readPerson_0 : decode cX7_readPerson 0 = .ok (.aload_n 0, 1) := by decide +kernel
theorem dX7_readPerson_1 : decode cX7_readPerson 1 = .ok (.iconst 0, 1) := by decide +kernel
theorem dX7_readPerson_2 : decode cX7_readPerson 2 = .ok (.iconst 3, 1) := by decide +kernel
theorem dX7_readPerson_3 : decode cX7_readPerson 3 = .ok (.invokevirtual 162, 3) := by decide +kernel
theorem dX7_readPerson_6 : decode cX7_readPerson 6 = .ok (.istore_n 1, 1) := by decide +kernel
theorem dX7_readPerson_7 : decode cX7_readPerson 7 = .ok (.aload_n 0, 1) := by decide +kernel
theorem dX7_readPerson_8 : decode cX7_readPerson 8 = .ok (.iload_n 1, 1) := by decide +kernel
theorem dX7_readPerson_9 : decode cX7_readPerson 9 = .ok (.aload_n 0, 1) := by decide +kernel
theorem dX7_readPerson_10 : decode cX7_readPerson 10 = .ok (.getfield 96, 3) := by decide +kernel
theorem dX7_readPerson_13 : decode cX7_readPerson 13 = .ok (.if_icmp .le 7, 3) := by decide +kernel
theorem dX7_readPerson_16 : decode cX7_readPerson 16 = .ok (.iload_n 1, 1) := by decide +kernel
theorem dX7_readPerson_17 : decode cX7_readPerson 17 = .ok (.goto 7, 3) := by decide +kernel
theorem dX7_readPerson_20 : decode cX7_readPerson 20 = .ok (.aload_n 0, 1) := by decide +kernel
theorem dX7_readPerson_21 : decode cX7_readPerson 21 = .ok (.getfield 96, 3) := by decide +kernel
theorem dX7_readPerson_24 : decode cX7_readPerson 24 = .ok (.putfield 96, 3) := by decide +kernel
theorem dX7_readPerson_27 : decode cX7_readPerson 27 = .ok (.iload_n 1, 1) := by decide +kernel
theorem dX7_readPerson_28 : decode cX7_readPerson 28 = .ok (.ireturn, 1) := by decide +kernel
set_option maxRecDepth 20000 in
theorem ggX7_readLineOf_X7_readPerson : GoodIn wsX7_readLineOf wsX7_readPerson := goodIn_r _ [15, 16, 17, 18, 19, 14, 20, 21, 22, 23, 24, 25, 26, 27, 28, 29, 30, 31, 32, 33, 34, 35, 36, 37, 38, 39, 40, 41, 42, 43, 44, 45, 46, 47, 48, 49, 50, 51, 52, 53, 54, 55, 56, 57, 58, 59, 60, 61, 62, 63, 64, 65, 66, 67, 68, 69, 70, 71, 72, 73, 74, 75, 76, 77, 78, 79, 80, 81, 82, 83, 84, 85, 86] (by decide +kernel) (by decide +kernel)
set_option maxRecDepth 20000 in
theorem gX7_readLineOf_X7_readPerson : GoodIn wsX7_readLineOf (wsV RX7 166 RX7 yX7_readPerson wsX7_readPerson) := goodIn_app (goodIn_of _ (by decide +kernel)) ggX7_readLineOf_X7_readPerson
set_option maxRecDepth 20000 in
theorem ggX7_readLineOf_X7_readNumber : GoodIn wsX7_readLineOf wsX7_readNumber := goodIn_r _ [20, 21, 22, 23, 24, 25, 26, 14, 27, 28, 29, 30, 31, 32, 33, 34, 35, 36, 37, 38, 39, 40, 41, 42, 43, 44, 45, 46, 47, 48, 49, 50, 51, 52, 53, 54, 55, 56, 57, 58, 59, 60, 61, 62, 63, 64, 65, 66, 67, 68, 69, 70, 71, 72, 73, 74, 75, 76, 77, 78, 79, 80, 81, 82, 83, 84, 85, 86] (by decide +kernel) (by decide +kernel)
set_option maxRecDepth 20000 in
theorem gX7_readLineOf_X7_readNumber : GoodIn wsX7_readLineOf (wsV RX7 162 RX7 yX7_readNumber wsX7_readNumber) := goodIn_app (goodIn_of _ (by decide +kernel)) ggX7_readLineOf_X7_readNumber
theorem dX7_readLineOf_0 : decode cX7_readLineOf 0 = .ok (.iload_n 1, 1) := by decide +kernel
theorem dX7_readLineOf_1 : decode cX7_readLineOf 1 = .ok (.tableswitch 200 4 7 #[31, 108, 166, 183], 31) := by decide +kernel
theorem dX7_readLineOf_32 : decode cX7_readLineOf 32 = .ok (.aload_n 0, 1) := by decide +kernel
theorem dX7_readLineOf_33 : decode cX7_readLineOf 33 = .ok (.getfield 41, 3) := by decide +kernel
theorem dX7_readLineOf_36 : decode cX7_readLineOf 36 = .ok (.aload_n 0, 1) := by decide +kernel
theorem dX7_readLineOf_37 : decode cX7_readLineOf 37 = .ok (.getfield 87, 3) := by decide +kernel
theorem dX7_readLineOf_40 : decode cX7_readLineOf 40 = .ok (.aload_n 0, 1) := by decide +kernel
theorem dX7_readLineOf_41 : decode cX7_readLineOf 41 = .ok (.invokevirtual 166, 3) := by decide +kernel
theorem dX7_readLineOf_44 : decode cX7_readLineOf 44 = .ok (.iastore, 1) := by decide +kernel
theorem dX7_readLineOf_45 : decode cX7_readLineOf 45 = .ok (.aload_n 0, 1) := by decide +kernel
theorem dX7_readLineOf_46 : decode cX7_readLineOf 46 = .ok (.getfield 44, 3) := by decide +kernel
theorem dX7_readLineOf_49 : decode cX7_readLineOf 49 = .ok (.aload_n 0, 1) := by decide +kernel
theorem dX7_readLineOf_50 : decode cX7_readLineOf 50 = .ok (.getfield 87, 3) := by decide +kernel
theorem dX7_readLineOf_53 : decode cX7_readLineOf 53 = .ok (.aload_n 0, 1) := by decide +kernel
theorem dX7_readLineOf_54 : decode cX7_readLineOf 54 = .ok (.iconst 0, 1) := by decide +kernel
theorem dX7_readLineOf_55 : decode cX7_readLineOf 55 = .ok (.bipush 9, 2) := by decide +kernel
theorem dX7_readLineOf_57 : decode cX7_readLineOf 57 = .ok (.invokevirtual 162, 3) := by decide +kernel
theorem dX7_readLineOf_60 : decode cX7_readLineOf 60 = .ok (.iastore, 1) := by decide +kernel
theorem dX7_readLineOf_61 : decode cX7_readLineOf 61 = .ok (.aload_n 0, 1) := by decide +kernel
theorem dX7_readLineOf_62 : decode cX7_readLineOf 62 = .ok (.getfield 47, 3) := by decide +kernel
theorem dX7_readLineOf_65 : decode cX7_readLineOf 65 = .ok (.aload_n 0, 1) := by decide +kernel
theorem dX7_readLineOf_66 : decode cX7_readLineOf 66 = .ok (.getfield 87, 3) := by decide +kernel
theorem dX7_readLineOf_69 : decode cX7_readLineOf 69 = .ok (.aload_n 0, 1) := by decide +kernel
theorem dX7_readLineOf_70 : decode cX7_readLineOf 70 = .ok (.iconst 0, 1) := by decide +kernel
theorem dX7_readLineOf_71 : decode cX7_readLineOf 71 = .ok (.bipush 9, 2) := by decide +kernel
theorem dX7_readLineOf_73 : decode cX7_readLineOf 73 = .ok (.invokevirtual 162, 3) := by decide +kernel
theorem dX7_readLineOf_76 : decode cX7_readLineOf 76 = .ok (.iastore, 1) := by decide +kernel
theorem dX7_readLineOf_77 : decode cX7_readLineOf 77 = .ok (.aload_n 0, 1) := by decide +kernel
theorem dX7_readLineOf_78 : decode cX7_readLineOf 78 = .ok (.getfield 38, 3) := by decide +kernel
theorem dX7_readLineOf_81 : decode cX7_readLineOf 81 = .ok (.bipush 16, 2) := by decide +kernel
theorem dX7_readLineOf_83 : decode cX7_readLineOf 83 = .ok (.aload_n 0, 1) := by decide +kernel
theorem dX7_readLineOf_84 : decode cX7_readLineOf 84 = .ok (.getfield 87, 3) := by decide +kernel
theorem dX7_readLineOf_87 : decode cX7_readLineOf 87 = .ok (.iadd, 1) := by decide +kernel
theorem dX7_readLineOf_88 : decode cX7_readLineOf 88 = .ok (.aload_n 0, 1) := by decide +kernel
theorem dX7_readLineOf_89 : decode cX7_readLineOf 89 = .ok (.iconst 0, 1) := by decide +kernel
theorem dX7_readLineOf_90 : decode cX7_readLineOf 90 = .ok (.bipush 9, 2) := by decide +kernel
theorem dX7_readLineOf_92 : decode cX7_readLineOf 92 = .ok (.invokevirtual 162, 3) := by decide +kernel
theorem dX7_readLineOf_95 : decode cX7_readLineOf 95 = .ok (.iastore, 1) := by decide +kernel
theorem dX7_readLineOf_96 : decode cX7_readLineOf 96 = .ok (.aload_n 0, 1) := by decide +kernel
theorem dX7_readLineOf_97 : decode cX7_readLineOf 97 = .ok (.dup, 1) := by decide +kernel
theorem dX7_readLineOf_98 : decode cX7_readLineOf 98 = .ok (.getfield 87, 3) := by decide +kernel
theorem dX7_readLineOf_101 : decode cX7_readLineOf 101 = .ok (.iconst 1, 1) := by decide +kernel
theorem dX7_readLineOf_102 : decode cX7_readLineOf 102 = .ok (.iadd, 1) := by decide +kernel
theorem dX7_readLineOf_103 : decode cX7_readLineOf 103 = .ok (.putfield 87, 3) := by decide +kernel
theorem dX7_readLineOf_106 : decode cX7_readLineOf 106 = .ok (.goto 139, 3) := by decide +kernel
theorem dX7_readLineOf_109 : decode cX7_readLineOf 109 = .ok (.aload_n 0, 1) := by decide +kernel
theorem dX7_readLineOf_110 : decode cX7_readLineOf 110 = .ok (.getfield 50, 3) := by decide +kernel
theorem dX7_readLineOf_113 : decode cX7_readLineOf 113 = .ok (.aload_n 0, 1) := by decide +kernel
theorem dX7_readLineOf_114 : decode cX7_readLineOf 114 = .ok (.getfield 90, 3) := by decide +kernel
theorem dX7_readLineOf_117 : decode cX7_readLineOf 117 = .ok (.aload_n 0, 1) := by decide +kernel
theorem dX7_readLineOf_118 : decode cX7_readLineOf 118 = .ok (.invokevirtual 166, 3) := by decide +kernel
theorem dX7_readLineOf_121 : decode cX7_readLineOf 121 = .ok (.iastore, 1) := by decide +kernel
theorem dX7_readLineOf_122 : decode cX7_readLineOf 122 = .ok (.aload_n 0, 1) := by decide +kernel
theorem dX7_readLineOf_123 : decode cX7_readLineOf 123 = .ok (.getfield 53, 3) := by decide +kernel
theorem dX7_readLineOf_126 : decode cX7_readLineOf 126 = .ok (.aload_n 0, 1) := by decide +kernel
theorem dX7_readLineOf_127 : decode cX7_readLineOf 127 = .ok (.getfield 90, 3) := by decide +kernel
theorem dX7_readLineOf_130 : decode cX7_readLineOf 130 = .ok (.aload_n 0, 1) := by decide +kernel
theorem dX7_readLineOf_131 : decode cX7_readLineOf 131 = .ok (.iconst 0, 1) := by decide +kernel
theorem dX7_readLineOf_132 : decode cX7_readLineOf 132 = .ok (.bipush 9, 2) := by decide +kernel
theorem dX7_readLineOf_134 : decode cX7_readLineOf 134 = .ok (.invokevirtual 162, 3) := by decide +kernel
theorem dX7_readLineOf_137 : decode cX7_readLineOf 137 = .ok (.iastore, 1) := by decide +kernel
theorem dX7_readLineOf_138 : decode cX7_readLineOf 138 = .ok (.aload_n 0, 1) := by decide +kernel
theorem dX7_readLineOf_139 : decode cX7_readLineOf 139 = .ok (.getfield 56, 3) := by decide +kernel
theorem dX7_readLineOf_142 : decode cX7_readLineOf 142 = .ok (.aload_n 0, 1) := by decide +kernel
theorem dX7_readLineOf_143 : decode cX7_readLineOf 143 = .ok (.getfield 90, 3) := by decide +kernel
theorem dX7_readLineOf_146 : decode cX7_readLineOf 146 = .ok (.aload_n 0, 1) := by decide +kernel
theorem dX7_readLineOf_147 : decode cX7_readLineOf 147 = .ok (.iconst 0, 1) := by decide +kernel
theorem dX7_readLineOf_148 : decode cX7_readLineOf 148 = .ok (.bipush 30, 2) := by decide +kernel
theorem dX7_readLineOf_150 : decode cX7_readLineOf 150 = .ok (.invokevirtual 162, 3) := by decide +kernel
theorem dX7_readLineOf_153 : decode cX7_readLineOf 153 = .ok (.iastore, 1) := by decide +kernel
theorem dX7_readLineOf_154 : decode cX7_readLineOf 154 = .ok (.aload_n 0, 1) := by decide +kernel
theorem dX7_readLineOf_155 : decode cX7_readLineOf 155 = .ok (.dup, 1) := by decide +kernel
theorem dX7_readLineOf_156 : decode cX7_readLineOf 156 = .ok (.getfield 90, 3) := by decide +kernel
theorem dX7_readLineOf_159 : decode cX7_readLineOf 159 = .ok (.iconst 1, 1) := by decide +kernel
theorem dX7_readLineOf_160 : decode cX7_readLineOf 160 = .ok (.iadd, 1) := by decide +kernel
theorem dX7_readLineOf_161 : decode cX7_readLineOf 161 = .ok (.putfield 90, 3) := by decide +kernel
theorem dX7_readLineOf_164 : decode cX7_readLineOf 164 = .ok (.goto 81, 3) := by decide +kernel
theorem dX7_readLineOf_167 : decode cX7_readLineOf 167 = .ok (.aload_n 0, 1) := by decide +kernel
theorem dX7_readLineOf_168 : decode cX7_readLineOf 168 = .ok (.getfield 38, 3) := by decide +kernel
theorem dX7_readLineOf_171 : decode cX7_readLineOf 171 = .ok (.bipush 23, 2) := by decide +kernel
theorem dX7_readLineOf_173 : decode cX7_readLineOf 173 = .ok (.aload_n 0, 1) := by decide +kernel
theorem dX7_readLineOf_174 : decode cX7_readLineOf 174 = .ok (.iconst 0, 1) := by decide +kernel
theorem dX7_readLineOf_175 : decode cX7_readLineOf 175 = .ok (.bipush 9, 2) := by decide +kernel
theorem dX7_readLineOf_177 : decode cX7_readLineOf 177 = .ok (.invokevirtual 162, 3) := by decide +kernel
theorem dX7_readLineOf_180 : decode cX7_readLineOf 180 = .ok (.iastore, 1) := by decide +kernel
theorem dX7_readLineOf_181 : decode cX7_readLineOf 181 = .ok (.goto 64, 3) := by decide +kernel
theorem dX7_readLineOf_184 : decode cX7_readLineOf 184 = .ok (.aload_n 0, 1) := by decide +kernel
theorem dX7_readLineOf_185 : decode cX7_readLineOf 185 = .ok (.getfield 38, 3) := by decide +kernel
theorem dX7_readLineOf_188 : decode cX7_readLineOf 188 = .ok (.bipush 24, 2) := by decide +kernel
theorem dX7_readLineOf_190 : decode cX7_readLineOf 190 = .ok (.aload_n 0, 1) := by decide +kernel
theorem dX7_readLineOf_191 : decode cX7_readLineOf 191 = .ok (.iconst 0, 1) := by decide +kernel
theorem dX7_readLineOf_192 : decode cX7_readLineOf 192 = .ok (.bipush 99, 2) := by decide +kernel
theorem dX7_readLineOf_194 : decode cX7_readLineOf 194 = .ok (.invokevirtual 162, 3) := by decide +kernel
theorem dX7_readLineOf_197 : decode cX7_readLineOf 197 = .ok (.iastore, 1) := by decide +kernel
theorem dX7_readLineOf_198 : decode cX7_readLineOf 198 = .ok (.goto 47, 3) := by decide +kernel
theorem dX7_readLineOf_201 : decode cX7_readLineOf 201 = .ok (.aload_n 0, 1) := by decide +kernel
theorem dX7_readLineOf_202 : decode cX7_readLineOf 202 = .ok (.getfield 38, 3) := by decide +kernel
theorem dX7_readLineOf_205 : decode cX7_readLineOf 205 = .ok (.iconst 4, 1) := by decide +kernel
theorem dX7_readLineOf_206 : decode cX7_readLineOf 206 = .ok (.aload_n 0, 1) := by decide +kernel
theorem dX7_readLineOf_207 : decode cX7_readLineOf 207 = .ok (.getfield 83, 3) := by decide +kernel
theorem dX7_readLineOf_210 : decode cX7_readLineOf 210 = .ok (.imul, 1) := by decide +kernel
theorem dX7_readLineOf_211 : decode cX7_readLineOf 211 = .ok (.iconst 0, 1) := by decide +kernel
theorem dX7_readLineOf_212 : decode cX7_readLineOf 212 = .ok (.iadd, 1) := by decide +kernel
theorem dX7_readLineOf_213 : decode cX7_readLineOf 213 = .ok (.iload_n 1, 1) := by decide +kernel
theorem dX7_readLineOf_214 : decode cX7_readLineOf 214 = .ok (.iastore, 1) := by decide +kernel
theorem dX7_readLineOf_215 : decode cX7_readLineOf 215 = .ok (.aload_n 0, 1) := by decide +kernel
theorem dX7_readLineOf_216 : decode cX7_readLineOf 216 = .ok (.getfield 38, 3) := by decide +kernel
theorem dX7_readLineOf_219 : decode cX7_readLineOf 219 = .ok (.iconst 4, 1) := by decide +kernel
theorem dX7_readLineOf_220 : decode cX7_readLineOf 220 = .ok (.aload_n 0, 1) := by decide +kernel
theorem dX7_readLineOf_221 : decode cX7_readLineOf 221 = .ok (.getfield 83, 3) := by decide +kernel
theorem dX7_readLineOf_224 : decode cX7_readLineOf 224 = .ok (.imul, 1) := by decide +kernel
theorem dX7_readLineOf_225 : decode cX7_readLineOf 225 = .ok (.iconst 1, 1) := by decide +kernel
theorem dX7_readLineOf_226 : decode cX7_readLineOf 226 = .ok (.iadd, 1) := by decide +kernel
theorem dX7_readLineOf_227 : decode cX7_readLineOf 227 = .ok (.aload_n 0, 1) := by decide +kernel
theorem dX7_readLineOf_228 : decode cX7_readLineOf 228 = .ok (.iconst 0, 1) := by decide +kernel
theorem dX7_readLineOf_229 : decode cX7_readLineOf 229 = .ok (.bipush 99, 2) := by decide +kernel
theorem dX7_readLineOf_231 : decode cX7_readLineOf 231 = .ok (.invokevirtual 162, 3) := by decide +kernel
theorem dX7_readLineOf_234 : decode cX7_readLineOf 234 = .ok (.iastore, 1) := by decide +kernel
theorem dX7_readLineOf_235 : decode cX7_readLineOf 235 = .ok (.aload_n 0, 1) := by decide +kernel
theorem dX7_readLineOf_236 : decode cX7_readLineOf 236 = .ok (.dup, 1) := by decide +kernel
theorem dX7_readLineOf_237 : decode cX7_readLineOf 237 = .ok (.getfield 83, 3) := by decide +kernel
theorem dX7_readLineOf_240 : decode cX7_readLineOf 240 = .ok (.iconst 1, 1) := by decide +kernel
theorem dX7_readLineOf_241 : decode cX7_readLineOf 241 = .ok (.iadd, 1) := by decide +kernel
theorem dX7_readLineOf_242 : decode cX7_readLineOf 242 = .ok (.putfield 83, 3) := by decide +kernel
theorem dX7_readLineOf_245 : decode cX7_readLineOf 245 = .ok (.return_, 1) := by decide +kernel
set_option maxRecDepth 20000 in
theorem ggX7_readLine_X7_lineNow : GoodIn wsX7_readLine wsX7_lineNow := goodIn_r _ [12, 13, 14, 15, 11, 16, 17, 18, 19, 20, 21, 22, 23, 24, 25, 26, 27, 28, 66, 67, 68, 69, 70, 71, 72, 73, 74, 75, 76, 77, 78, 79, 80, 81, 82, 83, 84, 85, 86, 87, 88, 89, 90, 91, 92, 93, 94, 95, 96, 97, 98, 99, 100, 101, 102, 103, 104] (by decide +kernel) (by decide +kernel)
set_option maxRecDepth 20000 in
theorem gX7_readLine_X7_lineNow : GoodIn wsX7_readLine (wsV RX7 170 RX7 yX7_lineNow wsX7_lineNow) := goodIn_app (goodIn_of _ (by decide +kernel)) ggX7_readLine_X7_lineNow
set_option maxRecDepth 20000 in
theorem ggX7_readLine_X7_in : GoodIn wsX7_readLine wsX7_in := goodIn_r _ [31] (by decide +kernel) (by decide +kernel)
set_option maxRecDepth 20000 in
theorem gX7_readLine_X7_in : GoodIn wsX7_readLine (va_wsS RX7 110 yX7_in wsX7_in) := goodIn_app (goodIn_of _ (by decide +kernel)) ggX7_readLine_X7_in
set_option maxRecDepth 20000 in
theorem ggX7_readLine_X7_needs : GoodIn wsX7_readLine wsX7_needs := goodIn_r _ [35, 6, 18, 36, 66, 67, 68, 69, 70, 71, 72, 73, 74, 75, 76, 77, 78, 79, 80, 81, 82, 83, 84, 85, 86, 87, 88, 89, 90, 91, 92, 93, 94, 95, 96, 97, 98, 99, 100, 101, 102, 103, 104] (by decide +kernel) (by decide +kernel)
set_option maxRecDepth 20000 in
theorem gX7_readLine_X7_needs : GoodIn wsX7_readLine (wsV RX7 155 RX7 yX7_needs wsX7_needs) := goodIn_app (goodIn_of _ (by decide +kernel)) ggX7_readLine_X7_needs
set_option maxRecDepth 20000 in
theorem ggX7_readLine_X7_next : GoodIn wsX7_readLine wsX7_next := goodIn_r _ [40, 6, 17, 18, 1, 41, 42, 43, 44, 45, 19, 20, 21, 11, 22, 23, 24, 29, 30, 31, 32, 33, 34, 35, 36, 66, 67, 68, 69, 70, 71, 72, 73, 74, 75, 76, 77, 78, 79, 80, 81, 82, 83, 84, 85, 86, 87, 88, 89, 90, 91, 92, 93, 94, 95, 96, 97, 98, 99, 100, 101, 102, 103, 104] (by decide +kernel) (by decide +kernel)
set_option maxRecDepth 20000 in
theorem gX7_readLine_X7_next : GoodIn wsX7_readLine (wsV RX7 159 RX7 yX7_next wsX7_next) := goodIn_app (goodIn_of _ (by decide +kernel)) ggX7_readLine_X7_next
set_option maxRecDepth 20000 in
theorem ggX7_readLine_X7_readLineOf : GoodIn wsX7_readLine wsX7_readLineOf := goodIn_r _ [49, 50, 2, 51, 52, 53, 54, 3, 55, 56, 5, 57, 58, 59, 11, 60, 61, 62, 63, 64, 65, 6, 1, 45, 32, 33, 34, 35, 18, 36, 29, 30, 31, 37, 38, 39, 40, 17, 41, 42, 43, 44, 19, 20, 21, 22, 23, 24, 66, 67, 68, 69, 70, 71, 72, 73, 74, 75, 76, 77, 78, 79, 80, 81, 82, 83, 84, 85, 86, 87, 88, 89, 90, 91, 92, 93, 94, 95, 96, 97, 98, 99, 100, 101, 102, 103, 104] (by decide +kernel) (by decide +kernel)
set_option maxRecDepth 20000 in
theorem gX7_readLine_X7_readLineOf : GoodIn wsX7_readLine (wsV RX7 175 RX7 yX7_readLineOf wsX7_readLineOf) := goodIn_app (goodIn_of _ (by decide +kernel)) ggX7_readLine_X7_readLineOf
theorem dX7_readLine_0 : decode cX7_readLine 0 = .ok (.aload_n 0, 1) := by decide +kernel
theorem dX7_readLine_1 : decode cX7_readLine 1 = .ok (.getfield 141, 3) := by decide +kernel
theorem dX7_readLine_4 : decode cX7_readLine 4 = .ok (.iconst 1, 1) := by decide +kernel
theorem dX7_readLine_5 : decode cX7_readLine 5 = .ok (.if_icmp .ne 10, 3) := by decide +kernel
theorem dX7_readLine_8 : decode cX7_readLine 8 = .ok (.aload_n 0, 1) := by decide +kernel
theorem dX7_readLine_9 : decode cX7_readLine 9 = .ok (.invokevirtual 170, 3) := by decide +kernel
theorem dX7_readLine_12 : decode cX7_readLine 12 = .ok (.goto 5, 3) := by decide +kernel
theorem dX7_readLine_15 : decode cX7_readLine 15 = .ok (.bipush (-4), 2) := by decide +kernel
theorem dX7_readLine_17 : decode cX7_readLine 17 = .ok (.istore_n 1, 1) := by decide +kernel
theorem dX7_readLine_18 : decode cX7_readLine 18 = .ok (.iload_n 1, 1) := by decide +kernel
theorem dX7_readLine_19 : decode cX7_readLine 19 = .ok (.iconst 4, 1) := by decide +kernel
theorem dX7_readLine_20 : decode cX7_readLine 20 = .ok (.if_icmp .ne 20, 3) := by decide +kernel
theorem dX7_readLine_23 : decode cX7_readLine 23 = .ok (.aload_n 0, 1) := by decide +kernel
theorem dX7_readLine_24 : decode cX7_readLine 24 = .ok (.getfield 87, 3) := by decide +kernel
theorem dX7_readLine_27 : decode cX7_readLine 27 = .ok (.bipush 6, 2) := by decide +kernel
theorem dX7_readLine_29 : decode cX7_readLine 29 = .ok (.if_icmp .ne 7, 3) := by decide +kernel
theorem dX7_readLine_32 : decode cX7_readLine 32 = .ok (.iconst 1, 1) := by decide +kernel
theorem dX7_readLine_33 : decode cX7_readLine 33 = .ok (.goto 54, 3) := by decide +kernel
theorem dX7_readLine_36 : decode cX7_readLine 36 = .ok (.iconst 0, 1) := by decide +kernel
theorem dX7_readLine_37 : decode cX7_readLine 37 = .ok (.goto 50, 3) := by decide +kernel
theorem dX7_readLine_40 : decode cX7_readLine 40 = .ok (.iload_n 1, 1) := by decide +kernel
theorem dX7_readLine_41 : decode cX7_readLine 41 = .ok (.iconst 5, 1) := by decide +kernel
theorem dX7_readLine_42 : decode cX7_readLine 42 = .ok (.if_icmp .ne 20, 3) := by decide +kernel
theorem dX7_readLine_45 : decode cX7_readLine 45 = .ok (.aload_n 0, 1) := by decide +kernel
theorem dX7_readLine_46 : decode cX7_readLine 46 = .ok (.getfield 90, 3) := by decide +kernel
theorem dX7_readLine_49 : decode cX7_readLine 49 = .ok (.bipush 6, 2) := by decide +kernel
theorem dX7_readLine_51 : decode cX7_readLine 51 = .ok (.if_icmp .ne 7, 3) := by decide +kernel
theorem dX7_readLine_54 : decode cX7_readLine 54 = .ok (.iconst 1, 1) := by decide +kernel
theorem dX7_readLine_55 : decode cX7_readLine 55 = .ok (.goto 32, 3) := by decide +kernel
theorem dX7_readLine_58 : decode cX7_readLine 58 = .ok (.iconst 0, 1) := by decide +kernel
theorem dX7_readLine_59 : decode cX7_readLine 59 = .ok (.goto 28, 3) := by decide +kernel
theorem dX7_readLine_62 : decode cX7_readLine 62 = .ok (.iload_n 1, 1) := by decide +kernel
theorem dX7_readLine_63 : decode cX7_readLine 63 = .ok (.i2l, 1) := by decide +kernel
theorem dX7_readLine_64 : decode cX7_readLine 64 = .ok (.lconst 0, 1) := by decide +kernel
theorem dX7_readLine_65 : decode cX7_readLine 65 = .ok (.ldc2_w 173, 3) := by decide +kernel
theorem dX7_readLine_68 : decode cX7_readLine 68 = .ok (.invokestatic 110, 3) := by decide +kernel
theorem dX7_readLine_71 : decode cX7_readLine 71 = .ok (.ifCond .eq 15, 3) := by decide +kernel
theorem dX7_readLine_74 : decode cX7_readLine 74 = .ok (.aload_n 0, 1) := by decide +kernel
theorem dX7_readLine_75 : decode cX7_readLine 75 = .ok (.getfield 83, 3) := by decide +kernel
theorem dX7_readLine_78 : decode cX7_readLine 78 = .ok (.iconst 4, 1) := by decide +kernel
theorem dX7_readLine_79 : decode cX7_readLine 79 = .ok (.if_icmp .ne 7, 3) := by decide +kernel
theorem dX7_readLine_82 : decode cX7_readLine 82 = .ok (.iconst 1, 1) := by decide +kernel
theorem dX7_readLine_83 : decode cX7_readLine 83 = .ok (.goto 4, 3) := by decide +kernel
theorem dX7_readLine_86 : decode cX7_readLine 86 = .ok (.iconst 0, 1) := by decide +kernel
theorem dX7_readLine_87 : decode cX7_readLine 87 = .ok (.istore_n 2, 1) := by decide +kernel
theorem dX7_readLine_88 : decode cX7_readLine 88 = .ok (.aload_n 0, 1) := by decide +kernel
theorem dX7_readLine_89 : decode cX7_readLine 89 = .ok (.iload_n 1, 1) := by decide +kernel
theorem dX7_readLine_90 : decode cX7_readLine 90 = .ok (.bipush (-4), 2) := by decide +kernel
theorem dX7_readLine_92 : decode cX7_readLine 92 = .ok (.if_icmp .eq 7, 3) := by decide +kernel
theorem dX7_readLine_95 : decode cX7_readLine 95 = .ok (.iconst 1, 1) := by decide +kernel
theorem dX7_readLine_96 : decode cX7_readLine 96 = .ok (.goto 4, 3) := by decide +kernel
theorem dX7_readLine_99 : decode cX7_readLine 99 = .ok (.iconst 0, 1) := by decide +kernel
theorem dX7_readLine_100 : decode cX7_readLine 100 = .ok (.iconst 2, 1) := by decide +kernel
theorem dX7_readLine_101 : decode cX7_readLine 101 = .ok (.invokevirtual 155, 3) := by decide +kernel
theorem dX7_readLine_104 : decode cX7_readLine 104 = .ok (.aload_n 0, 1) := by decide +kernel
theorem dX7_readLine_105 : decode cX7_readLine 105 = .ok (.iload_n 2, 1) := by decide +kernel
theorem dX7_readLine_106 : decode cX7_readLine 106 = .ok (.ifCond .ne 7, 3) := by decide +kernel
theorem dX7_readLine_109 : decode cX7_readLine 109 = .ok (.iconst 1, 1) := by decide +kernel
theorem dX7_readLine_110 : decode cX7_readLine 110 = .ok (.goto 4, 3) := by decide +kernel
theorem dX7_readLine_113 : decode cX7_readLine 113 = .ok (.iconst 0, 1) := by decide +kernel
theorem dX7_readLine_114 : decode cX7_readLine 114 = .ok (.iconst 5, 1) := by decide +kernel
theorem dX7_readLine_115 : decode cX7_readLine 115 = .ok (.invokevirtual 155, 3) := by decide +kernel
theorem dX7_readLine_118 : decode cX7_readLine 118 = .ok (.aload_n 0, 1) := by decide +kernel
theorem dX7_readLine_119 : decode cX7_readLine 119 = .ok (.getfield 117, 3) := by decide +kernel
theorem dX7_readLine_122 : decode cX7_readLine 122 = .ok (.ifCond .ne 42, 3) := by decide +kernel
theorem dX7_readLine_125 : decode cX7_readLine 125 = .ok (.iload_n 1, 1) := by decide +kernel
theorem dX7_readLine_126 : decode cX7_readLine 126 = .ok (.bipush 6, 2) := by decide +kernel
theorem dX7_readLine_128 : decode cX7_readLine 128 = .ok (.if_icmp .lt 36, 3) := by decide +kernel
theorem dX7_readLine_131 : decode cX7_readLine 131 = .ok (.aload_n 0, 1) := by decide +kernel
theorem dX7_readLine_132 : decode cX7_readLine 132 = .ok (.aload_n 0, 1) := by decide +kernel
theorem dX7_readLine_133 : decode cX7_readLine 133 = .ok (.getfield 93, 3) := by decide +kernel
theorem dX7_readLine_136 : decode cX7_readLine 136 = .ok (.iload_n 1, 1) := by decide +kernel
theorem dX7_readLine_137 : decode cX7_readLine 137 = .ok (.ishr, 1) := by decide +kernel
theorem dX7_readLine_138 : decode cX7_readLine 138 = .ok (.iconst 1, 1) := by decide +kernel
theorem dX7_readLine_139 : decode cX7_readLine 139 = .ok (.iand, 1) := by decide +kernel
theorem dX7_readLine_140 : decode cX7_readLine 140 = .ok (.ifCond .ne 7, 3) := by decide +kernel
theorem dX7_readLine_143 : decode cX7_readLine 143 = .ok (.iconst 1, 1) := by decide +kernel
theorem dX7_readLine_144 : decode cX7_readLine 144 = .ok (.goto 4, 3) := by decide +kernel
theorem dX7_readLine_147 : decode cX7_readLine 147 = .ok (.iconst 0, 1) := by decide +kernel
theorem dX7_readLine_148 : decode cX7_readLine 148 = .ok (.iconst 4, 1) := by decide +kernel
theorem dX7_readLine_149 : decode cX7_readLine 149 = .ok (.invokevirtual 155, 3) := by decide +kernel
theorem dX7_readLine_152 : decode cX7_readLine 152 = .ok (.aload_n 0, 1) := by decide +kernel
theorem dX7_readLine_153 : decode cX7_readLine 153 = .ok (.dup, 1) := by decide +kernel
theorem dX7_readLine_154 : decode cX7_readLine 154 = .ok (.getfield 93, 3) := by decide +kernel
theorem dX7_readLine_157 : decode cX7_readLine 157 = .ok (.iconst 1, 1) := by decide +kernel
theorem dX7_readLine_158 : decode cX7_readLine 158 = .ok (.iload_n 1, 1) := by decide +kernel
theorem dX7_readLine_159 : decode cX7_readLine 159 = .ok (.ishl, 1) := by decide +kernel
theorem dX7_readLine_160 : decode cX7_readLine 160 = .ok (.ior, 1) := by decide +kernel
theorem dX7_readLine_161 : decode cX7_readLine 161 = .ok (.putfield 93, 3) := by decide +kernel
theorem dX7_readLine_164 : decode cX7_readLine 164 = .ok (.aload_n 0, 1) := by decide +kernel
theorem dX7_readLine_165 : decode cX7_readLine 165 = .ok (.invokevirtual 159, 3) := by decide +kernel
theorem dX7_readLine_168 : decode cX7_readLine 168 = .ok (.aload_n 0, 1) := by decide +kernel
theorem dX7_readLine_169 : decode cX7_readLine 169 = .ok (.getfield 117, 3) := by decide +kernel
theorem dX7_readLine_172 : decode cX7_readLine 172 = .ok (.ifCond .le 4, 3) := by decide +kernel
theorem dX7_readLine_175 : decode cX7_readLine 175 = .ok (.return_, 1) := by decide +kernel
theorem dX7_readLine_176 : decode cX7_readLine 176 = .ok (.aload_n 0, 1) := by decide +kernel
theorem dX7_readLine_177 : decode cX7_readLine 177 = .ok (.iload_n 1, 1) := by decide +kernel
theorem dX7_readLine_178 : decode cX7_readLine 178 = .ok (.invokevirtual 175, 3) := by decide +kernel
theorem dX7_readLine_181 : decode cX7_readLine 181 = .ok (.aload_n 0, 1) := by decide +kernel
theorem dX7_readLine_182 : decode cX7_readLine 182 = .ok (.getfield 117, 3) := by decide +kernel
theorem dX7_readLine_185 : decode cX7_readLine 185 = .ok (.ifCond .ne 21, 3) := by decide +kernel
theorem dX7_readLine_188 : decode cX7_readLine 188 = .ok (.aload_n 0, 1) := by decide +kernel
theorem dX7_readLine_189 : decode cX7_readLine 189 = .ok (.aload_n 0, 1) := by decide +kernel
theorem dX7_readLine_190 : decode cX7_readLine 190 = .ok (.getfield 141, 3) := by decide +kernel
theorem dX7_readLine_193 : decode cX7_readLine 193 = .ok (.iconst 3, 1) := by decide +kernel
theorem dX7_readLine_194 : decode cX7_readLine 194 = .ok (.if_icmp .ne 7, 3) := by decide +kernel
theorem dX7_readLine_197 : decode cX7_readLine 197 = .ok (.iconst 1, 1) := by decide +kernel
theorem dX7_readLine_198 : decode cX7_readLine 198 = .ok (.goto 4, 3) := by decide +kernel
theorem dX7_readLine_201 : decode cX7_readLine 201 = .ok (.iconst 0, 1) := by decide +kernel
theorem dX7_readLine_202 : decode cX7_readLine 202 = .ok (.iconst 2, 1) := by decide +kernel
theorem dX7_readLine_203 : decode cX7_readLine 203 = .ok (.invokevirtual 155, 3) := by decide +kernel
theorem dX7_readLine_206 : decode cX7_readLine 206 = .ok (.aload_n 0, 1) := by decide +kernel
theorem dX7_readLine_207 : decode cX7_readLine 207 = .ok (.invokevirtual 159, 3) := by decide +kernel
theorem dX7_readLine_210 : decode cX7_readLine 210 = .ok (.return_, 1) := by decide +kernel
set_option maxRecDepth 20000 in
theorem ggX7_text_X7_firstDraft : GoodIn wsX7_text wsX7_firstDraft := goodIn_r _ [12, 13, 5, 14, 15, 16, 4, 89, 90, 91, 92, 93, 94, 95, 96, 97, 98, 99, 100, 101, 102, 103, 104, 105, 106, 107, 108, 109, 110, 111, 112, 113, 114, 115, 116, 117, 118, 119, 120, 121, 122, 123, 124, 125, 126, 127] (by decide +kernel) (by decide +kernel)
set_option maxRecDepth 20000 in
theorem gX7_text_X7_firstDraft : GoodIn wsX7_text (wsV RX7 77 RX7 yX7_firstDraft wsX7_firstDraft) := goodIn_app (goodIn_of _ (by decide +kernel)) ggX7_text_X7_firstDraft
set_option maxRecDepth 20000 in
theorem ggX7_text_X7_next : GoodIn wsX7_text wsX7_next := goodIn_r _ [20, 1, 2, 21, 3, 22, 23, 24, 25, 26, 27, 28, 29, 11, 30, 6, 31, 32, 33, 34, 35, 36, 37, 38, 7, 89, 90, 91, 92, 93, 94, 95, 96, 97, 98, 99, 100, 101, 102, 103, 104, 105, 106, 107, 108, 109, 110, 111, 112, 113, 114, 115, 116, 117, 118, 119, 120, 121, 122, 123, 124, 125, 126, 127] (by decide +kernel) (by decide +kernel)
set_option maxRecDepth 20000 in
theorem gX7_text_X7_next : GoodIn wsX7_text (wsV RX7 159 RX7 yX7_next wsX7_next) := goodIn_app (goodIn_of _ (by decide +kernel)) ggX7_text_X7_next
set_option maxRecDepth 20000 in
theorem ggX7_text_X7_readLine : GoodIn wsX7_text wsX7_readLine := goodIn_r _ [42, 3, 14, 15, 43, 5, 1, 16, 44, 45, 46, 11, 47, 48, 49, 50, 51, 2, 21, 27, 28, 29, 30, 6, 31, 52, 53, 54, 55, 32, 33, 34, 35, 36, 37, 38, 7, 17, 18, 19, 20, 22, 23, 24, 25, 26, 56, 57, 58, 59, 60, 61, 62, 13, 63, 64, 65, 66, 67, 68, 69, 4, 70, 71, 72, 73, 89, 90, 91, 92, 93, 94, 95, 96, 97, 98, 99, 100, 101, 102, 103, 104, 105, 106, 107, 108, 109, 110, 111, 112, 113, 114, 115, 116, 117, 118, 119, 120, 121, 122, 123, 124, 125, 126, 127] (by decide +kernel) (by decide +kernel)
set_option maxRecDepth 20000 in
theorem gX7_text_X7_readLine : GoodIn wsX7_text (wsV RX7 179 RX7 yX7_readLine wsX7_readLine) := goodIn_app (goodIn_of _ (by decide +kernel)) ggX7_text_X7_readLine
set_option maxRecDepth 20000 in
theorem ggX7_text_X7_needs : GoodIn wsX7_text wsX7_needs := goodIn_r _ [38, 1, 21, 7, 89, 90, 91, 92, 93, 94, 95, 96, 97, 98, 99, 100, 101, 102, 103, 104, 105, 106, 107, 108, 109, 110, 111, 112, 113, 114, 115, 116, 117, 118, 119, 120, 121, 122, 123, 124, 125, 126, 127] (by decide +kernel) (by decide +kernel)
set_option maxRecDepth 20000 in
theorem gX7_text_X7_needs : GoodIn wsX7_text (wsV RX7 155 RX7 yX7_needs wsX7_needs) := goodIn_app (goodIn_of _ (by decide +kernel)) ggX7_text_X7_needs
set_option maxRecDepth 20000 in
theorem ggX7_text_X7_keepDraft : GoodIn wsX7_text wsX7_keepDraft := goodIn_r _ [77, 78, 13, 5, 79, 14, 80, 15, 81, 82, 60, 83, 61, 84, 62, 85, 63, 86, 64, 87, 65, 88, 89, 90, 91, 92, 93, 94, 95, 96, 97, 98, 99, 100, 101, 102, 103, 104, 105, 106, 107, 108, 109, 110, 111, 112, 113, 114, 115, 116, 117, 118, 119, 120, 121, 122, 123, 124, 125, 126, 127] (by decide +kernel) (by decide +kernel)
set_option maxRecDepth 20000 in
theorem gX7_text_X7_keepDraft : GoodIn wsX7_text (wsV RX7 80 RX7 yX7_keepDraft wsX7_keepDraft) := goodIn_app (goodIn_of _ (by decide +kernel)) ggX7_text_X7_keepDraft
theorem dX7_text_0 : decode cX7_text 0 = .ok (.iconst 0, 1) := by decide +kernel
theorem dX7_text_1 : decode cX7_text 1 = .ok (.istore_n 1, 1) := by decide +kernel
theorem dX7_text_2 : decode cX7_text 2 = .ok (.aload_n 0, 1) := by decide +kernel
theorem dX7_text_3 : decode cX7_text 3 = .ok (.iconst 0, 1) := by decide +kernel
theorem dX7_text_4 : decode cX7_text 4 = .ok (.putfield 117, 3) := by decide +kernel
theorem dX7_text_7 : decode cX7_text 7 = .ok (.aload_n 0, 1) := by decide +kernel
theorem dX7_text_8 : decode cX7_text 8 = .ok (.iconst 0, 1) := by decide +kernel
theorem dX7_text_9 : decode cX7_text 9 = .ok (.putfield 126, 3) := by decide +kernel
theorem dX7_text_12 : decode cX7_text 12 = .ok (.aload_n 0, 1) := by decide +kernel
theorem dX7_text_13 : decode cX7_text 13 = .ok (.invokevirtual 77, 3) := by decide +kernel
theorem dX7_text_16 : decode cX7_text 16 = .ok (.aload_n 0, 1) := by decide +kernel
theorem dX7_text_17 : decode cX7_text 17 = .ok (.invokevirtual 159, 3) := by decide +kernel
theorem dX7_text_20 : decode cX7_text 20 = .ok (.aload_n 0, 1) := by decide +kernel
theorem dX7_text_21 : decode cX7_text 21 = .ok (.getfield 117, 3) := by decide +kernel
theorem dX7_text_24 : decode cX7_text 24 = .ok (.ifCond .ne 20, 3) := by decide +kernel
theorem dX7_text_27 : decode cX7_text 27 = .ok (.aload_n 0, 1) := by decide +kernel
theorem dX7_text_28 : decode cX7_text 28 = .ok (.getfield 141, 3) := by decide +kernel
theorem dX7_text_31 : decode cX7_text 31 = .ok (.ifCond .eq 13, 3) := by decide +kernel
theorem dX7_text_34 : decode cX7_text 34 = .ok (.aload_n 0, 1) := by decide +kernel
theorem dX7_text_35 : decode cX7_text 35 = .ok (.invokevirtual 179, 3) := by decide +kernel
theorem dX7_text_38 : decode cX7_text 38 = .ok (.iinc 1 1, 3) := by decide +kernel
theorem dX7_text_41 : decode cX7_text 41 = .ok (.goto (-21), 3) := by decide +kernel
theorem dX7_text_44 : decode cX7_text 44 = .ok (.aload_n 0, 1) := by decide +kernel
theorem dX7_text_45 : decode cX7_text 45 = .ok (.getfield 117, 3) := by decide +kernel
theorem dX7_text_48 : decode cX7_text 48 = .ok (.ifCond .ne 25, 3) := by decide +kernel
theorem dX7_text_51 : decode cX7_text 51 = .ok (.aload_n 0, 1) := by decide +kernel
theorem dX7_text_52 : decode cX7_text 52 = .ok (.aload_n 0, 1) := by decide +kernel
theorem dX7_text_53 : decode cX7_text 53 = .ok (.getfield 96, 3) := by decide +kernel
theorem dX7_text_56 : decode cX7_text 56 = .ok (.aload_n 0, 1) := by decide +kernel
theorem dX7_text_57 : decode cX7_text 57 = .ok (.getfield 83, 3) := by decide +kernel
theorem dX7_text_60 : decode cX7_text 60 = .ok (.if_icmp .ge 7, 3) := by decide +kernel
theorem dX7_text_63 : decode cX7_text 63 = .ok (.iconst 1, 1) := by decide +kernel
theorem dX7_text_64 : decode cX7_text 64 = .ok (.goto 4, 3) := by decide +kernel
theorem dX7_text_67 : decode cX7_text 67 = .ok (.iconst 0, 1) := by decide +kernel
theorem dX7_text_68 : decode cX7_text 68 = .ok (.bipush 6, 2) := by decide +kernel
theorem dX7_text_70 : decode cX7_text 70 = .ok (.invokevirtual 155, 3) := by decide +kernel
theorem dX7_text_73 : decode cX7_text 73 = .ok (.aload_n 0, 1) := by decide +kernel
theorem dX7_text_74 : decode cX7_text 74 = .ok (.iconst 0, 1) := by decide +kernel
theorem dX7_text_75 : decode cX7_text 75 = .ok (.putfield 114, 3) := by decide +kernel
theorem dX7_text_78 : decode cX7_text 78 = .ok (.aload_n 0, 1) := by decide +kernel
theorem dX7_text_79 : decode cX7_text 79 = .ok (.getfield 117, 3) := by decide +kernel
theorem dX7_text_82 : decode cX7_text 82 = .ok (.ifCond .le 11, 3) := by decide +kernel
theorem dX7_text_85 : decode cX7_text 85 = .ok (.bipush (-10), 2) := by decide +kernel
theorem dX7_text_87 : decode cX7_text 87 = .ok (.aload_n 0, 1) := by decide +kernel
theorem dX7_text_88 : decode cX7_text 88 = .ok (.getfield 123, 3) := by decide +kernel
theorem dX7_text_91 : decode cX7_text 91 = .ok (.isub, 1) := by decide +kernel
theorem dX7_text_92 : decode cX7_text 92 = .ok (.ireturn, 1) := by decide +kernel
theorem dX7_text_93 : decode cX7_text 93 = .ok (.aload_n 0, 1) := by decide +kernel
theorem dX7_text_94 : decode cX7_text 94 = .ok (.invokevirtual 80, 3) := by decide +kernel
theorem dX7_text_97 : decode cX7_text 97 = .ok (.iload_n 1, 1) := by decide +kernel
theorem dX7_text_98 : decode cX7_text 98 = .ok (.ireturn, 1) := by decide +kernel
theorem dX7_fault_0 : decode cX7_fault 0 = .ok (.aload_n 0, 1) := by decide +kernel
theorem dX7_fault_1 : decode cX7_fault 1 = .ok (.getfield 117, 3) := by decide +kernel
theorem dX7_fault_4 : decode cX7_fault 4 = .ok (.ireturn, 1) := by decide +kernel
set_option maxRecDepth 20000 in
theorem ggX7_isOne_X7_in : GoodIn wsX7_isOne wsX7_in := goodIn_r _ [5] (by decide +kernel) (by decide +kernel)
set_option maxRecDepth 20000 in
theorem gX7_isOne_X7_in : GoodIn wsX7_isOne (va_wsS RX7 110 yX7_in wsX7_in) := goodIn_app (goodIn_of _ (by decide +kernel)) ggX7_isOne_X7_in
theorem dX7_isOne_0 : decode cX7_isOne 0 = .ok (.iload_n 1, 1) := by decide +kernel
theorem dX7_isOne_1 : decode cX7_isOne 1 = .ok (.i2l, 1) := by decide +kernel
theorem dX7_isOne_2 : decode cX7_isOne 2 = .ok (.lconst 0, 1) := by decide +kernel
theorem dX7_isOne_3 : decode cX7_isOne 3 = .ok (.aload_n 0, 1) := by decide +kernel
theorem dX7_isOne_4 : decode cX7_isOne 4 = .ok (.getfield 99, 3) := by decide +kernel
theorem dX7_isOne_7 : decode cX7_isOne 7 = .ok (.iconst 1, 1) := by decide +kernel
theorem dX7_isOne_8 : decode cX7_isOne 8 = .ok (.isub, 1) := by decide +kernel
theorem dX7_isOne_9 : decode cX7_isOne 9 = .ok (.i2l, 1) := by decide +kernel
theorem dX7_isOne_10 : decode cX7_isOne 10 = .ok (.invokestatic 110, 3) := by decide +kernel
theorem dX7_isOne_13 : decode cX7_isOne 13 = .ok (.ireturn, 1) := by decide +kernel
set_option maxRecDepth 20000 in
theorem ggX7_isTrip_X7_in : GoodIn wsX7_isTrip wsX7_in := goodIn_r _ [5] (by decide +kernel) (by decide +kernel)
set_option maxRecDepth 20000 in
theorem gX7_isTrip_X7_in : GoodIn wsX7_isTrip (va_wsS RX7 110 yX7_in wsX7_in) := goodIn_app (goodIn_of _ (by decide +kernel)) ggX7_isTrip_X7_in
theorem dX7_isTrip_0 : decode cX7_isTrip 0 = .ok (.iload_n 1, 1) := by decide +kernel
theorem dX7_isTrip_1 : decode cX7_isTrip 1 = .ok (.i2l, 1) := by decide +kernel
theorem dX7_isTrip_2 : decode cX7_isTrip 2 = .ok (.lconst 0, 1) := by decide +kernel
theorem dX7_isTrip_3 : decode cX7_isTrip 3 = .ok (.aload_n 0, 1) := by decide +kernel
theorem dX7_isTrip_4 : decode cX7_isTrip 4 = .ok (.getfield 102, 3) := by decide +kernel
theorem dX7_isTrip_7 : decode cX7_isTrip 7 = .ok (.iconst 1, 1) := by decide +kernel
theorem dX7_isTrip_8 : decode cX7_isTrip 8 = .ok (.isub, 1) := by decide +kernel
theorem dX7_isTrip_9 : decode cX7_isTrip 9 = .ok (.i2l, 1) := by decide +kernel
theorem dX7_isTrip_10 : decode cX7_isTrip 10 = .ok (.invokestatic 110, 3) := by decide +kernel
theorem dX7_isTrip_13 : decode cX7_isTrip 13 = .ok (.ireturn, 1) := by decide +kernel
set_option maxRecDepth 20000 in
theorem ggX7_isPart_X7_in : GoodIn wsX7_isPart wsX7_in := goodIn_r _ [4] (by decide +kernel) (by decide +kernel)
set_option maxRecDepth 20000 in
theorem gX7_isPart_X7_in : GoodIn wsX7_isPart (va_wsS RX7 110 yX7_in wsX7_in) := goodIn_app (goodIn_of _ (by decide +kernel)) ggX7_isPart_X7_in
theorem dX7_isPart_0 : decode cX7_isPart 0 = .ok (.iload_n 0, 1) := by decide +kernel
theorem dX7_isPart_1 : decode cX7_isPart 1 = .ok (.i2l, 1) := by decide +kernel
theorem dX7_isPart_2 : decode cX7_isPart 2 = .ok (.lconst 0, 1) := by decide +kernel
theorem dX7_isPart_3 : decode cX7_isPart 3 = .ok (.lconst 1, 1) := by decide +kernel
theorem dX7_isPart_4 : decode cX7_isPart 4 = .ok (.invokestatic 110, 3) := by decide +kernel
theorem dX7_isPart_7 : decode cX7_isPart 7 = .ok (.ireturn, 1) := by decide +kernel
theorem dX7_starts_0 : decode cX7_starts 0 = .ok (.iconst 0, 1) := by decide +kernel
theorem dX7_starts_1 : decode cX7_starts 1 = .ok (.istore_n 1, 1) := by decide +kernel
theorem dX7_starts_2 : decode cX7_starts 2 = .ok (.iload_n 1, 1) := by decide +kernel
theorem dX7_starts_3 : decode cX7_starts 3 = .ok (.bipush 45, 2) := by decide +kernel
theorem dX7_starts_5 : decode cX7_starts 5 = .ok (.if_icmp .ge 21, 3) := by decide +kernel
theorem dX7_starts_8 : decode cX7_starts 8 = .ok (.aload_n 0, 1) := by decide +kernel
theorem dX7_starts_9 : decode cX7_starts 9 = .ok (.getfield 13, 3) := by decide +kernel
theorem dX7_starts_12 : decode cX7_starts 12 = .ok (.iload_n 1, 1) := by decide +kernel
theorem dX7_starts_13 : decode cX7_starts 13 = .ok (.aload_n 0, 1) := by decide +kernel
theorem dX7_starts_14 : decode cX7_starts 14 = .ok (.getfield 7, 3) := by decide +kernel
theorem dX7_starts_17 : decode cX7_starts 17 = .ok (.iload_n 1, 1) := by decide +kernel
theorem dX7_starts_18 : decode cX7_starts 18 = .ok (.iaload, 1) := by decide +kernel
theorem dX7_starts_19 : decode cX7_starts 19 = .ok (.iastore, 1) := by decide +kernel
theorem dX7_starts_20 : decode cX7_starts 20 = .ok (.iinc 1 1, 3) := by decide +kernel
theorem dX7_starts_23 : decode cX7_starts 23 = .ok (.goto (-21), 3) := by decide +kernel
theorem dX7_starts_26 : decode cX7_starts 26 = .ok (.return_, 1) := by decide +kernel
theorem dX7_of_0 : decode cX7_of 0 = .ok (.aload_n 0, 1) := by decide +kernel
theorem dX7_of_1 : decode cX7_of 1 = .ok (.getfield 13, 3) := by decide +kernel
theorem dX7_of_4 : decode cX7_of 4 = .ok (.iconst 4, 1) := by decide +kernel
theorem dX7_of_5 : decode cX7_of 5 = .ok (.iload_n 1, 1) := by decide +kernel
theorem dX7_of_6 : decode cX7_of 6 = .ok (.imul, 1) := by decide +kernel
theorem dX7_of_7 : decode cX7_of 7 = .ok (.iload_n 2, 1) := by decide +kernel
theorem dX7_of_8 : decode cX7_of 8 = .ok (.iadd, 1) := by decide +kernel
theorem dX7_of_9 : decode cX7_of 9 = .ok (.iaload, 1) := by decide +kernel
theorem dX7_of_10 : decode cX7_of 10 = .ok (.ireturn, 1) := by decide +kernel
theorem dX7_more_0 : decode cX7_more 0 = .ok (.aload_n 0, 1) := by decide +kernel
theorem dX7_more_1 : decode cX7_more 1 = .ok (.getfield 13, 3) := by decide +kernel
theorem dX7_more_4 : decode cX7_more 4 = .ok (.iconst 4, 1) := by decide +kernel
theorem dX7_more_5 : decode cX7_more 5 = .ok (.iload_n 1, 1) := by decide +kernel
theorem dX7_more_6 : decode cX7_more 6 = .ok (.imul, 1) := by decide +kernel
theorem dX7_more_7 : decode cX7_more 7 = .ok (.iload_n 2, 1) := by decide +kernel
theorem dX7_more_8 : decode cX7_more 8 = .ok (.iadd, 1) := by decide +kernel
theorem dX7_more_9 : decode cX7_more 9 = .ok (.iaload, 1) := by decide +kernel
theorem dX7_more_10 : decode cX7_more 10 = .ok (.iload_n 3, 1) := by decide +kernel
theorem dX7_more_11 : decode cX7_more 11 = .ok (.iadd, 1) := by decide +kernel
theorem dX7_more_12 : decode cX7_more 12 = .ok (.istore 4, 2) := by decide +kernel
theorem dX7_more_14 : decode cX7_more 14 = .ok (.aload_n 0, 1) := by decide +kernel
theorem dX7_more_15 : decode cX7_more 15 = .ok (.getfield 13, 3) := by decide +kernel
theorem dX7_more_18 : decode cX7_more 18 = .ok (.iconst 4, 1) := by decide +kernel
theorem dX7_more_19 : decode cX7_more 19 = .ok (.iload_n 1, 1) := by decide +kernel
theorem dX7_more_20 : decode cX7_more 20 = .ok (.imul, 1) := by decide +kernel
theorem dX7_more_21 : decode cX7_more 21 = .ok (.iload_n 2, 1) := by decide +kernel
theorem dX7_more_22 : decode cX7_more 22 = .ok (.iadd, 1) := by decide +kernel
theorem dX7_more_23 : decode cX7_more 23 = .ok (.iload 4, 2) := by decide +kernel
theorem dX7_more_25 : decode cX7_more 25 = .ok (.sipush 999, 3) := by decide +kernel
theorem dX7_more_28 : decode cX7_more 28 = .ok (.if_icmp .le 9, 3) := by decide +kernel
theorem dX7_more_31 : decode cX7_more 31 = .ok (.sipush 999, 3) := by decide +kernel
theorem dX7_more_34 : decode cX7_more 34 = .ok (.goto 5, 3) := by decide +kernel
theorem dX7_more_37 : decode cX7_more 37 = .ok (.iload 4, 2) := by decide +kernel
theorem dX7_more_39 : decode cX7_more 39 = .ok (.iastore, 1) := by decide +kernel
theorem dX7_more_40 : decode cX7_more 40 = .ok (.return_, 1) := by decide +kernel
set_option maxRecDepth 20000 in
theorem ggX7_blushOf_X7_of : GoodIn wsX7_blushOf wsX7_of := goodIn_r _ [8, 2, 9, 10, 11, 12, 13, 14, 15, 16, 17, 18, 19, 20, 21, 22, 23, 24, 25, 26, 27, 28, 29, 30, 31, 32, 33, 34, 35, 36, 37, 38, 39, 40, 41, 42, 43, 44, 45, 46, 47] (by decide +kernel) (by decide +kernel)
set_option maxRecDepth 20000 in
theorem gX7_blushOf_X7_of : GoodIn wsX7_blushOf (wsV RX7 182 RX7 yX7_of wsX7_of) := goodIn_app (goodIn_of _ (by decide +kernel)) ggX7_blushOf_X7_of
theorem dX7_blushOf_0 : decode cX7_blushOf 0 = .ok (.aload_n 0, 1) := by decide +kernel
theorem dX7_blushOf_1 : decode cX7_blushOf 1 = .ok (.getfield 26, 3) := by decide +kernel
theorem dX7_blushOf_4 : decode cX7_blushOf 4 = .ok (.iload_n 1, 1) := by decide +kernel
theorem dX7_blushOf_5 : decode cX7_blushOf 5 = .ok (.iaload, 1) := by decide +kernel
theorem dX7_blushOf_6 : decode cX7_blushOf 6 = .ok (.aload_n 0, 1) := by decide +kernel
theorem dX7_blushOf_7 : decode cX7_blushOf 7 = .ok (.getfield 13, 3) := by decide +kernel
theorem dX7_blushOf_10 : decode cX7_blushOf 10 = .ok (.bipush 16, 2) := by decide +kernel
theorem dX7_blushOf_12 : decode cX7_blushOf 12 = .ok (.iload_n 1, 1) := by decide +kernel
theorem dX7_blushOf_13 : decode cX7_blushOf 13 = .ok (.iadd, 1) := by decide +kernel
theorem dX7_blushOf_14 : decode cX7_blushOf 14 = .ok (.iaload, 1) := by decide +kernel
theorem dX7_blushOf_15 : decode cX7_blushOf 15 = .ok (.iadd, 1) := by decide +kernel
theorem dX7_blushOf_16 : decode cX7_blushOf 16 = .ok (.istore_n 2, 1) := by decide +kernel
theorem dX7_blushOf_17 : decode cX7_blushOf 17 = .ok (.aload_n 0, 1) := by decide +kernel
theorem dX7_blushOf_18 : decode cX7_blushOf 18 = .ok (.aload_n 0, 1) := by decide +kernel
theorem dX7_blushOf_19 : decode cX7_blushOf 19 = .ok (.getfield 20, 3) := by decide +kernel
theorem dX7_blushOf_22 : decode cX7_blushOf 22 = .ok (.iload_n 1, 1) := by decide +kernel
theorem dX7_blushOf_23 : decode cX7_blushOf 23 = .ok (.iaload, 1) := by decide +kernel
theorem dX7_blushOf_24 : decode cX7_blushOf 24 = .ok (.iconst 0, 1) := by decide +kernel
theorem dX7_blushOf_25 : decode cX7_blushOf 25 = .ok (.invokevirtual 182, 3) := by decide +kernel
theorem dX7_blushOf_28 : decode cX7_blushOf 28 = .ok (.istore_n 3, 1) := by decide +kernel
theorem dX7_blushOf_29 : decode cX7_blushOf 29 = .ok (.iload_n 3, 1) := by decide +kernel
theorem dX7_blushOf_30 : decode cX7_blushOf 30 = .ok (.iconst 1, 1) := by decide +kernel
theorem dX7_blushOf_31 : decode cX7_blushOf 31 = .ok (.if_icmp .ne 9, 3) := by decide +kernel
theorem dX7_blushOf_34 : decode cX7_blushOf 34 = .ok (.iconst 2, 1) := by decide +kernel
theorem dX7_blushOf_35 : decode cX7_blushOf 35 = .ok (.iload_n 2, 1) := by decide +kernel
theorem dX7_blushOf_36 : decode cX7_blushOf 36 = .ok (.imul, 1) := by decide +kernel
theorem dX7_blushOf_37 : decode cX7_blushOf 37 = .ok (.goto 15, 3) := by decide +kernel
theorem dX7_blushOf_40 : decode cX7_blushOf 40 = .ok (.iload_n 3, 1) := by decide +kernel
theorem dX7_blushOf_41 : decode cX7_blushOf 41 = .ok (.iconst 3, 1) := by decide +kernel
theorem dX7_blushOf_42 : decode cX7_blushOf 42 = .ok (.if_icmp .ne 9, 3) := by decide +kernel
theorem dX7_blushOf_45 : decode cX7_blushOf 45 = .ok (.iload_n 2, 1) := by decide +kernel
theorem dX7_blushOf_46 : decode cX7_blushOf 46 = .ok (.iconst 2, 1) := by decide +kernel
theorem dX7_blushOf_47 : decode cX7_blushOf 47 = .ok (.idiv, 1) := by decide +kernel
theorem dX7_blushOf_48 : decode cX7_blushOf 48 = .ok (.goto 4, 3) := by decide +kernel
theorem dX7_blushOf_51 : decode cX7_blushOf 51 = .ok (.iload_n 2, 1) := by decide +kernel
theorem dX7_blushOf_52 : decode cX7_blushOf 52 = .ok (.ireturn, 1) := by decide +kernel
theorem dX7_least_0 : decode cX7_least 0 = .ok (.iload_n 0, 1) := by decide +kernel
theorem dX7_least_1 : decode cX7_least 1 = .ok (.iload_n 1, 1) := by decide +kernel
theorem dX7_least_2 : decode cX7_least 2 = .ok (.if_icmp .ge 7, 3) := by decide +kernel
theorem dX7_least_5 : decode cX7_least 5 = .ok (.iload_n 0, 1) := by decide +kernel
theorem dX7_least_6 : decode cX7_least 6 = .ok (.goto 4, 3) := by decide +kernel
theorem dX7_least_9 : decode cX7_least 9 = .ok (.iload_n 1, 1) := by decide +kernel
theorem dX7_least_10 : decode cX7_least 10 = .ok (.ireturn, 1) := by decide +kernel
set_option maxRecDepth 20000 in
theorem ggX7_isAskedOf_X7_of : GoodIn wsX7_isAskedOf wsX7_of := goodIn_r _ [9, 3, 17, 18, 19, 20, 21, 22, 23, 24, 25, 26, 27, 28, 29, 30, 31, 32, 33, 34, 35, 36, 37, 38, 39, 40, 41, 42, 43, 44, 45, 46, 47, 48, 49, 50, 51, 52, 53, 54, 55] (by decide +kernel) (by decide +kernel)
set_option maxRecDepth 20000 in
theorem gX7_isAskedOf_X7_of : GoodIn wsX7_isAskedOf (wsV RX7 182 RX7 yX7_of wsX7_of) := goodIn_app (goodIn_of _ (by decide +kernel)) ggX7_isAskedOf_X7_of
set_option maxRecDepth 20000 in
theorem ggX7_isAskedOf_X7_least : GoodIn wsX7_isAskedOf wsX7_least := goodIn_r _ [12] (by decide +kernel) (by decide +kernel)
set_option maxRecDepth 20000 in
theorem gX7_isAskedOf_X7_least : GoodIn wsX7_isAskedOf (va_wsS RX7 185 yX7_least wsX7_least) := goodIn_app (goodIn_of _ (by decide +kernel)) ggX7_isAskedOf_X7_least
set_option maxRecDepth 20000 in
theorem ggX7_isAskedOf_X7_more : GoodIn wsX7_isAskedOf wsX7_more := goodIn_r _ [16, 3, 17, 18, 19, 20, 21, 22, 23, 24, 25, 26, 27, 28, 29, 30, 31, 32, 33, 34, 35, 36, 37, 38, 39, 40, 41, 42, 43, 44, 45, 46, 47, 48, 49, 50, 51, 52, 53, 54, 55] (by decide +kernel) (by decide +kernel)
set_option maxRecDepth 20000 in
theorem gX7_isAskedOf_X7_more : GoodIn wsX7_isAskedOf (wsV RX7 188 RX7 yX7_more wsX7_more) := goodIn_app (goodIn_of _ (by decide +kernel)) ggX7_isAskedOf_X7_more
theorem dX7_isAskedOf_0 : decode cX7_isAskedOf 0 = .ok (.aload_n 0, 1) := by decide +kernel
theorem dX7_isAskedOf_1 : decode cX7_isAskedOf 1 = .ok (.getfield 29, 3) := by decide +kernel
theorem dX7_isAskedOf_4 : decode cX7_isAskedOf 4 = .ok (.iload_n 1, 1) := by decide +kernel
theorem dX7_isAskedOf_5 : decode cX7_isAskedOf 5 = .ok (.iaload, 1) := by decide +kernel
theorem dX7_isAskedOf_6 : decode cX7_isAskedOf 6 = .ok (.istore_n 2, 1) := by decide +kernel
theorem dX7_isAskedOf_7 : decode cX7_isAskedOf 7 = .ok (.aload_n 0, 1) := by decide +kernel
theorem dX7_isAskedOf_8 : decode cX7_isAskedOf 8 = .ok (.iload_n 2, 1) := by decide +kernel
theorem dX7_isAskedOf_9 : decode cX7_isAskedOf 9 = .ok (.iconst 1, 1) := by decide +kernel
theorem dX7_isAskedOf_10 : decode cX7_isAskedOf 10 = .ok (.invokevirtual 182, 3) := by decide +kernel
theorem dX7_isAskedOf_13 : decode cX7_isAskedOf 13 = .ok (.aload_n 0, 1) := by decide +kernel
theorem dX7_isAskedOf_14 : decode cX7_isAskedOf 14 = .ok (.getfield 35, 3) := by decide +kernel
theorem dX7_isAskedOf_17 : decode cX7_isAskedOf 17 = .ok (.iload_n 1, 1) := by decide +kernel
theorem dX7_isAskedOf_18 : decode cX7_isAskedOf 18 = .ok (.iaload, 1) := by decide +kernel
theorem dX7_isAskedOf_19 : decode cX7_isAskedOf 19 = .ok (.invokestatic 185, 3) := by decide +kernel
theorem dX7_isAskedOf_22 : decode cX7_isAskedOf 22 = .ok (.istore_n 3, 1) := by decide +kernel
theorem dX7_isAskedOf_23 : decode cX7_isAskedOf 23 = .ok (.aload_n 0, 1) := by decide +kernel
theorem dX7_isAskedOf_24 : decode cX7_isAskedOf 24 = .ok (.getfield 35, 3) := by decide +kernel
theorem dX7_isAskedOf_27 : decode cX7_isAskedOf 27 = .ok (.iload_n 1, 1) := by decide +kernel
theorem dX7_isAskedOf_28 : decode cX7_isAskedOf 28 = .ok (.iaload, 1) := by decide +kernel
theorem dX7_isAskedOf_29 : decode cX7_isAskedOf 29 = .ok (.iload_n 3, 1) := by decide +kernel
theorem dX7_isAskedOf_30 : decode cX7_isAskedOf 30 = .ok (.isub, 1) := by decide +kernel
theorem dX7_isAskedOf_31 : decode cX7_isAskedOf 31 = .ok (.istore 4, 2) := by decide +kernel
theorem dX7_isAskedOf_33 : decode cX7_isAskedOf 33 = .ok (.iload 4, 2) := by decide +kernel
theorem dX7_isAskedOf_35 : decode cX7_isAskedOf 35 = .ok (.aload_n 0, 1) := by decide +kernel
theorem dX7_isAskedOf_36 : decode cX7_isAskedOf 36 = .ok (.iload_n 2, 1) := by decide +kernel
theorem dX7_isAskedOf_37 : decode cX7_isAskedOf 37 = .ok (.iconst 2, 1) := by decide +kernel
theorem dX7_isAskedOf_38 : decode cX7_isAskedOf 38 = .ok (.invokevirtual 182, 3) := by decide +kernel
theorem dX7_isAskedOf_41 : decode cX7_isAskedOf 41 = .ok (.aload_n 0, 1) := by decide +kernel
theorem dX7_isAskedOf_42 : decode cX7_isAskedOf 42 = .ok (.getfield 13, 3) := by decide +kernel
theorem dX7_isAskedOf_45 : decode cX7_isAskedOf 45 = .ok (.bipush 24, 2) := by decide +kernel
theorem dX7_isAskedOf_47 : decode cX7_isAskedOf 47 = .ok (.iaload, 1) := by decide +kernel
theorem dX7_isAskedOf_48 : decode cX7_isAskedOf 48 = .ok (.invokestatic 185, 3) := by decide +kernel
theorem dX7_isAskedOf_51 : decode cX7_isAskedOf 51 = .ok (.invokestatic 185, 3) := by decide +kernel
theorem dX7_isAskedOf_54 : decode cX7_isAskedOf 54 = .ok (.istore 5, 2) := by decide +kernel
theorem dX7_isAskedOf_56 : decode cX7_isAskedOf 56 = .ok (.iload 4, 2) := by decide +kernel
theorem dX7_isAskedOf_58 : decode cX7_isAskedOf 58 = .ok (.iload 5, 2) := by decide +kernel
theorem dX7_isAskedOf_60 : decode cX7_isAskedOf 60 = .ok (.isub, 1) := by decide +kernel
theorem dX7_isAskedOf_61 : decode cX7_isAskedOf 61 = .ok (.istore 4, 2) := by decide +kernel
theorem dX7_isAskedOf_63 : decode cX7_isAskedOf 63 = .ok (.aload_n 0, 1) := by decide +kernel
theorem dX7_isAskedOf_64 : decode cX7_isAskedOf 64 = .ok (.iload_n 2, 1) := by decide +kernel
theorem dX7_isAskedOf_65 : decode cX7_isAskedOf 65 = .ok (.iconst 0, 1) := by decide +kernel
theorem dX7_isAskedOf_66 : decode cX7_isAskedOf 66 = .ok (.invokevirtual 182, 3) := by decide +kernel
theorem dX7_isAskedOf_69 : decode cX7_isAskedOf 69 = .ok (.iconst 2, 1) := by decide +kernel
theorem dX7_isAskedOf_70 : decode cX7_isAskedOf 70 = .ok (.if_icmp .ne 21, 3) := by decide +kernel
theorem dX7_isAskedOf_73 : decode cX7_isAskedOf 73 = .ok (.iload 4, 2) := by decide +kernel
theorem dX7_isAskedOf_75 : decode cX7_isAskedOf 75 = .ok (.aload_n 0, 1) := by decide +kernel
theorem dX7_isAskedOf_76 : decode cX7_isAskedOf 76 = .ok (.getfield 13, 3) := by decide +kernel
theorem dX7_isAskedOf_79 : decode cX7_isAskedOf 79 = .ok (.bipush 24, 2) := by decide +kernel
theorem dX7_isAskedOf_81 : decode cX7_isAskedOf 81 = .ok (.iaload, 1) := by decide +kernel
theorem dX7_isAskedOf_82 : decode cX7_isAskedOf 82 = .ok (.iload 5, 2) := by decide +kernel
theorem dX7_isAskedOf_84 : decode cX7_isAskedOf 84 = .ok (.isub, 1) := by decide +kernel
theorem dX7_isAskedOf_85 : decode cX7_isAskedOf 85 = .ok (.invokestatic 185, 3) := by decide +kernel
theorem dX7_isAskedOf_88 : decode cX7_isAskedOf 88 = .ok (.goto 4, 3) := by decide +kernel
theorem dX7_isAskedOf_91 : decode cX7_isAskedOf 91 = .ok (.iconst 0, 1) := by decide +kernel
theorem dX7_isAskedOf_92 : decode cX7_isAskedOf 92 = .ok (.istore 6, 2) := by decide +kernel
theorem dX7_isAskedOf_94 : decode cX7_isAskedOf 94 = .ok (.iload 4, 2) := by decide +kernel
theorem dX7_isAskedOf_96 : decode cX7_isAskedOf 96 = .ok (.iload 6, 2) := by decide +kernel
theorem dX7_isAskedOf_98 : decode cX7_isAskedOf 98 = .ok (.if_icmp .le 25, 3) := by decide +kernel
theorem dX7_isAskedOf_101 : decode cX7_isAskedOf 101 = .ok (.aload_n 0, 1) := by decide +kernel
theorem dX7_isAskedOf_102 : decode cX7_isAskedOf 102 = .ok (.iload_n 2, 1) := by decide +kernel
theorem dX7_isAskedOf_103 : decode cX7_isAskedOf 103 = .ok (.iconst 3, 1) := by decide +kernel
theorem dX7_isAskedOf_104 : decode cX7_isAskedOf 104 = .ok (.iconst 1, 1) := by decide +kernel
theorem dX7_isAskedOf_105 : decode cX7_isAskedOf 105 = .ok (.invokevirtual 188, 3) := by decide +kernel
theorem dX7_isAskedOf_108 : decode cX7_isAskedOf 108 = .ok (.aload_n 0, 1) := by decide +kernel
theorem dX7_isAskedOf_109 : decode cX7_isAskedOf 109 = .ok (.dup, 1) := by decide +kernel
theorem dX7_isAskedOf_110 : decode cX7_isAskedOf 110 = .ok (.getfield 192, 3) := by decide +kernel
theorem dX7_isAskedOf_113 : decode cX7_isAskedOf 113 = .ok (.iconst 1, 1) := by decide +kernel
theorem dX7_isAskedOf_114 : decode cX7_isAskedOf 114 = .ok (.iload_n 2, 1) := by decide +kernel
theorem dX7_isAskedOf_115 : decode cX7_isAskedOf 115 = .ok (.ishl, 1) := by decide +kernel
theorem dX7_isAskedOf_116 : decode cX7_isAskedOf 116 = .ok (.ior, 1) := by decide +kernel
theorem dX7_isAskedOf_117 : decode cX7_isAskedOf 117 = .ok (.putfield 192, 3) := by decide +kernel
theorem dX7_isAskedOf_120 : decode cX7_isAskedOf 120 = .ok (.goto 35, 3) := by decide +kernel
theorem dX7_isAskedOf_123 : decode cX7_isAskedOf 123 = .ok (.aload_n 0, 1) := by decide +kernel
theorem dX7_isAskedOf_124 : decode cX7_isAskedOf 124 = .ok (.iload_n 2, 1) := by decide +kernel
theorem dX7_isAskedOf_125 : decode cX7_isAskedOf 125 = .ok (.iconst 1, 1) := by decide +kernel
theorem dX7_isAskedOf_126 : decode cX7_isAskedOf 126 = .ok (.iload_n 3, 1) := by decide +kernel
theorem dX7_isAskedOf_127 : decode cX7_isAskedOf 127 = .ok (.ineg, 1) := by decide +kernel
theorem dX7_isAskedOf_128 : decode cX7_isAskedOf 128 = .ok (.invokevirtual 188, 3) := by decide +kernel
theorem dX7_isAskedOf_131 : decode cX7_isAskedOf 131 = .ok (.aload_n 0, 1) := by decide +kernel
theorem dX7_isAskedOf_132 : decode cX7_isAskedOf 132 = .ok (.iload_n 2, 1) := by decide +kernel
theorem dX7_isAskedOf_133 : decode cX7_isAskedOf 133 = .ok (.iconst 2, 1) := by decide +kernel
theorem dX7_isAskedOf_134 : decode cX7_isAskedOf 134 = .ok (.iload 5, 2) := by decide +kernel
theorem dX7_isAskedOf_136 : decode cX7_isAskedOf 136 = .ok (.ineg, 1) := by decide +kernel
theorem dX7_isAskedOf_137 : decode cX7_isAskedOf 137 = .ok (.invokevirtual 188, 3) := by decide +kernel
theorem dX7_isAskedOf_140 : decode cX7_isAskedOf 140 = .ok (.aload_n 0, 1) := by decide +kernel
theorem dX7_isAskedOf_141 : decode cX7_isAskedOf 141 = .ok (.getfield 13, 3) := by decide +kernel
theorem dX7_isAskedOf_144 : decode cX7_isAskedOf 144 = .ok (.bipush 24, 2) := by decide +kernel
theorem dX7_isAskedOf_146 : decode cX7_isAskedOf 146 = .ok (.dup2, 1) := by decide +kernel
theorem dX7_isAskedOf_147 : decode cX7_isAskedOf 147 = .ok (.iaload, 1) := by decide +kernel
theorem dX7_isAskedOf_148 : decode cX7_isAskedOf 148 = .ok (.iload 5, 2) := by decide +kernel
theorem dX7_isAskedOf_150 : decode cX7_isAskedOf 150 = .ok (.iload 6, 2) := by decide +kernel
theorem dX7_isAskedOf_152 : decode cX7_isAskedOf 152 = .ok (.iadd, 1) := by decide +kernel
theorem dX7_isAskedOf_153 : decode cX7_isAskedOf 153 = .ok (.isub, 1) := by decide +kernel
theorem dX7_isAskedOf_154 : decode cX7_isAskedOf 154 = .ok (.iastore, 1) := by decide +kernel
theorem dX7_isAskedOf_155 : decode cX7_isAskedOf 155 = .ok (.return_, 1) := by decide +kernel
set_option maxRecDepth 20000 in
theorem ggX7_weekGoes_X7_blushOf : GoodIn wsX7_weekGoes wsX7_blushOf := goodIn_r _ [13, 14, 1, 5, 15, 16, 17, 12, 18, 32, 33, 34, 35, 36, 37, 38, 39, 40, 41, 42, 43, 44, 45, 46, 47, 48, 49, 50, 51, 52, 53, 54, 55, 56, 57, 58, 59, 60, 61, 62, 63, 64, 65, 66, 67, 68, 69, 70] (by decide +kernel) (by decide +kernel)
set_option maxRecDepth 20000 in
theorem gX7_weekGoes_X7_blushOf : GoodIn wsX7_weekGoes (wsV RX7 195 RX7 yX7_blushOf wsX7_blushOf) := goodIn_app (goodIn_of _ (by decide +kernel)) ggX7_weekGoes_X7_blushOf
set_option maxRecDepth 20000 in
theorem ggX7_weekGoes_X7_more : GoodIn wsX7_weekGoes wsX7_more := goodIn_r _ [22, 1, 32, 33, 34, 35, 36, 37, 38, 39, 40, 41, 42, 43, 44, 45, 46, 47, 48, 49, 50, 51, 52, 53, 54, 55, 56, 57, 58, 59, 60, 61, 62, 63, 64, 65, 66, 67, 68, 69, 70] (by decide +kernel) (by decide +kernel)
set_option maxRecDepth 20000 in
theorem gX7_weekGoes_X7_more : GoodIn wsX7_weekGoes (wsV RX7 188 RX7 yX7_more wsX7_more) := goodIn_app (goodIn_of _ (by decide +kernel)) ggX7_weekGoes_X7_more
set_option maxRecDepth 20000 in
theorem ggX7_weekGoes_X7_isAskedOf : GoodIn wsX7_weekGoes wsX7_isAskedOf := goodIn_r _ [26, 27, 28, 1, 2, 15, 16, 17, 12, 18, 29, 30, 31, 19, 20, 21, 22, 32, 33, 34, 35, 36, 37, 38, 39, 40, 41, 42, 43, 44, 45, 46, 47, 48, 49, 50, 51, 52, 53, 54, 55, 56, 57, 58, 59, 60, 61, 62, 63, 64, 65, 66, 67, 68, 69, 70] (by decide +kernel) (by decide +kernel)
set_option maxRecDepth 20000 in
theorem gX7_weekGoes_X7_isAskedOf : GoodIn wsX7_weekGoes (wsV RX7 198 RX7 yX7_isAskedOf wsX7_isAskedOf) := goodIn_app (goodIn_of _ (by decide +kernel)) ggX7_weekGoes_X7_isAskedOf
set_option maxRecDepth 20000 in
theorem ggX7_weekGoes_X7_of : GoodIn wsX7_weekGoes wsX7_of := goodIn_r _ [18, 1, 32, 33, 34, 35, 36, 37, 38, 39, 40, 41, 42, 43, 44, 45, 46, 47, 48, 49, 50, 51, 52, 53, 54, 55, 56, 57, 58, 59, 60, 61, 62, 63, 64, 65, 66, 67, 68, 69, 70] (by decide +kernel) (by decide +kernel)
set_option maxRecDepth 20000 in
theorem gX7_weekGoes_X7_of : GoodIn wsX7_weekGoes (wsV RX7 182 RX7 yX7_of wsX7_of) := goodIn_app (goodIn_of _ (by decide +kernel)) ggX7_weekGoes_X7_of
set_option maxRecDepth 20000 in
theorem ggX7_weekGoes_X7_least : GoodIn wsX7_weekGoes wsX7_least := goodIn_r _ [31] (by decide +kernel) (by decide +kernel)
set_option maxRecDepth 20000 in
theorem gX7_weekGoes_X7_least : GoodIn wsX7_weekGoes (va_wsS RX7 185 yX7_least wsX7_least) := goodIn_app (goodIn_of _ (by decide +kernel)) ggX7_weekGoes_X7_least
theorem dX7_weekGoes_0 : decode cX7_weekGoes 0 = .ok (.aload_n 0, 1) := by decide +kernel
theorem dX7_weekGoes_1 : decode cX7_weekGoes 1 = .ok (.getfield 13, 3) := by decide +kernel
theorem dX7_weekGoes_4 : decode cX7_weekGoes 4 = .ok (.bipush 25, 2) := by decide +kernel
theorem dX7_weekGoes_6 : decode cX7_weekGoes 6 = .ok (.iaload, 1) := by decide +kernel
theorem dX7_weekGoes_7 : decode cX7_weekGoes 7 = .ok (.istore_n 1, 1) := by decide +kernel
theorem dX7_weekGoes_8 : decode cX7_weekGoes 8 = .ok (.aload_n 0, 1) := by decide +kernel
theorem dX7_weekGoes_9 : decode cX7_weekGoes 9 = .ok (.iconst 0, 1) := by decide +kernel
theorem dX7_weekGoes_10 : decode cX7_weekGoes 10 = .ok (.putfield 192, 3) := by decide +kernel
theorem dX7_weekGoes_13 : decode cX7_weekGoes 13 = .ok (.iconst 0, 1) := by decide +kernel
theorem dX7_weekGoes_14 : decode cX7_weekGoes 14 = .ok (.istore_n 2, 1) := by decide +kernel
theorem dX7_weekGoes_15 : decode cX7_weekGoes 15 = .ok (.iload_n 2, 1) := by decide +kernel
theorem dX7_weekGoes_16 : decode cX7_weekGoes 16 = .ok (.aload_n 0, 1) := by decide +kernel
theorem dX7_weekGoes_17 : decode cX7_weekGoes 17 = .ok (.getfield 102, 3) := by decide +kernel
theorem dX7_weekGoes_20 : decode cX7_weekGoes 20 = .ok (.if_icmp .ge 54, 3) := by decide +kernel
theorem dX7_weekGoes_23 : decode cX7_weekGoes 23 = .ok (.aload_n 0, 1) := by decide +kernel
theorem dX7_weekGoes_24 : decode cX7_weekGoes 24 = .ok (.getfield 23, 3) := by decide +kernel
theorem dX7_weekGoes_27 : decode cX7_weekGoes 27 = .ok (.iload_n 2, 1) := by decide +kernel
theorem dX7_weekGoes_28 : decode cX7_weekGoes 28 = .ok (.iaload, 1) := by decide +kernel
theorem dX7_weekGoes_29 : decode cX7_weekGoes 29 = .ok (.iload_n 1, 1) := by decide +kernel
theorem dX7_weekGoes_30 : decode cX7_weekGoes 30 = .ok (.if_icmp .ne 38, 3) := by decide +kernel
theorem dX7_weekGoes_33 : decode cX7_weekGoes 33 = .ok (.aload_n 0, 1) := by decide +kernel
theorem dX7_weekGoes_34 : decode cX7_weekGoes 34 = .ok (.aload_n 0, 1) := by decide +kernel
theorem dX7_weekGoes_35 : decode cX7_weekGoes 35 = .ok (.getfield 20, 3) := by decide +kernel
theorem dX7_weekGoes_38 : decode cX7_weekGoes 38 = .ok (.iload_n 2, 1) := by decide +kernel
theorem dX7_weekGoes_39 : decode cX7_weekGoes 39 = .ok (.iaload, 1) := by decide +kernel
theorem dX7_weekGoes_40 : decode cX7_weekGoes 40 = .ok (.aload_n 0, 1) := by decide +kernel
theorem dX7_weekGoes_41 : decode cX7_weekGoes 41 = .ok (.getfield 13, 3) := by decide +kernel
theorem dX7_weekGoes_44 : decode cX7_weekGoes 44 = .ok (.bipush 22, 2) := by decide +kernel
theorem dX7_weekGoes_46 : decode cX7_weekGoes 46 = .ok (.iaload, 1) := by decide +kernel
theorem dX7_weekGoes_47 : decode cX7_weekGoes 47 = .ok (.iload_n 2, 1) := by decide +kernel
theorem dX7_weekGoes_48 : decode cX7_weekGoes 48 = .ok (.ishr, 1) := by decide +kernel
theorem dX7_weekGoes_49 : decode cX7_weekGoes 49 = .ok (.iconst 1, 1) := by decide +kernel
theorem dX7_weekGoes_50 : decode cX7_weekGoes 50 = .ok (.iand, 1) := by decide +kernel
theorem dX7_weekGoes_51 : decode cX7_weekGoes 51 = .ok (.iconst 1, 1) := by decide +kernel
theorem dX7_weekGoes_52 : decode cX7_weekGoes 52 = .ok (.if_icmp .ne 7, 3) := by decide +kernel
theorem dX7_weekGoes_55 : decode cX7_weekGoes 55 = .ok (.iconst 2, 1) := by decide +kernel
theorem dX7_weekGoes_56 : decode cX7_weekGoes 56 = .ok (.goto 4, 3) := by decide +kernel
theorem dX7_weekGoes_59 : decode cX7_weekGoes 59 = .ok (.iconst 1, 1) := by decide +kernel
theorem dX7_weekGoes_60 : decode cX7_weekGoes 60 = .ok (.aload_n 0, 1) := by decide +kernel
theorem dX7_weekGoes_61 : decode cX7_weekGoes 61 = .ok (.iload_n 2, 1) := by decide +kernel
theorem dX7_weekGoes_62 : decode cX7_weekGoes 62 = .ok (.invokevirtual 195, 3) := by decide +kernel
theorem dX7_weekGoes_65 : decode cX7_weekGoes 65 = .ok (.invokevirtual 188, 3) := by decide +kernel
theorem dX7_weekGoes_68 : decode cX7_weekGoes 68 = .ok (.iinc 2 1, 3) := by decide +kernel
theorem dX7_weekGoes_71 : decode cX7_weekGoes 71 = .ok (.goto (-56), 3) := by decide +kernel
theorem dX7_weekGoes_74 : decode cX7_weekGoes 74 = .ok (.iconst 0, 1) := by decide +kernel
theorem dX7_weekGoes_75 : decode cX7_weekGoes 75 = .ok (.istore_n 2, 1) := by decide +kernel
theorem dX7_weekGoes_76 : decode cX7_weekGoes 76 = .ok (.iload_n 2, 1) := by decide +kernel
theorem dX7_weekGoes_77 : decode cX7_weekGoes 77 = .ok (.aload_n 0, 1) := by decide +kernel
theorem dX7_weekGoes_78 : decode cX7_weekGoes 78 = .ok (.getfield 105, 3) := by decide +kernel
theorem dX7_weekGoes_81 : decode cX7_weekGoes 81 = .ok (.if_icmp .ge 24, 3) := by decide +kernel
theorem dX7_weekGoes_84 : decode cX7_weekGoes 84 = .ok (.aload_n 0, 1) := by decide +kernel
theorem dX7_weekGoes_85 : decode cX7_weekGoes 85 = .ok (.getfield 32, 3) := by decide +kernel
theorem dX7_weekGoes_88 : decode cX7_weekGoes 88 = .ok (.iload_n 2, 1) := by decide +kernel
theorem dX7_weekGoes_89 : decode cX7_weekGoes 89 = .ok (.iaload, 1) := by decide +kernel
theorem dX7_weekGoes_90 : decode cX7_weekGoes 90 = .ok (.iload_n 1, 1) := by decide +kernel
theorem dX7_weekGoes_91 : decode cX7_weekGoes 91 = .ok (.if_icmp .ne 8, 3) := by decide +kernel
theorem dX7_weekGoes_94 : decode cX7_weekGoes 94 = .ok (.aload_n 0, 1) := by decide +kernel
theorem dX7_weekGoes_95 : decode cX7_weekGoes 95 = .ok (.iload_n 2, 1) := by decide +kernel
theorem dX7_weekGoes_96 : decode cX7_weekGoes 96 = .ok (.invokevirtual 198, 3) := by decide +kernel
theorem dX7_weekGoes_99 : decode cX7_weekGoes 99 = .ok (.iinc 2 1, 3) := by decide +kernel
theorem dX7_weekGoes_102 : decode cX7_weekGoes 102 = .ok (.goto (-26), 3) := by decide +kernel
theorem dX7_weekGoes_105 : decode cX7_weekGoes 105 = .ok (.iconst 0, 1) := by decide +kernel
theorem dX7_weekGoes_106 : decode cX7_weekGoes 106 = .ok (.istore_n 2, 1) := by decide +kernel
theorem dX7_weekGoes_107 : decode cX7_weekGoes 107 = .ok (.iload_n 2, 1) := by decide +kernel
theorem dX7_weekGoes_108 : decode cX7_weekGoes 108 = .ok (.aload_n 0, 1) := by decide +kernel
theorem dX7_weekGoes_109 : decode cX7_weekGoes 109 = .ok (.getfield 99, 3) := by decide +kernel
theorem dX7_weekGoes_112 : decode cX7_weekGoes 112 = .ok (.if_icmp .ge 70, 3) := by decide +kernel
theorem dX7_weekGoes_115 : decode cX7_weekGoes 115 = .ok (.aload_n 0, 1) := by decide +kernel
theorem dX7_weekGoes_116 : decode cX7_weekGoes 116 = .ok (.iload_n 2, 1) := by decide +kernel
theorem dX7_weekGoes_117 : decode cX7_weekGoes 117 = .ok (.iconst 1, 1) := by decide +kernel
theorem dX7_weekGoes_118 : decode cX7_weekGoes 118 = .ok (.aload_n 0, 1) := by decide +kernel
theorem dX7_weekGoes_119 : decode cX7_weekGoes 119 = .ok (.iload_n 2, 1) := by decide +kernel
theorem dX7_weekGoes_120 : decode cX7_weekGoes 120 = .ok (.iconst 1, 1) := by decide +kernel
theorem dX7_weekGoes_121 : decode cX7_weekGoes 121 = .ok (.invokevirtual 182, 3) := by decide +kernel
theorem dX7_weekGoes_124 : decode cX7_weekGoes 124 = .ok (.bipush 10, 2) := by decide +kernel
theorem dX7_weekGoes_126 : decode cX7_weekGoes 126 = .ok (.iadd, 1) := by decide +kernel
theorem dX7_weekGoes_127 : decode cX7_weekGoes 127 = .ok (.iconst 1, 1) := by decide +kernel
theorem dX7_weekGoes_128 : decode cX7_weekGoes 128 = .ok (.isub, 1) := by decide +kernel
theorem dX7_weekGoes_129 : decode cX7_weekGoes 129 = .ok (.bipush 10, 2) := by decide +kernel
theorem dX7_weekGoes_131 : decode cX7_weekGoes 131 = .ok (.idiv, 1) := by decide +kernel
theorem dX7_weekGoes_132 : decode cX7_weekGoes 132 = .ok (.ineg, 1) := by decide +kernel
theorem dX7_weekGoes_133 : decode cX7_weekGoes 133 = .ok (.invokevirtual 188, 3) := by decide +kernel
theorem dX7_weekGoes_136 : decode cX7_weekGoes 136 = .ok (.aload_n 0, 1) := by decide +kernel
theorem dX7_weekGoes_137 : decode cX7_weekGoes 137 = .ok (.getfield 13, 3) := by decide +kernel
theorem dX7_weekGoes_140 : decode cX7_weekGoes 140 = .ok (.iconst 4, 1) := by decide +kernel
theorem dX7_weekGoes_141 : decode cX7_weekGoes 141 = .ok (.iload_n 2, 1) := by decide +kernel
theorem dX7_weekGoes_142 : decode cX7_weekGoes 142 = .ok (.imul, 1) := by decide +kernel
theorem dX7_weekGoes_143 : decode cX7_weekGoes 143 = .ok (.iconst 2, 1) := by decide +kernel
theorem dX7_weekGoes_144 : decode cX7_weekGoes 144 = .ok (.iadd, 1) := by decide +kernel
theorem dX7_weekGoes_145 : decode cX7_weekGoes 145 = .ok (.sipush 999, 3) := by decide +kernel
theorem dX7_weekGoes_148 : decode cX7_weekGoes 148 = .ok (.aload_n 0, 1) := by decide +kernel
theorem dX7_weekGoes_149 : decode cX7_weekGoes 149 = .ok (.iload_n 2, 1) := by decide +kernel
theorem dX7_weekGoes_150 : decode cX7_weekGoes 150 = .ok (.iconst 2, 1) := by decide +kernel
theorem dX7_weekGoes_151 : decode cX7_weekGoes 151 = .ok (.invokevirtual 182, 3) := by decide +kernel
theorem dX7_weekGoes_154 : decode cX7_weekGoes 154 = .ok (.aload_n 0, 1) := by decide +kernel
theorem dX7_weekGoes_155 : decode cX7_weekGoes 155 = .ok (.iload_n 2, 1) := by decide +kernel
theorem dX7_weekGoes_156 : decode cX7_weekGoes 156 = .ok (.iconst 2, 1) := by decide +kernel
theorem dX7_weekGoes_157 : decode cX7_weekGoes 157 = .ok (.invokevirtual 182, 3) := by decide +kernel
theorem dX7_weekGoes_160 : decode cX7_weekGoes 160 = .ok (.aload_n 0, 1) := by decide +kernel
theorem dX7_weekGoes_161 : decode cX7_weekGoes 161 = .ok (.getfield 13, 3) := by decide +kernel
theorem dX7_weekGoes_164 : decode cX7_weekGoes 164 = .ok (.bipush 23, 2) := by decide +kernel
theorem dX7_weekGoes_166 : decode cX7_weekGoes 166 = .ok (.iaload, 1) := by decide +kernel
theorem dX7_weekGoes_167 : decode cX7_weekGoes 167 = .ok (.imul, 1) := by decide +kernel
theorem dX7_weekGoes_168 : decode cX7_weekGoes 168 = .ok (.bipush 10, 2) := by decide +kernel
theorem dX7_weekGoes_170 : decode cX7_weekGoes 170 = .ok (.idiv, 1) := by decide +kernel
theorem dX7_weekGoes_171 : decode cX7_weekGoes 171 = .ok (.iadd, 1) := by decide +kernel
theorem dX7_weekGoes_172 : decode cX7_weekGoes 172 = .ok (.invokestatic 185, 3) := by decide +kernel
theorem dX7_weekGoes_175 : decode cX7_weekGoes 175 = .ok (.iastore, 1) := by decide +kernel
theorem dX7_weekGoes_176 : decode cX7_weekGoes 176 = .ok (.iinc 2 1, 3) := by decide +kernel
theorem dX7_weekGoes_179 : decode cX7_weekGoes 179 = .ok (.goto (-72), 3) := by decide +kernel
theorem dX7_weekGoes_182 : decode cX7_weekGoes 182 = .ok (.aload_n 0, 1) := by decide +kernel
theorem dX7_weekGoes_183 : decode cX7_weekGoes 183 = .ok (.getfield 13, 3) := by decide +kernel
theorem dX7_weekGoes_186 : decode cX7_weekGoes 186 = .ok (.bipush 24, 2) := by decide +kernel
theorem dX7_weekGoes_188 : decode cX7_weekGoes 188 = .ok (.aload_n 0, 1) := by decide +kernel
theorem dX7_weekGoes_189 : decode cX7_weekGoes 189 = .ok (.getfield 13, 3) := by decide +kernel
theorem dX7_weekGoes_192 : decode cX7_weekGoes 192 = .ok (.bipush 24, 2) := by decide +kernel
theorem dX7_weekGoes_194 : decode cX7_weekGoes 194 = .ok (.iaload, 1) := by decide +kernel
theorem dX7_weekGoes_195 : decode cX7_weekGoes 195 = .ok (.bipush 99, 2) := by decide +kernel
theorem dX7_weekGoes_197 : decode cX7_weekGoes 197 = .ok (.if_icmp .ge 15, 3) := by decide +kernel
theorem dX7_weekGoes_200 : decode cX7_weekGoes 200 = .ok (.aload_n 0, 1) := by decide +kernel
theorem dX7_weekGoes_201 : decode cX7_weekGoes 201 = .ok (.getfield 13, 3) := by decide +kernel
theorem dX7_weekGoes_204 : decode cX7_weekGoes 204 = .ok (.bipush 24, 2) := by decide +kernel
theorem dX7_weekGoes_206 : decode cX7_weekGoes 206 = .ok (.iaload, 1) := by decide +kernel
theorem dX7_weekGoes_207 : decode cX7_weekGoes 207 = .ok (.iconst 1, 1) := by decide +kernel
theorem dX7_weekGoes_208 : decode cX7_weekGoes 208 = .ok (.iadd, 1) := by decide +kernel
theorem dX7_weekGoes_209 : decode cX7_weekGoes 209 = .ok (.goto 10, 3) := by decide +kernel
theorem dX7_weekGoes_212 : decode cX7_weekGoes 212 = .ok (.aload_n 0, 1) := by decide +kernel
theorem dX7_weekGoes_213 : decode cX7_weekGoes 213 = .ok (.getfield 13, 3) := by decide +kernel
theorem dX7_weekGoes_216 : decode cX7_weekGoes 216 = .ok (.bipush 24, 2) := by decide +kernel
theorem dX7_weekGoes_218 : decode cX7_weekGoes 218 = .ok (.iaload, 1) := by decide +kernel
theorem dX7_weekGoes_219 : decode cX7_weekGoes 219 = .ok (.iastore, 1) := by decide +kernel
theorem dX7_weekGoes_220 : decode cX7_weekGoes 220 = .ok (.aload_n 0, 1) := by decide +kernel
theorem dX7_weekGoes_221 : decode cX7_weekGoes 221 = .ok (.getfield 13, 3) := by decide +kernel
theorem dX7_weekGoes_224 : decode cX7_weekGoes 224 = .ok (.bipush 25, 2) := by decide +kernel
theorem dX7_weekGoes_226 : decode cX7_weekGoes 226 = .ok (.dup2, 1) := by decide +kernel
theorem dX7_weekGoes_227 : decode cX7_weekGoes 227 = .ok (.iaload, 1) := by decide +kernel
theorem dX7_weekGoes_228 : decode cX7_weekGoes 228 = .ok (.iconst 1, 1) := by decide +kernel
theorem dX7_weekGoes_229 : decode cX7_weekGoes 229 = .ok (.iadd, 1) := by decide +kernel
theorem dX7_weekGoes_230 : decode cX7_weekGoes 230 = .ok (.iastore, 1) := by decide +kernel
theorem dX7_weekGoes_231 : decode cX7_weekGoes 231 = .ok (.return_, 1) := by decide +kernel
set_option maxRecDepth 20000 in
theorem ggX7_weeksGo_X7_weekGoes : GoodIn wsX7_weeksGo wsX7_weekGoes := goodIn_r _ [5, 6, 7, 8, 9, 10, 11, 12, 13, 14, 15, 16, 4, 17, 18, 19, 20, 21, 22, 23, 24, 25, 26, 27, 28, 29, 30, 31, 32, 33, 34, 35, 36, 37, 38, 39, 40, 41, 42, 43, 44, 45, 46, 47, 48, 49, 50, 51, 52, 53, 54, 55, 56, 57, 58, 59, 60, 61, 62, 63, 64, 65, 66, 67, 68, 69, 70, 71, 72, 73, 74] (by decide +kernel) (by decide +kernel)
set_option maxRecDepth 20000 in
theorem gX7_weeksGo_X7_weekGoes : GoodIn wsX7_weeksGo (wsV RX7 201 RX7 yX7_weekGoes wsX7_weekGoes) := goodIn_app (goodIn_of _ (by decide +kernel)) ggX7_weeksGo_X7_weekGoes
theorem dX7_weeksGo_0 : decode cX7_weeksGo 0 = .ok (.iconst 0, 1) := by decide +kernel
theorem dX7_weeksGo_1 : decode cX7_weeksGo 1 = .ok (.istore_n 2, 1) := by decide +kernel
theorem dX7_weeksGo_2 : decode cX7_weeksGo 2 = .ok (.iload_n 2, 1) := by decide +kernel
theorem dX7_weeksGo_3 : decode cX7_weeksGo 3 = .ok (.iload_n 1, 1) := by decide +kernel
theorem dX7_weeksGo_4 : decode cX7_weeksGo 4 = .ok (.if_icmp .ge 13, 3) := by decide +kernel
theorem dX7_weeksGo_7 : decode cX7_weeksGo 7 = .ok (.aload_n 0, 1) := by decide +kernel
theorem dX7_weeksGo_8 : decode cX7_weeksGo 8 = .ok (.invokevirtual 201, 3) := by decide +kernel
theorem dX7_weeksGo_11 : decode cX7_weeksGo 11 = .ok (.iinc 2 1, 3) := by decide +kernel
theorem dX7_weeksGo_14 : decode cX7_weeksGo 14 = .ok (.goto (-12), 3) := by decide +kernel
theorem dX7_weeksGo_17 : decode cX7_weeksGo 17 = .ok (.return_, 1) := by decide +kernel
theorem dX7_weeksLeft_0 : decode cX7_weeksLeft 0 = .ok (.aload_n 0, 1) := by decide +kernel
theorem dX7_weeksLeft_1 : decode cX7_weeksLeft 1 = .ok (.getfield 7, 3) := by decide +kernel
theorem dX7_weeksLeft_4 : decode cX7_weeksLeft 4 = .ok (.bipush 25, 2) := by decide +kernel
theorem dX7_weeksLeft_6 : decode cX7_weeksLeft 6 = .ok (.iaload, 1) := by decide +kernel
theorem dX7_weeksLeft_7 : decode cX7_weeksLeft 7 = .ok (.bipush 10, 2) := by decide +kernel
theorem dX7_weeksLeft_9 : decode cX7_weeksLeft 9 = .ok (.if_icmp .ge 16, 3) := by decide +kernel
theorem dX7_weeksLeft_12 : decode cX7_weeksLeft 12 = .ok (.bipush 10, 2) := by decide +kernel
theorem dX7_weeksLeft_14 : decode cX7_weeksLeft 14 = .ok (.aload_n 0, 1) := by decide +kernel
theorem dX7_weeksLeft_15 : decode cX7_weeksLeft 15 = .ok (.getfield 7, 3) := by decide +kernel
theorem dX7_weeksLeft_18 : decode cX7_weeksLeft 18 = .ok (.bipush 25, 2) := by decide +kernel
theorem dX7_weeksLeft_20 : decode cX7_weeksLeft 20 = .ok (.iaload, 1) := by decide +kernel
theorem dX7_weeksLeft_21 : decode cX7_weeksLeft 21 = .ok (.isub, 1) := by decide +kernel
theorem dX7_weeksLeft_22 : decode cX7_weeksLeft 22 = .ok (.goto 4, 3) := by decide +kernel
theorem dX7_weeksLeft_25 : decode cX7_weeksLeft 25 = .ok (.iconst 0, 1) := by decide +kernel
theorem dX7_weeksLeft_26 : decode cX7_weeksLeft 26 = .ok (.ireturn, 1) := by decide +kernel
set_option maxRecDepth 20000 in
theorem ggX7_brazenMore_X7_of : GoodIn wsX7_brazenMore wsX7_of := goodIn_r _ [7, 8, 9, 10, 11, 12, 13, 14, 15, 16, 17, 18, 19, 20, 21, 22, 23, 24, 25, 26, 27, 28, 29, 30, 31, 32, 33, 34, 35, 36, 37, 38, 39, 40, 41, 42, 43, 44, 45, 46, 47] (by decide +kernel) (by decide +kernel)
set_option maxRecDepth 20000 in
theorem gX7_brazenMore_X7_of : GoodIn wsX7_brazenMore (wsV RX7 182 RX7 yX7_of wsX7_of) := goodIn_app (goodIn_of _ (by decide +kernel)) ggX7_brazenMore_X7_of
theorem dX7_brazenMore_0 : decode cX7_brazenMore 0 = .ok (.iconst 0, 1) := by decide +kernel
theorem dX7_brazenMore_1 : decode cX7_brazenMore 1 = .ok (.istore_n 1, 1) := by decide +kernel
theorem dX7_brazenMore_2 : decode cX7_brazenMore 2 = .ok (.iconst 0, 1) := by decide +kernel
theorem dX7_brazenMore_3 : decode cX7_brazenMore 3 = .ok (.istore_n 2, 1) := by decide +kernel
theorem dX7_brazenMore_4 : decode cX7_brazenMore 4 = .ok (.iload_n 2, 1) := by decide +kernel
theorem dX7_brazenMore_5 : decode cX7_brazenMore 5 = .ok (.aload_n 0, 1) := by decide +kernel
theorem dX7_brazenMore_6 : decode cX7_brazenMore 6 = .ok (.getfield 99, 3) := by decide +kernel
theorem dX7_brazenMore_9 : decode cX7_brazenMore 9 = .ok (.if_icmp .ge 29, 3) := by decide +kernel
theorem dX7_brazenMore_12 : decode cX7_brazenMore 12 = .ok (.iload_n 1, 1) := by decide +kernel
theorem dX7_brazenMore_13 : decode cX7_brazenMore 13 = .ok (.aload_n 0, 1) := by decide +kernel
theorem dX7_brazenMore_14 : decode cX7_brazenMore 14 = .ok (.iload_n 2, 1) := by decide +kernel
theorem dX7_brazenMore_15 : decode cX7_brazenMore 15 = .ok (.iconst 3, 1) := by decide +kernel
theorem dX7_brazenMore_16 : decode cX7_brazenMore 16 = .ok (.invokevirtual 182, 3) := by decide +kernel
theorem dX7_brazenMore_19 : decode cX7_brazenMore 19 = .ok (.aload_n 0, 1) := by decide +kernel
theorem dX7_brazenMore_20 : decode cX7_brazenMore 20 = .ok (.getfield 7, 3) := by decide +kernel
theorem dX7_brazenMore_23 : decode cX7_brazenMore 23 = .ok (.iconst 4, 1) := by decide +kernel
theorem dX7_brazenMore_24 : decode cX7_brazenMore 24 = .ok (.iload_n 2, 1) := by decide +kernel
theorem dX7_brazenMore_25 : decode cX7_brazenMore 25 = .ok (.imul, 1) := by decide +kernel
theorem dX7_brazenMore_26 : decode cX7_brazenMore 26 = .ok (.iconst 3, 1) := by decide +kernel
theorem dX7_brazenMore_27 : decode cX7_brazenMore 27 = .ok (.iadd, 1) := by decide +kernel
theorem dX7_brazenMore_28 : decode cX7_brazenMore 28 = .ok (.iaload, 1) := by decide +kernel
theorem dX7_brazenMore_29 : decode cX7_brazenMore 29 = .ok (.isub, 1) := by decide +kernel
theorem dX7_brazenMore_30 : decode cX7_brazenMore 30 = .ok (.iadd, 1) := by decide +kernel
theorem dX7_brazenMore_31 : decode cX7_brazenMore 31 = .ok (.istore_n 1, 1) := by decide +kernel
theorem dX7_brazenMore_32 : decode cX7_brazenMore 32 = .ok (.iinc 2 1, 3) := by decide +kernel
theorem dX7_brazenMore_35 : decode cX7_brazenMore 35 = .ok (.goto (-31), 3) := by decide +kernel
theorem dX7_brazenMore_38 : decode cX7_brazenMore 38 = .ok (.iload_n 1, 1) := by decide +kernel
theorem dX7_brazenMore_39 : decode cX7_brazenMore 39 = .ok (.ireturn, 1) := by decide +kernel
set_option maxRecDepth 20000 in
theorem ggX7_brazenIn_X7_weeksGo : GoodIn wsX7_brazenIn wsX7_weeksGo := goodIn_r _ [5, 6, 7, 8, 4, 9, 10, 11, 12, 13, 14, 15, 16, 17, 18, 19, 20, 21, 22, 23, 24, 25, 26, 27, 28, 29, 30, 31, 32, 33, 34, 35, 36, 37, 38, 39, 45, 46, 47, 48, 49, 50, 51, 52, 53, 54, 55, 56, 57, 58, 59, 60, 61, 62, 63, 64, 65, 66, 67, 68, 69, 70, 71, 72, 73, 74, 75, 76, 77, 78, 79, 80, 81, 82, 83] (by decide +kernel) (by decide +kernel)
set_option maxRecDepth 20000 in
theorem gX7_brazenIn_X7_weeksGo : GoodIn wsX7_brazenIn (wsV RX7 204 RX7 yX7_weeksGo wsX7_weeksGo) := goodIn_app (goodIn_of _ (by decide +kernel)) ggX7_brazenIn_X7_weeksGo
set_option maxRecDepth 20000 in
theorem ggX7_brazenIn_X7_brazenMore : GoodIn wsX7_brazenIn wsX7_brazenMore := goodIn_r _ [43, 17, 44, 23, 24, 25, 4, 26, 10, 45, 46, 47, 48, 49, 50, 51, 52, 53, 54, 55, 56, 57, 58, 59, 60, 61, 62, 63, 64, 65, 66, 67, 68, 69, 70, 71, 72, 73, 74, 75, 76, 77, 78, 79, 80, 81, 82, 83] (by decide +kernel) (by decide +kernel)
set_option maxRecDepth 20000 in
theorem gX7_brazenIn_X7_brazenMore : GoodIn wsX7_brazenIn (wsV RX7 207 RX7 yX7_brazenMore wsX7_brazenMore) := goodIn_app (goodIn_of _ (by decide +kernel)) ggX7_brazenIn_X7_brazenMore
theorem dX7_brazenIn_0 : decode cX7_brazenIn 0 = .ok (.aload_n 0, 1) := by decide +kernel
theorem dX7_brazenIn_1 : decode cX7_brazenIn 1 = .ok (.iload_n 1, 1) := by decide +kernel
theorem dX7_brazenIn_2 : decode cX7_brazenIn 2 = .ok (.invokevirtual 204, 3) := by decide +kernel
theorem dX7_brazenIn_5 : decode cX7_brazenIn 5 = .ok (.aload_n 0, 1) := by decide +kernel
theorem dX7_brazenIn_6 : decode cX7_brazenIn 6 = .ok (.invokevirtual 207, 3) := by decide +kernel
theorem dX7_brazenIn_9 : decode cX7_brazenIn 9 = .ok (.ireturn, 1) := by decide +kernel
theorem dX7_rule_0 : decode cX7_rule 0 = .ok (.iload_n 1, 1) := by decide +kernel
theorem dX7_rule_1 : decode cX7_rule 1 = .ok (.tableswitch 90 0 6 #[43, 48, 53, 58, 66, 74, 82], 43) := by decide +kernel
theorem dX7_rule_44 : decode cX7_rule 44 = .ok (.aload_n 0, 1) := by decide +kernel
theorem dX7_rule_45 : decode cX7_rule 45 = .ok (.getfield 99, 3) := by decide +kernel
theorem dX7_rule_48 : decode cX7_rule 48 = .ok (.ireturn, 1) := by decide +kernel
theorem dX7_rule_49 : decode cX7_rule 49 = .ok (.aload_n 0, 1) := by decide +kernel
theorem dX7_rule_50 : decode cX7_rule 50 = .ok (.getfield 102, 3) := by decide +kernel
theorem dX7_rule_53 : decode cX7_rule 53 = .ok (.ireturn, 1) := by decide +kernel
