theorem dX7_keepDraft_31 : decode cX7_keepDraft 31 = .ok (.putfield 99, 3) := by decide +kernel
theorem dX7_keepDraft_34 : decode cX7_keepDraft 34 = .ok (.aload_n 0, 1) := by decide +kernel
theorem dX7_keepDraft_35 : decode cX7_keepDraft 35 = .ok (.aload_n 0, 1) := by decide +kernel
theorem dX7_keepDraft_36 : decode cX7_keepDraft 36 = .ok (.getfield 87, 3) := by decide +kernel
theorem dX7_keepDraft_39 : decode cX7_keepDraft 39 = .ok (.putfield 102, 3) := by decide +kernel
theorem dX7_keepDraft_42 : decode cX7_keepDraft 42 = .ok (.aload_n 0, 1) := by decide +kernel
theorem dX7_keepDraft_43 : decode cX7_keepDraft 43 = .ok (.aload_n 0, 1) := by decide +kernel
theorem dX7_keepDraft_44 : decode cX7_keepDraft 44 = .ok (.getfield 90, 3) := by decide +kernel
theorem dX7_keepDraft_47 : decode cX7_keepDraft 47 = .ok (.putfield 105, 3) := by decide +kernel
theorem dX7_keepDraft_50 : decode cX7_keepDraft 50 = .ok (.iconst 0, 1) := by decide +kernel
theorem dX7_keepDraft_51 : decode cX7_keepDraft 51 = .ok (.istore_n 1, 1) := by decide +kernel
theorem dX7_keepDraft_52 : decode cX7_keepDraft 52 = .ok (.iload_n 1, 1) := by decide +kernel
theorem dX7_keepDraft_53 : decode cX7_keepDraft 53 = .ok (.aload_n 0, 1) := by decide +kernel
theorem dX7_keepDraft_54 : decode cX7_keepDraft 54 = .ok (.getfield 102, 3) := by decide +kernel
theorem dX7_keepDraft_57 : decode cX7_keepDraft 57 = .ok (.if_icmp .ge 45, 3) := by decide +kernel
theorem dX7_keepDraft_60 : decode cX7_keepDraft 60 = .ok (.aload_n 0, 1) := by decide +kernel
theorem dX7_keepDraft_61 : decode cX7_keepDraft 61 = .ok (.getfield 20, 3) := by decide +kernel
theorem dX7_keepDraft_64 : decode cX7_keepDraft 64 = .ok (.iload_n 1, 1) := by decide +kernel
theorem dX7_keepDraft_65 : decode cX7_keepDraft 65 = .ok (.aload_n 0, 1) := by decide +kernel
theorem dX7_keepDraft_66 : decode cX7_keepDraft 66 = .ok (.getfield 41, 3) := by decide +kernel
theorem dX7_keepDraft_69 : decode cX7_keepDraft 69 = .ok (.iload_n 1, 1) := by decide +kernel
theorem dX7_keepDraft_70 : decode cX7_keepDraft 70 = .ok (.iaload, 1) := by decide +kernel
theorem dX7_keepDraft_71 : decode cX7_keepDraft 71 = .ok (.iastore, 1) := by decide +kernel
theorem dX7_keepDraft_72 : decode cX7_keepDraft 72 = .ok (.aload_n 0, 1) := by decide +kernel
theorem dX7_keepDraft_73 : decode cX7_keepDraft 73 = .ok (.getfield 23, 3) := by decide +kernel
theorem dX7_keepDraft_76 : decode cX7_keepDraft 76 = .ok (.iload_n 1, 1) := by decide +kernel
theorem dX7_keepDraft_77 : decode cX7_keepDraft 77 = .ok (.aload_n 0, 1) := by decide +kernel
theorem dX7_keepDraft_78 : decode cX7_keepDraft 78 = .ok (.getfield 44, 3) := by decide +kernel
theorem dX7_keepDraft_81 : decode cX7_keepDraft 81 = .ok (.iload_n 1, 1) := by decide +kernel
theorem dX7_keepDraft_82 : decode cX7_keepDraft 82 = .ok (.iaload, 1) := by decide +kernel
theorem dX7_keepDraft_83 : decode cX7_keepDraft 83 = .ok (.iastore, 1) := by decide +kernel
theorem dX7_keepDraft_84 : decode cX7_keepDraft 84 = .ok (.aload_n 0, 1) := by decide +kernel
theorem dX7_keepDraft_85 : decode cX7_keepDraft 85 = .ok (.getfield 26, 3) := by decide +kernel
theorem dX7_keepDraft_88 : decode cX7_keepDraft 88 = .ok (.iload_n 1, 1) := by decide +kernel
theorem dX7_keepDraft_89 : decode cX7_keepDraft 89 = .ok (.aload_n 0, 1) := by decide +kernel
theorem dX7_keepDraft_90 : decode cX7_keepDraft 90 = .ok (.getfield 47, 3) := by decide +kernel
theorem dX7_keepDraft_93 : decode cX7_keepDraft 93 = .ok (.iload_n 1, 1) := by decide +kernel
theorem dX7_keepDraft_94 : decode cX7_keepDraft 94 = .ok (.iaload, 1) := by decide +kernel
theorem dX7_keepDraft_95 : decode cX7_keepDraft 95 = .ok (.iastore, 1) := by decide +kernel
theorem dX7_keepDraft_96 : decode cX7_keepDraft 96 = .ok (.iinc 1 1, 3) := by decide +kernel
theorem dX7_keepDraft_99 : decode cX7_keepDraft 99 = .ok (.goto (-47), 3) := by decide +kernel
theorem dX7_keepDraft_102 : decode cX7_keepDraft 102 = .ok (.iconst 0, 1) := by decide +kernel
theorem dX7_keepDraft_103 : decode cX7_keepDraft 103 = .ok (.istore_n 1, 1) := by decide +kernel
theorem dX7_keepDraft_104 : decode cX7_keepDraft 104 = .ok (.iload_n 1, 1) := by decide +kernel
theorem dX7_keepDraft_105 : decode cX7_keepDraft 105 = .ok (.aload_n 0, 1) := by decide +kernel
theorem dX7_keepDraft_106 : decode cX7_keepDraft 106 = .ok (.getfield 105, 3) := by decide +kernel
theorem dX7_keepDraft_109 : decode cX7_keepDraft 109 = .ok (.if_icmp .ge 45, 3) := by decide +kernel
theorem dX7_keepDraft_112 : decode cX7_keepDraft 112 = .ok (.aload_n 0, 1) := by decide +kernel
theorem dX7_keepDraft_113 : decode cX7_keepDraft 113 = .ok (.getfield 29, 3) := by decide +kernel
theorem dX7_keepDraft_116 : decode cX7_keepDraft 116 = .ok (.iload_n 1, 1) := by decide +kernel
theorem dX7_keepDraft_117 : decode cX7_keepDraft 117 = .ok (.aload_n 0, 1) := by decide +kernel
theorem dX7_keepDraft_118 : decode cX7_keepDraft 118 = .ok (.getfield 50, 3) := by decide +kernel
theorem dX7_keepDraft_121 : decode cX7_keepDraft 121 = .ok (.iload_n 1, 1) := by decide +kernel
theorem dX7_keepDraft_122 : decode cX7_keepDraft 122 = .ok (.iaload, 1) := by decide +kernel
theorem dX7_keepDraft_123 : decode cX7_keepDraft 123 = .ok (.iastore, 1) := by decide +kernel
theorem dX7_keepDraft_124 : decode cX7_keepDraft 124 = .ok (.aload_n 0, 1) := by decide +kernel
theorem dX7_keepDraft_125 : decode cX7_keepDraft 125 = .ok (.getfield 32, 3) := by decide +kernel
theorem dX7_keepDraft_128 : decode cX7_keepDraft 128 = .ok (.iload_n 1, 1) := by decide +kernel
theorem dX7_keepDraft_129 : decode cX7_keepDraft 129 = .ok (.aload_n 0, 1) := by decide +kernel
theorem dX7_keepDraft_130 : decode cX7_keepDraft 130 = .ok (.getfield 53, 3) := by decide +kernel
theorem dX7_keepDraft_133 : decode cX7_keepDraft 133 = .ok (.iload_n 1, 1) := by decide +kernel
theorem dX7_keepDraft_134 : decode cX7_keepDraft 134 = .ok (.iaload, 1) := by decide +kernel
theorem dX7_keepDraft_135 : decode cX7_keepDraft 135 = .ok (.iastore, 1) := by decide +kernel
theorem dX7_keepDraft_136 : decode cX7_keepDraft 136 = .ok (.aload_n 0, 1) := by decide +kernel
theorem dX7_keepDraft_137 : decode cX7_keepDraft 137 = .ok (.getfield 35, 3) := by decide +kernel
theorem dX7_keepDraft_140 : decode cX7_keepDraft 140 = .ok (.iload_n 1, 1) := by decide +kernel
theorem dX7_keepDraft_141 : decode cX7_keepDraft 141 = .ok (.aload_n 0, 1) := by decide +kernel
theorem dX7_keepDraft_142 : decode cX7_keepDraft 142 = .ok (.getfield 56, 3) := by decide +kernel
theorem dX7_keepDraft_145 : decode cX7_keepDraft 145 = .ok (.iload_n 1, 1) := by decide +kernel
theorem dX7_keepDraft_146 : decode cX7_keepDraft 146 = .ok (.iaload, 1) := by decide +kernel
theorem dX7_keepDraft_147 : decode cX7_keepDraft 147 = .ok (.iastore, 1) := by decide +kernel
theorem dX7_keepDraft_148 : decode cX7_keepDraft 148 = .ok (.iinc 1 1, 3) := by decide +kernel
theorem dX7_keepDraft_151 : decode cX7_keepDraft 151 = .ok (.goto (-47), 3) := by decide +kernel
theorem dX7_keepDraft_154 : decode cX7_keepDraft 154 = .ok (.aload_n 0, 1) := by decide +kernel
theorem dX7_keepDraft_155 : decode cX7_keepDraft 155 = .ok (.getfield 16, 3) := by decide +kernel
theorem dX7_keepDraft_158 : decode cX7_keepDraft 158 = .ok (.iconst 0, 1) := by decide +kernel
theorem dX7_keepDraft_159 : decode cX7_keepDraft 159 = .ok (.iconst 0, 1) := by decide +kernel
theorem dX7_keepDraft_160 : decode cX7_keepDraft 160 = .ok (.bastore, 1) := by decide +kernel
theorem dX7_keepDraft_161 : decode cX7_keepDraft 161 = .ok (.aload_n 0, 1) := by decide +kernel
theorem dX7_keepDraft_162 : decode cX7_keepDraft 162 = .ok (.getfield 16, 3) := by decide +kernel
theorem dX7_keepDraft_165 : decode cX7_keepDraft 165 = .ok (.iconst 1, 1) := by decide +kernel
theorem dX7_keepDraft_166 : decode cX7_keepDraft 166 = .ok (.iconst 0, 1) := by decide +kernel
theorem dX7_keepDraft_167 : decode cX7_keepDraft 167 = .ok (.bastore, 1) := by decide +kernel
theorem dX7_keepDraft_168 : decode cX7_keepDraft 168 = .ok (.return_, 1) := by decide +kernel
set_option maxRecDepth 20000 in
theorem ggX7_feed_X7_in : GoodIn wsX7_feed wsX7_in := goodIn_r _ [7] (by decide +kernel) (by decide +kernel)
set_option maxRecDepth 20000 in
theorem gX7_feed_X7_in : GoodIn wsX7_feed (va_wsS RX7 110 yX7_in wsX7_in) := goodIn_app (goodIn_of _ (by decide +kernel)) ggX7_feed_X7_in
theorem dX7_feed_0 : decode cX7_feed 0 = .ok (.iload_n 1, 1) := by decide +kernel
theorem dX7_feed_1 : decode cX7_feed 1 = .ok (.i2l, 1) := by decide +kernel
theorem dX7_feed_2 : decode cX7_feed 2 = .ok (.lconst 0, 1) := by decide +kernel
theorem dX7_feed_3 : decode cX7_feed 3 = .ok (.ldc2_w 108, 3) := by decide +kernel
theorem dX7_feed_6 : decode cX7_feed 6 = .ok (.invokestatic 110, 3) := by decide +kernel
theorem dX7_feed_9 : decode cX7_feed 9 = .ok (.ifCond .ne 5, 3) := by decide +kernel
theorem dX7_feed_12 : decode cX7_feed 12 = .ok (.iconst (-1), 1) := by decide +kernel
theorem dX7_feed_13 : decode cX7_feed 13 = .ok (.ireturn, 1) := by decide +kernel
theorem dX7_feed_14 : decode cX7_feed 14 = .ok (.aload_n 0, 1) := by decide +kernel
theorem dX7_feed_15 : decode cX7_feed 15 = .ok (.getfield 114, 3) := by decide +kernel
theorem dX7_feed_18 : decode cX7_feed 18 = .ok (.sipush 160, 3) := by decide +kernel
theorem dX7_feed_21 : decode cX7_feed 21 = .ok (.if_icmp .ne 6, 3) := by decide +kernel
theorem dX7_feed_24 : decode cX7_feed 24 = .ok (.bipush (-3), 2) := by decide +kernel
theorem dX7_feed_26 : decode cX7_feed 26 = .ok (.ireturn, 1) := by decide +kernel
theorem dX7_feed_27 : decode cX7_feed 27 = .ok (.aload_n 0, 1) := by decide +kernel
theorem dX7_feed_28 : decode cX7_feed 28 = .ok (.getfield 59, 3) := by decide +kernel
theorem dX7_feed_31 : decode cX7_feed 31 = .ok (.aload_n 0, 1) := by decide +kernel
theorem dX7_feed_32 : decode cX7_feed 32 = .ok (.getfield 114, 3) := by decide +kernel
theorem dX7_feed_35 : decode cX7_feed 35 = .ok (.iload_n 1, 1) := by decide +kernel
theorem dX7_feed_36 : decode cX7_feed 36 = .ok (.iastore, 1) := by decide +kernel
theorem dX7_feed_37 : decode cX7_feed 37 = .ok (.aload_n 0, 1) := by decide +kernel
theorem dX7_feed_38 : decode cX7_feed 38 = .ok (.dup, 1) := by decide +kernel
theorem dX7_feed_39 : decode cX7_feed 39 = .ok (.getfield 114, 3) := by decide +kernel
theorem dX7_feed_42 : decode cX7_feed 42 = .ok (.iconst 1, 1) := by decide +kernel
theorem dX7_feed_43 : decode cX7_feed 43 = .ok (.iadd, 1) := by decide +kernel
theorem dX7_feed_44 : decode cX7_feed 44 = .ok (.putfield 114, 3) := by decide +kernel
theorem dX7_feed_47 : decode cX7_feed 47 = .ok (.aload_n 0, 1) := by decide +kernel
theorem dX7_feed_48 : decode cX7_feed 48 = .ok (.getfield 114, 3) := by decide +kernel
theorem dX7_feed_51 : decode cX7_feed 51 = .ok (.ireturn, 1) := by decide +kernel
set_option maxRecDepth 20000 in
theorem ggX7_end_X7_in : GoodIn wsX7_end wsX7_in := goodIn_r _ [5] (by decide +kernel) (by decide +kernel)
set_option maxRecDepth 20000 in
theorem gX7_end_X7_in : GoodIn wsX7_end (va_wsS RX7 110 yX7_in wsX7_in) := goodIn_app (goodIn_of _ (by decide +kernel)) ggX7_end_X7_in
theorem dX7_end_0 : decode cX7_end 0 = .ok (.iload_n 1, 1) := by decide +kernel
theorem dX7_end_1 : decode cX7_end 1 = .ok (.i2l, 1) := by decide +kernel
theorem dX7_end_2 : decode cX7_end 2 = .ok (.lconst 0, 1) := by decide +kernel
theorem dX7_end_3 : decode cX7_end 3 = .ok (.aload_n 0, 1) := by decide +kernel
theorem dX7_end_4 : decode cX7_end 4 = .ok (.getfield 114, 3) := by decide +kernel
theorem dX7_end_7 : decode cX7_end 7 = .ok (.i2l, 1) := by decide +kernel
theorem dX7_end_8 : decode cX7_end 8 = .ok (.invokestatic 110, 3) := by decide +kernel
theorem dX7_end_11 : decode cX7_end 11 = .ok (.ifCond .ne 5, 3) := by decide +kernel
theorem dX7_end_14 : decode cX7_end 14 = .ok (.iconst (-1), 1) := by decide +kernel
theorem dX7_end_15 : decode cX7_end 15 = .ok (.ireturn, 1) := by decide +kernel
theorem dX7_end_16 : decode cX7_end 16 = .ok (.aload_n 0, 1) := by decide +kernel
theorem dX7_end_17 : decode cX7_end 17 = .ok (.getfield 114, 3) := by decide +kernel
theorem dX7_end_20 : decode cX7_end 20 = .ok (.istore_n 2, 1) := by decide +kernel
theorem dX7_end_21 : decode cX7_end 21 = .ok (.aload_n 0, 1) := by decide +kernel
theorem dX7_end_22 : decode cX7_end 22 = .ok (.iload_n 1, 1) := by decide +kernel
theorem dX7_end_23 : decode cX7_end 23 = .ok (.putfield 114, 3) := by decide +kernel
theorem dX7_end_26 : decode cX7_end 26 = .ok (.iload_n 2, 1) := by decide +kernel
theorem dX7_end_27 : decode cX7_end 27 = .ok (.ireturn, 1) := by decide +kernel
theorem dX7_needs_0 : decode cX7_needs 0 = .ok (.iload_n 1, 1) := by decide +kernel
theorem dX7_needs_1 : decode cX7_needs 1 = .ok (.ifCond .ne 23, 3) := by decide +kernel
theorem dX7_needs_4 : decode cX7_needs 4 = .ok (.aload_n 0, 1) := by decide +kernel
theorem dX7_needs_5 : decode cX7_needs 5 = .ok (.getfield 117, 3) := by decide +kernel
theorem dX7_needs_8 : decode cX7_needs 8 = .ok (.ifCond .ne 16, 3) := by decide +kernel
theorem dX7_needs_11 : decode cX7_needs 11 = .ok (.aload_n 0, 1) := by decide +kernel
theorem dX7_needs_12 : decode cX7_needs 12 = .ok (.iload_n 2, 1) := by decide +kernel
theorem dX7_needs_13 : decode cX7_needs 13 = .ok (.putfield 117, 3) := by decide +kernel
theorem dX7_needs_16 : decode cX7_needs 16 = .ok (.aload_n 0, 1) := by decide +kernel
theorem dX7_needs_17 : decode cX7_needs 17 = .ok (.aload_n 0, 1) := by decide +kernel
theorem dX7_needs_18 : decode cX7_needs 18 = .ok (.getfield 120, 3) := by decide +kernel
theorem dX7_needs_21 : decode cX7_needs 21 = .ok (.putfield 123, 3) := by decide +kernel
theorem dX7_needs_24 : decode cX7_needs 24 = .ok (.return_, 1) := by decide +kernel
theorem dX7_byteAt_0 : decode cX7_byteAt 0 = .ok (.iload_n 1, 1) := by decide +kernel
theorem dX7_byteAt_1 : decode cX7_byteAt 1 = .ok (.aload_n 0, 1) := by decide +kernel
theorem dX7_byteAt_2 : decode cX7_byteAt 2 = .ok (.getfield 114, 3) := by decide +kernel
theorem dX7_byteAt_5 : decode cX7_byteAt 5 = .ok (.if_icmp .ge 12, 3) := by decide +kernel
theorem dX7_byteAt_8 : decode cX7_byteAt 8 = .ok (.aload_n 0, 1) := by decide +kernel
theorem dX7_byteAt_9 : decode cX7_byteAt 9 = .ok (.getfield 59, 3) := by decide +kernel
theorem dX7_byteAt_12 : decode cX7_byteAt 12 = .ok (.iload_n 1, 1) := by decide +kernel
theorem dX7_byteAt_13 : decode cX7_byteAt 13 = .ok (.iaload, 1) := by decide +kernel
theorem dX7_byteAt_14 : decode cX7_byteAt 14 = .ok (.goto 4, 3) := by decide +kernel
theorem dX7_byteAt_17 : decode cX7_byteAt 17 = .ok (.iconst (-1), 1) := by decide +kernel
theorem dX7_byteAt_18 : decode cX7_byteAt 18 = .ok (.ireturn, 1) := by decide +kernel
set_option maxRecDepth 20000 in
theorem ggX7_is_X7_byteAt : GoodIn wsX7_is wsX7_byteAt := goodIn_r _ [7, 8, 9, 10, 11, 12, 13, 14, 15, 16, 17, 18, 19, 20, 21, 22, 23, 24, 25, 26, 27, 28, 29, 30, 31, 32, 33, 34, 35, 36, 37, 38, 39, 40, 41, 42, 43, 44, 45, 46, 47, 48] (by decide +kernel) (by decide +kernel)
set_option maxRecDepth 20000 in
theorem gX7_is_X7_byteAt : GoodIn wsX7_is (wsV RX7 129 RX7 yX7_byteAt wsX7_byteAt) := goodIn_app (goodIn_of _ (by decide +kernel)) ggX7_is_X7_byteAt
theorem dX7_is_0 : decode cX7_is 0 = .ok (.aload_n 0, 1) := by decide +kernel
theorem dX7_is_1 : decode cX7_is 1 = .ok (.getfield 126, 3) := by decide +kernel
theorem dX7_is_4 : decode cX7_is 4 = .ok (.aload_n 0, 1) := by decide +kernel
theorem dX7_is_5 : decode cX7_is 5 = .ok (.getfield 120, 3) := by decide +kernel
theorem dX7_is_8 : decode cX7_is 8 = .ok (.isub, 1) := by decide +kernel
theorem dX7_is_9 : decode cX7_is 9 = .ok (.iload_n 1, 1) := by decide +kernel
theorem dX7_is_10 : decode cX7_is 10 = .ok (.if_icmp .ne 63, 3) := by decide +kernel
theorem dX7_is_13 : decode cX7_is 13 = .ok (.aload_n 0, 1) := by decide +kernel
theorem dX7_is_14 : decode cX7_is 14 = .ok (.aload_n 0, 1) := by decide +kernel
theorem dX7_is_15 : decode cX7_is 15 = .ok (.getfield 120, 3) := by decide +kernel
theorem dX7_is_18 : decode cX7_is 18 = .ok (.invokevirtual 129, 3) := by decide +kernel
theorem dX7_is_21 : decode cX7_is 21 = .ok (.iload_n 2, 1) := by decide +kernel
theorem dX7_is_22 : decode cX7_is 22 = .ok (.if_icmp .ne 51, 3) := by decide +kernel
theorem dX7_is_25 : decode cX7_is 25 = .ok (.aload_n 0, 1) := by decide +kernel
theorem dX7_is_26 : decode cX7_is 26 = .ok (.aload_n 0, 1) := by decide +kernel
theorem dX7_is_27 : decode cX7_is 27 = .ok (.getfield 120, 3) := by decide +kernel
theorem dX7_is_30 : decode cX7_is 30 = .ok (.iconst 1, 1) := by decide +kernel
theorem dX7_is_31 : decode cX7_is 31 = .ok (.iadd, 1) := by decide +kernel
theorem dX7_is_32 : decode cX7_is 32 = .ok (.invokevirtual 129, 3) := by decide +kernel
theorem dX7_is_35 : decode cX7_is 35 = .ok (.iload_n 3, 1) := by decide +kernel
theorem dX7_is_36 : decode cX7_is 36 = .ok (.if_icmp .ne 37, 3) := by decide +kernel
theorem dX7_is_39 : decode cX7_is 39 = .ok (.aload_n 0, 1) := by decide +kernel
theorem dX7_is_40 : decode cX7_is 40 = .ok (.aload_n 0, 1) := by decide +kernel
theorem dX7_is_41 : decode cX7_is 41 = .ok (.getfield 120, 3) := by decide +kernel
theorem dX7_is_44 : decode cX7_is 44 = .ok (.iconst 2, 1) := by decide +kernel
theorem dX7_is_45 : decode cX7_is 45 = .ok (.iadd, 1) := by decide +kernel
theorem dX7_is_46 : decode cX7_is 46 = .ok (.invokevirtual 129, 3) := by decide +kernel
theorem dX7_is_49 : decode cX7_is 49 = .ok (.iload 4, 2) := by decide +kernel
theorem dX7_is_51 : decode cX7_is 51 = .ok (.if_icmp .ne 22, 3) := by decide +kernel
theorem dX7_is_54 : decode cX7_is 54 = .ok (.aload_n 0, 1) := by decide +kernel
theorem dX7_is_55 : decode cX7_is 55 = .ok (.aload_n 0, 1) := by decide +kernel
theorem dX7_is_56 : decode cX7_is 56 = .ok (.getfield 120, 3) := by decide +kernel
theorem dX7_is_59 : decode cX7_is 59 = .ok (.iconst 3, 1) := by decide +kernel
theorem dX7_is_60 : decode cX7_is 60 = .ok (.iadd, 1) := by decide +kernel
theorem dX7_is_61 : decode cX7_is 61 = .ok (.invokevirtual 129, 3) := by decide +kernel
theorem dX7_is_64 : decode cX7_is 64 = .ok (.iload 5, 2) := by decide +kernel
theorem dX7_is_66 : decode cX7_is 66 = .ok (.if_icmp .ne 7, 3) := by decide +kernel
theorem dX7_is_69 : decode cX7_is 69 = .ok (.iconst 1, 1) := by decide +kernel
theorem dX7_is_70 : decode cX7_is 70 = .ok (.goto 4, 3) := by decide +kernel
theorem dX7_is_73 : decode cX7_is 73 = .ok (.iconst 0, 1) := by decide +kernel
theorem dX7_is_74 : decode cX7_is 74 = .ok (.ireturn, 1) := by decide +kernel
set_option maxRecDepth 20000 in
theorem ggX7_ends_X7_byteAt : GoodIn wsX7_ends wsX7_byteAt := goodIn_r _ [6, 7, 8, 9, 10, 11, 12, 13, 14, 15, 16, 17, 18, 19, 20, 21, 22, 23, 24, 25, 26, 27, 28, 29, 30, 31, 32, 33, 34, 35, 36, 37, 38, 39, 40, 41, 42, 43, 44, 45, 46, 47] (by decide +kernel) (by decide +kernel)
set_option maxRecDepth 20000 in
theorem gX7_ends_X7_byteAt : GoodIn wsX7_ends (wsV RX7 129 RX7 yX7_byteAt wsX7_byteAt) := goodIn_app (goodIn_of _ (by decide +kernel)) ggX7_ends_X7_byteAt
theorem dX7_ends_0 : decode cX7_ends 0 = .ok (.aload_n 0, 1) := by decide +kernel
theorem dX7_ends_1 : decode cX7_ends 1 = .ok (.aload_n 0, 1) := by decide +kernel
theorem dX7_ends_2 : decode cX7_ends 2 = .ok (.getfield 120, 3) := by decide +kernel
theorem dX7_ends_5 : decode cX7_ends 5 = .ok (.iconst 4, 1) := by decide +kernel
theorem dX7_ends_6 : decode cX7_ends 6 = .ok (.iadd, 1) := by decide +kernel
theorem dX7_ends_7 : decode cX7_ends 7 = .ok (.invokevirtual 129, 3) := by decide +kernel
theorem dX7_ends_10 : decode cX7_ends 10 = .ok (.iload_n 1, 1) := by decide +kernel
theorem dX7_ends_11 : decode cX7_ends 11 = .ok (.if_icmp .ne 65, 3) := by decide +kernel
theorem dX7_ends_14 : decode cX7_ends 14 = .ok (.iload_n 2, 1) := by decide +kernel
theorem dX7_ends_15 : decode cX7_ends 15 = .ok (.ifCond .eq 17, 3) := by decide +kernel
theorem dX7_ends_18 : decode cX7_ends 18 = .ok (.aload_n 0, 1) := by decide +kernel
theorem dX7_ends_19 : decode cX7_ends 19 = .ok (.aload_n 0, 1) := by decide +kernel
theorem dX7_ends_20 : decode cX7_ends 20 = .ok (.getfield 120, 3) := by decide +kernel
theorem dX7_ends_23 : decode cX7_ends 23 = .ok (.iconst 5, 1) := by decide +kernel
theorem dX7_ends_24 : decode cX7_ends 24 = .ok (.iadd, 1) := by decide +kernel
theorem dX7_ends_25 : decode cX7_ends 25 = .ok (.invokevirtual 129, 3) := by decide +kernel
theorem dX7_ends_28 : decode cX7_ends 28 = .ok (.iload_n 2, 1) := by decide +kernel
theorem dX7_ends_29 : decode cX7_ends 29 = .ok (.if_icmp .ne 47, 3) := by decide +kernel
theorem dX7_ends_32 : decode cX7_ends 32 = .ok (.iload_n 3, 1) := by decide +kernel
theorem dX7_ends_33 : decode cX7_ends 33 = .ok (.ifCond .eq 18, 3) := by decide +kernel
theorem dX7_ends_36 : decode cX7_ends 36 = .ok (.aload_n 0, 1) := by decide +kernel
theorem dX7_ends_37 : decode cX7_ends 37 = .ok (.aload_n 0, 1) := by decide +kernel
theorem dX7_ends_38 : decode cX7_ends 38 = .ok (.getfield 120, 3) := by decide +kernel
theorem dX7_ends_41 : decode cX7_ends 41 = .ok (.bipush 6, 2) := by decide +kernel
theorem dX7_ends_43 : decode cX7_ends 43 = .ok (.iadd, 1) := by decide +kernel
theorem dX7_ends_44 : decode cX7_ends 44 = .ok (.invokevirtual 129, 3) := by decide +kernel
theorem dX7_ends_47 : decode cX7_ends 47 = .ok (.iload_n 3, 1) := by decide +kernel
theorem dX7_ends_48 : decode cX7_ends 48 = .ok (.if_icmp .ne 28, 3) := by decide +kernel
theorem dX7_ends_51 : decode cX7_ends 51 = .ok (.iload 4, 2) := by decide +kernel
theorem dX7_ends_53 : decode cX7_ends 53 = .ok (.ifCond .eq 19, 3) := by decide +kernel
theorem dX7_ends_56 : decode cX7_ends 56 = .ok (.aload_n 0, 1) := by decide +kernel
theorem dX7_ends_57 : decode cX7_ends 57 = .ok (.aload_n 0, 1) := by decide +kernel
theorem dX7_ends_58 : decode cX7_ends 58 = .ok (.getfield 120, 3) := by decide +kernel
theorem dX7_ends_61 : decode cX7_ends 61 = .ok (.bipush 7, 2) := by decide +kernel
theorem dX7_ends_63 : decode cX7_ends 63 = .ok (.iadd, 1) := by decide +kernel
theorem dX7_ends_64 : decode cX7_ends 64 = .ok (.invokevirtual 129, 3) := by decide +kernel
theorem dX7_ends_67 : decode cX7_ends 67 = .ok (.iload 4, 2) := by decide +kernel
theorem dX7_ends_69 : decode cX7_ends 69 = .ok (.if_icmp .ne 7, 3) := by decide +kernel
theorem dX7_ends_72 : decode cX7_ends 72 = .ok (.iconst 1, 1) := by decide +kernel
theorem dX7_ends_73 : decode cX7_ends 73 = .ok (.goto 4, 3) := by decide +kernel
theorem dX7_ends_76 : decode cX7_ends 76 = .ok (.iconst 0, 1) := by decide +kernel
theorem dX7_ends_77 : decode cX7_ends 77 = .ok (.ireturn, 1) := by decide +kernel
set_option maxRecDepth 20000 in
theorem ggX7_lineNow_X7_is : GoodIn wsX7_lineNow wsX7_is := goodIn_r _ [5, 6, 7, 8, 9, 10, 4, 11, 12, 13, 18, 19, 20, 21, 22, 23, 24, 25, 26, 27, 28, 29, 30, 31, 32, 33, 34, 35, 36, 37, 38, 39, 40, 41, 42, 43, 44, 45, 46, 47, 48, 49, 50, 51, 52, 53, 54, 55, 56] (by decide +kernel) (by decide +kernel)
set_option maxRecDepth 20000 in
theorem gX7_lineNow_X7_is : GoodIn wsX7_lineNow (wsV RX7 133 RX7 yX7_is wsX7_is) := goodIn_app (goodIn_of _ (by decide +kernel)) ggX7_lineNow_X7_is
set_option maxRecDepth 20000 in
theorem ggX7_lineNow_X7_ends : GoodIn wsX7_lineNow wsX7_ends := goodIn_r _ [17, 7, 8, 9, 10, 4, 11, 12, 13, 18, 19, 20, 21, 22, 23, 24, 25, 26, 27, 28, 29, 30, 31, 32, 33, 34, 35, 36, 37, 38, 39, 40, 41, 42, 43, 44, 45, 46, 47, 48, 49, 50, 51, 52, 53, 54, 55, 56] (by decide +kernel) (by decide +kernel)
set_option maxRecDepth 20000 in
theorem gX7_lineNow_X7_ends : GoodIn wsX7_lineNow (wsV RX7 137 RX7 yX7_ends wsX7_ends) := goodIn_app (goodIn_of _ (by decide +kernel)) ggX7_lineNow_X7_ends
theorem dX7_lineNow_0 : decode cX7_lineNow 0 = .ok (.aload_n 0, 1) := by decide +kernel
theorem dX7_lineNow_1 : decode cX7_lineNow 1 = .ok (.iconst 5, 1) := by decide +kernel
theorem dX7_lineNow_2 : decode cX7_lineNow 2 = .ok (.bipush 112, 2) := by decide +kernel
theorem dX7_lineNow_4 : decode cX7_lineNow 4 = .ok (.bipush 108, 2) := by decide +kernel
theorem dX7_lineNow_6 : decode cX7_lineNow 6 = .ok (.bipush 97, 2) := by decide +kernel
theorem dX7_lineNow_8 : decode cX7_lineNow 8 = .ok (.bipush 105, 2) := by decide +kernel
theorem dX7_lineNow_10 : decode cX7_lineNow 10 = .ok (.invokevirtual 133, 3) := by decide +kernel
theorem dX7_lineNow_13 : decode cX7_lineNow 13 = .ok (.ifCond .eq 17, 3) := by decide +kernel
theorem dX7_lineNow_16 : decode cX7_lineNow 16 = .ok (.aload_n 0, 1) := by decide +kernel
theorem dX7_lineNow_17 : decode cX7_lineNow 17 = .ok (.bipush 110, 2) := by decide +kernel
theorem dX7_lineNow_19 : decode cX7_lineNow 19 = .ok (.iconst 0, 1) := by decide +kernel
theorem dX7_lineNow_20 : decode cX7_lineNow 20 = .ok (.iconst 0, 1) := by decide +kernel
theorem dX7_lineNow_21 : decode cX7_lineNow 21 = .ok (.iconst 0, 1) := by decide +kernel
theorem dX7_lineNow_22 : decode cX7_lineNow 22 = .ok (.invokevirtual 137, 3) := by decide +kernel
theorem dX7_lineNow_25 : decode cX7_lineNow 25 = .ok (.ifCond .eq 5, 3) := by decide +kernel
theorem dX7_lineNow_28 : decode cX7_lineNow 28 = .ok (.iconst 0, 1) := by decide +kernel
theorem dX7_lineNow_29 : decode cX7_lineNow 29 = .ok (.ireturn, 1) := by decide +kernel
theorem dX7_lineNow_30 : decode cX7_lineNow 30 = .ok (.aload_n 0, 1) := by decide +kernel
theorem dX7_lineNow_31 : decode cX7_lineNow 31 = .ok (.bipush 6, 2) := by decide +kernel
theorem dX7_lineNow_33 : decode cX7_lineNow 33 = .ok (.bipush 98, 2) := by decide +kernel
theorem dX7_lineNow_35 : decode cX7_lineNow 35 = .ok (.bipush 105, 2) := by decide +kernel
theorem dX7_lineNow_37 : decode cX7_lineNow 37 = .ok (.bipush 115, 2) := by decide +kernel
theorem dX7_lineNow_39 : decode cX7_lineNow 39 = .ok (.bipush 104, 2) := by decide +kernel
theorem dX7_lineNow_41 : decode cX7_lineNow 41 = .ok (.invokevirtual 133, 3) := by decide +kernel
theorem dX7_lineNow_44 : decode cX7_lineNow 44 = .ok (.ifCond .eq 18, 3) := by decide +kernel
theorem dX7_lineNow_47 : decode cX7_lineNow 47 = .ok (.aload_n 0, 1) := by decide +kernel
theorem dX7_lineNow_48 : decode cX7_lineNow 48 = .ok (.bipush 111, 2) := by decide +kernel
theorem dX7_lineNow_50 : decode cX7_lineNow 50 = .ok (.bipush 112, 2) := by decide +kernel
theorem dX7_lineNow_52 : decode cX7_lineNow 52 = .ok (.iconst 0, 1) := by decide +kernel
theorem dX7_lineNow_53 : decode cX7_lineNow 53 = .ok (.iconst 0, 1) := by decide +kernel
theorem dX7_lineNow_54 : decode cX7_lineNow 54 = .ok (.invokevirtual 137, 3) := by decide +kernel
theorem dX7_lineNow_57 : decode cX7_lineNow 57 = .ok (.ifCond .eq 5, 3) := by decide +kernel
theorem dX7_lineNow_60 : decode cX7_lineNow 60 = .ok (.iconst 1, 1) := by decide +kernel
theorem dX7_lineNow_61 : decode cX7_lineNow 61 = .ok (.ireturn, 1) := by decide +kernel
theorem dX7_lineNow_62 : decode cX7_lineNow 62 = .ok (.aload_n 0, 1) := by decide +kernel
theorem dX7_lineNow_63 : decode cX7_lineNow 63 = .ok (.iconst 5, 1) := by decide +kernel
theorem dX7_lineNow_64 : decode cX7_lineNow 64 = .ok (.bipush 98, 2) := by decide +kernel
theorem dX7_lineNow_66 : decode cX7_lineNow 66 = .ok (.bipush 114, 2) := by decide +kernel
theorem dX7_lineNow_68 : decode cX7_lineNow 68 = .ok (.bipush 105, 2) := by decide +kernel
theorem dX7_lineNow_70 : decode cX7_lineNow 70 = .ok (.bipush 100, 2) := by decide +kernel
theorem dX7_lineNow_72 : decode cX7_lineNow 72 = .ok (.invokevirtual 133, 3) := by decide +kernel
theorem dX7_lineNow_75 : decode cX7_lineNow 75 = .ok (.ifCond .eq 17, 3) := by decide +kernel
theorem dX7_lineNow_78 : decode cX7_lineNow 78 = .ok (.aload_n 0, 1) := by decide +kernel
theorem dX7_lineNow_79 : decode cX7_lineNow 79 = .ok (.bipush 101, 2) := by decide +kernel
theorem dX7_lineNow_81 : decode cX7_lineNow 81 = .ok (.iconst 0, 1) := by decide +kernel
theorem dX7_lineNow_82 : decode cX7_lineNow 82 = .ok (.iconst 0, 1) := by decide +kernel
theorem dX7_lineNow_83 : decode cX7_lineNow 83 = .ok (.iconst 0, 1) := by decide +kernel
theorem dX7_lineNow_84 : decode cX7_lineNow 84 = .ok (.invokevirtual 137, 3) := by decide +kernel
theorem dX7_lineNow_87 : decode cX7_lineNow 87 = .ok (.ifCond .eq 5, 3) := by decide +kernel
theorem dX7_lineNow_90 : decode cX7_lineNow 90 = .ok (.iconst 2, 1) := by decide +kernel
theorem dX7_lineNow_91 : decode cX7_lineNow 91 = .ok (.ireturn, 1) := by decide +kernel
theorem dX7_lineNow_92 : decode cX7_lineNow 92 = .ok (.aload_n 0, 1) := by decide +kernel
theorem dX7_lineNow_93 : decode cX7_lineNow 93 = .ok (.iconst 5, 1) := by decide +kernel
theorem dX7_lineNow_94 : decode cX7_lineNow 94 = .ok (.bipush 119, 2) := by decide +kernel
theorem dX7_lineNow_96 : decode cX7_lineNow 96 = .ok (.bipush 105, 2) := by decide +kernel
theorem dX7_lineNow_98 : decode cX7_lineNow 98 = .ok (.bipush 100, 2) := by decide +kernel
theorem dX7_lineNow_100 : decode cX7_lineNow 100 = .ok (.bipush 111, 2) := by decide +kernel
theorem dX7_lineNow_102 : decode cX7_lineNow 102 = .ok (.invokevirtual 133, 3) := by decide +kernel
theorem dX7_lineNow_105 : decode cX7_lineNow 105 = .ok (.ifCond .eq 17, 3) := by decide +kernel
theorem dX7_lineNow_108 : decode cX7_lineNow 108 = .ok (.aload_n 0, 1) := by decide +kernel
theorem dX7_lineNow_109 : decode cX7_lineNow 109 = .ok (.bipush 119, 2) := by decide +kernel
theorem dX7_lineNow_111 : decode cX7_lineNow 111 = .ok (.iconst 0, 1) := by decide +kernel
theorem dX7_lineNow_112 : decode cX7_lineNow 112 = .ok (.iconst 0, 1) := by decide +kernel
theorem dX7_lineNow_113 : decode cX7_lineNow 113 = .ok (.iconst 0, 1) := by decide +kernel
theorem dX7_lineNow_114 : decode cX7_lineNow 114 = .ok (.invokevirtual 137, 3) := by decide +kernel
theorem dX7_lineNow_117 : decode cX7_lineNow 117 = .ok (.ifCond .eq 5, 3) := by decide +kernel
theorem dX7_lineNow_120 : decode cX7_lineNow 120 = .ok (.iconst 3, 1) := by decide +kernel
theorem dX7_lineNow_121 : decode cX7_lineNow 121 = .ok (.ireturn, 1) := by decide +kernel
theorem dX7_lineNow_122 : decode cX7_lineNow 122 = .ok (.aload_n 0, 1) := by decide +kernel
theorem dX7_lineNow_123 : decode cX7_lineNow 123 = .ok (.iconst 4, 1) := by decide +kernel
theorem dX7_lineNow_124 : decode cX7_lineNow 124 = .ok (.bipush 116, 2) := by decide +kernel
theorem dX7_lineNow_126 : decode cX7_lineNow 126 = .ok (.bipush 114, 2) := by decide +kernel
theorem dX7_lineNow_128 : decode cX7_lineNow 128 = .ok (.bipush 105, 2) := by decide +kernel
theorem dX7_lineNow_130 : decode cX7_lineNow 130 = .ok (.bipush 112, 2) := by decide +kernel
theorem dX7_lineNow_132 : decode cX7_lineNow 132 = .ok (.invokevirtual 133, 3) := by decide +kernel
theorem dX7_lineNow_135 : decode cX7_lineNow 135 = .ok (.ifCond .eq 5, 3) := by decide +kernel
theorem dX7_lineNow_138 : decode cX7_lineNow 138 = .ok (.iconst 4, 1) := by decide +kernel
theorem dX7_lineNow_139 : decode cX7_lineNow 139 = .ok (.ireturn, 1) := by decide +kernel
theorem dX7_lineNow_140 : decode cX7_lineNow 140 = .ok (.aload_n 0, 1) := by decide +kernel
theorem dX7_lineNow_141 : decode cX7_lineNow 141 = .ok (.iconst 5, 1) := by decide +kernel
theorem dX7_lineNow_142 : decode cX7_lineNow 142 = .ok (.bipush 97, 2) := by decide +kernel
theorem dX7_lineNow_144 : decode cX7_lineNow 144 = .ok (.bipush 115, 2) := by decide +kernel
theorem dX7_lineNow_146 : decode cX7_lineNow 146 = .ok (.bipush 107, 2) := by decide +kernel
theorem dX7_lineNow_148 : decode cX7_lineNow 148 = .ok (.bipush 101, 2) := by decide +kernel
theorem dX7_lineNow_150 : decode cX7_lineNow 150 = .ok (.invokevirtual 133, 3) := by decide +kernel
theorem dX7_lineNow_153 : decode cX7_lineNow 153 = .ok (.ifCond .eq 17, 3) := by decide +kernel
theorem dX7_lineNow_156 : decode cX7_lineNow 156 = .ok (.aload_n 0, 1) := by decide +kernel
theorem dX7_lineNow_157 : decode cX7_lineNow 157 = .ok (.bipush 100, 2) := by decide +kernel
theorem dX7_lineNow_159 : decode cX7_lineNow 159 = .ok (.iconst 0, 1) := by decide +kernel
theorem dX7_lineNow_160 : decode cX7_lineNow 160 = .ok (.iconst 0, 1) := by decide +kernel
theorem dX7_lineNow_161 : decode cX7_lineNow 161 = .ok (.iconst 0, 1) := by decide +kernel
theorem dX7_lineNow_162 : decode cX7_lineNow 162 = .ok (.invokevirtual 137, 3) := by decide +kernel
theorem dX7_lineNow_165 : decode cX7_lineNow 165 = .ok (.ifCond .eq 5, 3) := by decide +kernel
theorem dX7_lineNow_168 : decode cX7_lineNow 168 = .ok (.iconst 5, 1) := by decide +kernel
theorem dX7_lineNow_169 : decode cX7_lineNow 169 = .ok (.ireturn, 1) := by decide +kernel
theorem dX7_lineNow_170 : decode cX7_lineNow 170 = .ok (.aload_n 0, 1) := by decide +kernel
theorem dX7_lineNow_171 : decode cX7_lineNow 171 = .ok (.bipush 8, 2) := by decide +kernel
theorem dX7_lineNow_173 : decode cX7_lineNow 173 = .ok (.bipush 105, 2) := by decide +kernel
theorem dX7_lineNow_175 : decode cX7_lineNow 175 = .ok (.bipush 110, 2) := by decide +kernel
theorem dX7_lineNow_177 : decode cX7_lineNow 177 = .ok (.bipush 116, 2) := by decide +kernel
theorem dX7_lineNow_179 : decode cX7_lineNow 179 = .ok (.bipush 101, 2) := by decide +kernel
theorem dX7_lineNow_181 : decode cX7_lineNow 181 = .ok (.invokevirtual 133, 3) := by decide +kernel
theorem dX7_lineNow_184 : decode cX7_lineNow 184 = .ok (.ifCond .eq 23, 3) := by decide +kernel
theorem dX7_lineNow_187 : decode cX7_lineNow 187 = .ok (.aload_n 0, 1) := by decide +kernel
theorem dX7_lineNow_188 : decode cX7_lineNow 188 = .ok (.bipush 114, 2) := by decide +kernel
theorem dX7_lineNow_190 : decode cX7_lineNow 190 = .ok (.bipush 101, 2) := by decide +kernel
theorem dX7_lineNow_192 : decode cX7_lineNow 192 = .ok (.bipush 115, 2) := by decide +kernel
theorem dX7_lineNow_194 : decode cX7_lineNow 194 = .ok (.bipush 116, 2) := by decide +kernel
theorem dX7_lineNow_196 : decode cX7_lineNow 196 = .ok (.invokevirtual 137, 3) := by decide +kernel
theorem dX7_lineNow_199 : decode cX7_lineNow 199 = .ok (.ifCond .eq 8, 3) := by decide +kernel
theorem dX7_lineNow_202 : decode cX7_lineNow 202 = .ok (.bipush 6, 2) := by decide +kernel
theorem dX7_lineNow_204 : decode cX7_lineNow 204 = .ok (.goto 38, 3) := by decide +kernel
theorem dX7_lineNow_207 : decode cX7_lineNow 207 = .ok (.aload_n 0, 1) := by decide +kernel
theorem dX7_lineNow_208 : decode cX7_lineNow 208 = .ok (.iconst 5, 1) := by decide +kernel
theorem dX7_lineNow_209 : decode cX7_lineNow 209 = .ok (.bipush 99, 2) := by decide +kernel
theorem dX7_lineNow_211 : decode cX7_lineNow 211 = .ok (.bipush 111, 2) := by decide +kernel
theorem dX7_lineNow_213 : decode cX7_lineNow 213 = .ok (.bipush 118, 2) := by decide +kernel
theorem dX7_lineNow_215 : decode cX7_lineNow 215 = .ok (.bipush 101, 2) := by decide +kernel
theorem dX7_lineNow_217 : decode cX7_lineNow 217 = .ok (.invokevirtual 133, 3) := by decide +kernel
theorem dX7_lineNow_220 : decode cX7_lineNow 220 = .ok (.ifCond .eq 20, 3) := by decide +kernel
theorem dX7_lineNow_223 : decode cX7_lineNow 223 = .ok (.aload_n 0, 1) := by decide +kernel
theorem dX7_lineNow_224 : decode cX7_lineNow 224 = .ok (.bipush 114, 2) := by decide +kernel
theorem dX7_lineNow_226 : decode cX7_lineNow 226 = .ok (.iconst 0, 1) := by decide +kernel
theorem dX7_lineNow_227 : decode cX7_lineNow 227 = .ok (.iconst 0, 1) := by decide +kernel
theorem dX7_lineNow_228 : decode cX7_lineNow 228 = .ok (.iconst 0, 1) := by decide +kernel
theorem dX7_lineNow_229 : decode cX7_lineNow 229 = .ok (.invokevirtual 137, 3) := by decide +kernel
theorem dX7_lineNow_232 : decode cX7_lineNow 232 = .ok (.ifCond .eq 8, 3) := by decide +kernel
theorem dX7_lineNow_235 : decode cX7_lineNow 235 = .ok (.bipush 7, 2) := by decide +kernel
theorem dX7_lineNow_237 : decode cX7_lineNow 237 = .ok (.goto 5, 3) := by decide +kernel
theorem dX7_lineNow_240 : decode cX7_lineNow 240 = .ok (.bipush (-4), 2) := by decide +kernel
theorem dX7_lineNow_242 : decode cX7_lineNow 242 = .ok (.ireturn, 1) := by decide +kernel
set_option maxRecDepth 20000 in
theorem ggX7_next_X7_byteAt : GoodIn wsX7_next wsX7_byteAt := goodIn_r _ [14, 15, 16, 25, 26, 27, 28, 29, 30, 31, 32, 33, 34, 35, 36, 37, 38, 39, 40, 41, 42, 43, 44, 45, 46, 47, 48, 49, 50, 51, 52, 53, 54, 55, 56, 57, 58, 59, 60, 61, 62, 63] (by decide +kernel) (by decide +kernel)
set_option maxRecDepth 20000 in
theorem gX7_next_X7_byteAt : GoodIn wsX7_next (wsV RX7 129 RX7 yX7_byteAt wsX7_byteAt) := goodIn_app (goodIn_of _ (by decide +kernel)) ggX7_next_X7_byteAt
set_option maxRecDepth 20000 in
theorem ggX7_next_X7_in : GoodIn wsX7_next wsX7_in := goodIn_r _ [19] (by decide +kernel) (by decide +kernel)
set_option maxRecDepth 20000 in
theorem gX7_next_X7_in : GoodIn wsX7_next (va_wsS RX7 110 yX7_in wsX7_in) := goodIn_app (goodIn_of _ (by decide +kernel)) ggX7_next_X7_in
set_option maxRecDepth 20000 in
theorem ggX7_next_X7_needs : GoodIn wsX7_next wsX7_needs := goodIn_r _ [23, 1, 3, 24, 25, 26, 27, 28, 29, 30, 31, 32, 33, 34, 35, 36, 37, 38, 39, 40, 41, 42, 43, 44, 45, 46, 47, 48, 49, 50, 51, 52, 53, 54, 55, 56, 57, 58, 59, 60, 61, 62, 63] (by decide +kernel) (by decide +kernel)
set_option maxRecDepth 20000 in
theorem gX7_next_X7_needs : GoodIn wsX7_next (wsV RX7 155 RX7 yX7_needs wsX7_needs) := goodIn_app (goodIn_of _ (by decide +kernel)) ggX7_next_X7_needs
theorem dX7_next_0 : decode cX7_next 0 = .ok (.aload_n 0, 1) := by decide +kernel
theorem dX7_next_1 : decode cX7_next 1 = .ok (.getfield 117, 3) := by decide +kernel
theorem dX7_next_4 : decode cX7_next 4 = .ok (.ifCond .le 4, 3) := by decide +kernel
theorem dX7_next_7 : decode cX7_next 7 = .ok (.return_, 1) := by decide +kernel
theorem dX7_next_8 : decode cX7_next 8 = .ok (.aload_n 0, 1) := by decide +kernel
theorem dX7_next_9 : decode cX7_next 9 = .ok (.aload_n 0, 1) := by decide +kernel
theorem dX7_next_10 : decode cX7_next 10 = .ok (.getfield 126, 3) := by decide +kernel
theorem dX7_next_13 : decode cX7_next 13 = .ok (.invokevirtual 129, 3) := by decide +kernel
theorem dX7_next_16 : decode cX7_next 16 = .ok (.bipush 32, 2) := by decide +kernel
theorem dX7_next_18 : decode cX7_next 18 = .ok (.if_icmp .ne 16, 3) := by decide +kernel
theorem dX7_next_21 : decode cX7_next 21 = .ok (.aload_n 0, 1) := by decide +kernel
theorem dX7_next_22 : decode cX7_next 22 = .ok (.dup, 1) := by decide +kernel
theorem dX7_next_23 : decode cX7_next 23 = .ok (.getfield 126, 3) := by decide +kernel
theorem dX7_next_26 : decode cX7_next 26 = .ok (.iconst 1, 1) := by decide +kernel
theorem dX7_next_27 : decode cX7_next 27 = .ok (.iadd, 1) := by decide +kernel
theorem dX7_next_28 : decode cX7_next 28 = .ok (.putfield 126, 3) := by decide +kernel
theorem dX7_next_31 : decode cX7_next 31 = .ok (.goto (-23), 3) := by decide +kernel
theorem dX7_next_34 : decode cX7_next 34 = .ok (.aload_n 0, 1) := by decide +kernel
theorem dX7_next_35 : decode cX7_next 35 = .ok (.aload_n 0, 1) := by decide +kernel
theorem dX7_next_36 : decode cX7_next 36 = .ok (.getfield 126, 3) := by decide +kernel
theorem dX7_next_39 : decode cX7_next 39 = .ok (.putfield 120, 3) := by decide +kernel
theorem dX7_next_42 : decode cX7_next 42 = .ok (.aload_n 0, 1) := by decide +kernel
theorem dX7_next_43 : decode cX7_next 43 = .ok (.aload_n 0, 1) := by decide +kernel
theorem dX7_next_44 : decode cX7_next 44 = .ok (.getfield 126, 3) := by decide +kernel
theorem dX7_next_47 : decode cX7_next 47 = .ok (.invokevirtual 129, 3) := by decide +kernel
theorem dX7_next_50 : decode cX7_next 50 = .ok (.istore_n 1, 1) := by decide +kernel
theorem dX7_next_51 : decode cX7_next 51 = .ok (.iload_n 1, 1) := by decide +kernel
theorem dX7_next_52 : decode cX7_next 52 = .ok (.ifCond .ge 11, 3) := by decide +kernel
theorem dX7_next_55 : decode cX7_next 55 = .ok (.aload_n 0, 1) := by decide +kernel
theorem dX7_next_56 : decode cX7_next 56 = .ok (.iconst 0, 1) := by decide +kernel
theorem dX7_next_57 : decode cX7_next 57 = .ok (.putfield 141, 3) := by decide +kernel
theorem dX7_next_60 : decode cX7_next 60 = .ok (.goto 214, 3) := by decide +kernel
theorem dX7_next_63 : decode cX7_next 63 = .ok (.iload_n 1, 1) := by decide +kernel
theorem dX7_next_64 : decode cX7_next 64 = .ok (.i2l, 1) := by decide +kernel
theorem dX7_next_65 : decode cX7_next 65 = .ok (.ldc2_w 144, 3) := by decide +kernel
theorem dX7_next_68 : decode cX7_next 68 = .ok (.ldc2_w 146, 3) := by decide +kernel
theorem dX7_next_71 : decode cX7_next 71 = .ok (.invokestatic 110, 3) := by decide +kernel
theorem dX7_next_74 : decode cX7_next 74 = .ok (.ifCond .eq 42, 3) := by decide +kernel
theorem dX7_next_77 : decode cX7_next 77 = .ok (.aload_n 0, 1) := by decide +kernel
theorem dX7_next_78 : decode cX7_next 78 = .ok (.iconst 1, 1) := by decide +kernel
theorem dX7_next_79 : decode cX7_next 79 = .ok (.putfield 141, 3) := by decide +kernel
theorem dX7_next_82 : decode cX7_next 82 = .ok (.aload_n 0, 1) := by decide +kernel
theorem dX7_next_83 : decode cX7_next 83 = .ok (.aload_n 0, 1) := by decide +kernel
theorem dX7_next_84 : decode cX7_next 84 = .ok (.getfield 126, 3) := by decide +kernel
theorem dX7_next_87 : decode cX7_next 87 = .ok (.invokevirtual 129, 3) := by decide +kernel
theorem dX7_next_90 : decode cX7_next 90 = .ok (.i2l, 1) := by decide +kernel
theorem dX7_next_91 : decode cX7_next 91 = .ok (.ldc2_w 144, 3) := by decide +kernel
theorem dX7_next_94 : decode cX7_next 94 = .ok (.ldc2_w 146, 3) := by decide +kernel
theorem dX7_next_97 : decode cX7_next 97 = .ok (.invokestatic 110, 3) := by decide +kernel
theorem dX7_next_100 : decode cX7_next 100 = .ok (.ifCond .eq 174, 3) := by decide +kernel
theorem dX7_next_103 : decode cX7_next 103 = .ok (.aload_n 0, 1) := by decide +kernel
theorem dX7_next_104 : decode cX7_next 104 = .ok (.dup, 1) := by decide +kernel
theorem dX7_next_105 : decode cX7_next 105 = .ok (.getfield 126, 3) := by decide +kernel
theorem dX7_next_108 : decode cX7_next 108 = .ok (.iconst 1, 1) := by decide +kernel
theorem dX7_next_109 : decode cX7_next 109 = .ok (.iadd, 1) := by decide +kernel
theorem dX7_next_110 : decode cX7_next 110 = .ok (.putfield 126, 3) := by decide +kernel
theorem dX7_next_113 : decode cX7_next 113 = .ok (.goto (-31), 3) := by decide +kernel
theorem dX7_next_116 : decode cX7_next 116 = .ok (.iload_n 1, 1) := by decide +kernel
theorem dX7_next_117 : decode cX7_next 117 = .ok (.i2l, 1) := by decide +kernel
theorem dX7_next_118 : decode cX7_next 118 = .ok (.ldc2_w 148, 3) := by decide +kernel
theorem dX7_next_121 : decode cX7_next 121 = .ok (.ldc2_w 150, 3) := by decide +kernel
theorem dX7_next_124 : decode cX7_next 124 = .ok (.invokestatic 110, 3) := by decide +kernel
theorem dX7_next_127 : decode cX7_next 127 = .ok (.ifCond .eq 116, 3) := by decide +kernel
theorem dX7_next_130 : decode cX7_next 130 = .ok (.aload_n 0, 1) := by decide +kernel
theorem dX7_next_131 : decode cX7_next 131 = .ok (.iconst 2, 1) := by decide +kernel
theorem dX7_next_132 : decode cX7_next 132 = .ok (.putfield 141, 3) := by decide +kernel
theorem dX7_next_135 : decode cX7_next 135 = .ok (.aload_n 0, 1) := by decide +kernel
theorem dX7_next_136 : decode cX7_next 136 = .ok (.iconst 0, 1) := by decide +kernel
theorem dX7_next_137 : decode cX7_next 137 = .ok (.putfield 152, 3) := by decide +kernel
theorem dX7_next_140 : decode cX7_next 140 = .ok (.aload_n 0, 1) := by decide +kernel
theorem dX7_next_141 : decode cX7_next 141 = .ok (.aload_n 0, 1) := by decide +kernel
theorem dX7_next_142 : decode cX7_next 142 = .ok (.getfield 126, 3) := by decide +kernel
theorem dX7_next_145 : decode cX7_next 145 = .ok (.invokevirtual 129, 3) := by decide +kernel
theorem dX7_next_148 : decode cX7_next 148 = .ok (.i2l, 1) := by decide +kernel
theorem dX7_next_149 : decode cX7_next 149 = .ok (.ldc2_w 148, 3) := by decide +kernel
theorem dX7_next_152 : decode cX7_next 152 = .ok (.ldc2_w 150, 3) := by decide +kernel
theorem dX7_next_155 : decode cX7_next 155 = .ok (.invokestatic 110, 3) := by decide +kernel
theorem dX7_next_158 : decode cX7_next 158 = .ok (.ifCond .eq 59, 3) := by decide +kernel
theorem dX7_next_161 : decode cX7_next 161 = .ok (.aload_n 0, 1) := by decide +kernel
theorem dX7_next_162 : decode cX7_next 162 = .ok (.aload_n 0, 1) := by decide +kernel
theorem dX7_next_163 : decode cX7_next 163 = .ok (.getfield 126, 3) := by decide +kernel
theorem dX7_next_166 : decode cX7_next 166 = .ok (.aload_n 0, 1) := by decide +kernel
theorem dX7_next_167 : decode cX7_next 167 = .ok (.getfield 120, 3) := by decide +kernel
theorem dX7_next_170 : decode cX7_next 170 = .ok (.isub, 1) := by decide +kernel
theorem dX7_next_171 : decode cX7_next 171 = .ok (.iconst 2, 1) := by decide +kernel
theorem dX7_next_172 : decode cX7_next 172 = .ok (.if_icmp .ge 25, 3) := by decide +kernel
theorem dX7_next_175 : decode cX7_next 175 = .ok (.bipush 10, 2) := by decide +kernel
theorem dX7_next_177 : decode cX7_next 177 = .ok (.aload_n 0, 1) := by decide +kernel
theorem dX7_next_178 : decode cX7_next 178 = .ok (.getfield 152, 3) := by decide +kernel
theorem dX7_next_181 : decode cX7_next 181 = .ok (.imul, 1) := by decide +kernel
theorem dX7_next_182 : decode cX7_next 182 = .ok (.aload_n 0, 1) := by decide +kernel
theorem dX7_next_183 : decode cX7_next 183 = .ok (.aload_n 0, 1) := by decide +kernel
theorem dX7_next_184 : decode cX7_next 184 = .ok (.getfield 126, 3) := by decide +kernel
theorem dX7_next_187 : decode cX7_next 187 = .ok (.invokevirtual 129, 3) := by decide +kernel
theorem dX7_next_190 : decode cX7_next 190 = .ok (.iadd, 1) := by decide +kernel
theorem dX7_next_191 : decode cX7_next 191 = .ok (.bipush 48, 2) := by decide +kernel
theorem dX7_next_193 : decode cX7_next 193 = .ok (.isub, 1) := by decide +kernel
theorem dX7_next_194 : decode cX7_next 194 = .ok (.goto 7, 3) := by decide +kernel
theorem dX7_next_197 : decode cX7_next 197 = .ok (.aload_n 0, 1) := by decide +kernel
theorem dX7_next_198 : decode cX7_next 198 = .ok (.getfield 152, 3) := by decide +kernel
theorem dX7_next_201 : decode cX7_next 201 = .ok (.putfield 152, 3) := by decide +kernel
theorem dX7_next_204 : decode cX7_next 204 = .ok (.aload_n 0, 1) := by decide +kernel
theorem dX7_next_205 : decode cX7_next 205 = .ok (.dup, 1) := by decide +kernel
theorem dX7_next_206 : decode cX7_next 206 = .ok (.getfield 126, 3) := by decide +kernel
theorem dX7_next_209 : decode cX7_next 209 = .ok (.iconst 1, 1) := by decide +kernel
theorem dX7_next_210 : decode cX7_next 210 = .ok (.iadd, 1) := by decide +kernel
theorem dX7_next_211 : decode cX7_next 211 = .ok (.putfield 126, 3) := by decide +kernel
theorem dX7_next_214 : decode cX7_next 214 = .ok (.goto (-74), 3) := by decide +kernel
theorem dX7_next_217 : decode cX7_next 217 = .ok (.aload_n 0, 1) := by decide +kernel
theorem dX7_next_218 : decode cX7_next 218 = .ok (.aload_n 0, 1) := by decide +kernel
theorem dX7_next_219 : decode cX7_next 219 = .ok (.getfield 126, 3) := by decide +kernel
theorem dX7_next_222 : decode cX7_next 222 = .ok (.aload_n 0, 1) := by decide +kernel
theorem dX7_next_223 : decode cX7_next 223 = .ok (.getfield 120, 3) := by decide +kernel
theorem dX7_next_226 : decode cX7_next 226 = .ok (.isub, 1) := by decide +kernel
theorem dX7_next_227 : decode cX7_next 227 = .ok (.iconst 2, 1) := by decide +kernel
theorem dX7_next_228 : decode cX7_next 228 = .ok (.if_icmp .gt 7, 3) := by decide +kernel
theorem dX7_next_231 : decode cX7_next 231 = .ok (.iconst 1, 1) := by decide +kernel
theorem dX7_next_232 : decode cX7_next 232 = .ok (.goto 4, 3) := by decide +kernel
theorem dX7_next_235 : decode cX7_next 235 = .ok (.iconst 0, 1) := by decide +kernel
theorem dX7_next_236 : decode cX7_next 236 = .ok (.iconst 1, 1) := by decide +kernel
theorem dX7_next_237 : decode cX7_next 237 = .ok (.invokevirtual 155, 3) := by decide +kernel
theorem dX7_next_240 : decode cX7_next 240 = .ok (.goto 34, 3) := by decide +kernel
theorem dX7_next_243 : decode cX7_next 243 = .ok (.aload_n 0, 1) := by decide +kernel
theorem dX7_next_244 : decode cX7_next 244 = .ok (.iconst 3, 1) := by decide +kernel
theorem dX7_next_245 : decode cX7_next 245 = .ok (.putfield 141, 3) := by decide +kernel
theorem dX7_next_248 : decode cX7_next 248 = .ok (.aload_n 0, 1) := by decide +kernel
theorem dX7_next_249 : decode cX7_next 249 = .ok (.iload_n 1, 1) := by decide +kernel
theorem dX7_next_250 : decode cX7_next 250 = .ok (.bipush 59, 2) := by decide +kernel
theorem dX7_next_252 : decode cX7_next 252 = .ok (.if_icmp .ne 7, 3) := by decide +kernel
theorem dX7_next_255 : decode cX7_next 255 = .ok (.iconst 1, 1) := by decide +kernel
theorem dX7_next_256 : decode cX7_next 256 = .ok (.goto 4, 3) := by decide +kernel
theorem dX7_next_259 : decode cX7_next 259 = .ok (.iconst 0, 1) := by decide +kernel
theorem dX7_next_260 : decode cX7_next 260 = .ok (.iconst 1, 1) := by decide +kernel
theorem dX7_next_261 : decode cX7_next 261 = .ok (.invokevirtual 155, 3) := by decide +kernel
theorem dX7_next_264 : decode cX7_next 264 = .ok (.aload_n 0, 1) := by decide +kernel
theorem dX7_next_265 : decode cX7_next 265 = .ok (.dup, 1) := by decide +kernel
theorem dX7_next_266 : decode cX7_next 266 = .ok (.getfield 126, 3) := by decide +kernel
theorem dX7_next_269 : decode cX7_next 269 = .ok (.iconst 1, 1) := by decide +kernel
theorem dX7_next_270 : decode cX7_next 270 = .ok (.iadd, 1) := by decide +kernel
theorem dX7_next_271 : decode cX7_next 271 = .ok (.putfield 126, 3) := by decide +kernel
theorem dX7_next_274 : decode cX7_next 274 = .ok (.return_, 1) := by decide +kernel
set_option maxRecDepth 20000 in
theorem ggX7_readNumber_X7_needs : GoodIn wsX7_readNumber wsX7_needs := goodIn_r _ [8, 1, 9, 10, 29, 30, 31, 32, 33, 34, 35, 36, 37, 38, 39, 40, 41, 42, 43, 44, 45, 46, 47, 48, 49, 50, 51, 52, 53, 54, 55, 56, 57, 58, 59, 60, 61, 62, 63, 64, 65, 66, 67] (by decide +kernel) (by decide +kernel)
set_option maxRecDepth 20000 in
theorem gX7_readNumber_X7_needs : GoodIn wsX7_readNumber (wsV RX7 155 RX7 yX7_needs wsX7_needs) := goodIn_app (goodIn_of _ (by decide +kernel)) ggX7_readNumber_X7_needs
set_option maxRecDepth 20000 in
theorem ggX7_readNumber_X7_in : GoodIn wsX7_readNumber wsX7_in := goodIn_r _ [13] (by decide +kernel) (by decide +kernel)
set_option maxRecDepth 20000 in
theorem gX7_readNumber_X7_in : GoodIn wsX7_readNumber (va_wsS RX7 110 yX7_in wsX7_in) := goodIn_app (goodIn_of _ (by decide +kernel)) ggX7_readNumber_X7_in
set_option maxRecDepth 20000 in
theorem ggX7_readNumber_X7_next : GoodIn wsX7_readNumber wsX7_next := goodIn_r _ [17, 1, 18, 9, 2, 19, 20, 21, 22, 3, 23, 24, 25, 7, 26, 27, 28, 11, 12, 13, 4, 5, 6, 8, 10, 29, 30, 31, 32, 33, 34, 35, 36, 37, 38, 39, 40, 41, 42, 43, 44, 45, 46, 47, 48, 49, 50, 51, 52, 53, 54, 55, 56, 57, 58, 59, 60, 61, 62, 63, 64, 65, 66, 67] (by decide +kernel) (by decide +kernel)
set_option maxRecDepth 20000 in
theorem gX7_readNumber_X7_next : GoodIn wsX7_readNumber (wsV RX7 159 RX7 yX7_next wsX7_next) := goodIn_app (goodIn_of _ (by decide +kernel)) ggX7_readNumber_X7_next
theorem dX7_readNumber_0 : decode cX7_readNumber 0 = .ok (.aload_n 0, 1) := by decide +kernel
theorem dX7_readNumber_1 : decode cX7_readNumber 1 = .ok (.getfield 117, 3) := by decide +kernel
theorem dX7_readNumber_4 : decode cX7_readNumber 4 = .ok (.ifCond .ne 21, 3) := by decide +kernel
theorem dX7_readNumber_7 : decode cX7_readNumber 7 = .ok (.aload_n 0, 1) := by decide +kernel
theorem dX7_readNumber_8 : decode cX7_readNumber 8 = .ok (.aload_n 0, 1) := by decide +kernel
theorem dX7_readNumber_9 : decode cX7_readNumber 9 = .ok (.getfield 141, 3) := by decide +kernel
theorem dX7_readNumber_12 : decode cX7_readNumber 12 = .ok (.iconst 2, 1) := by decide +kernel
theorem dX7_readNumber_13 : decode cX7_readNumber 13 = .ok (.if_icmp .ne 7, 3) := by decide +kernel
theorem dX7_readNumber_16 : decode cX7_readNumber 16 = .ok (.iconst 1, 1) := by decide +kernel
theorem dX7_readNumber_17 : decode cX7_readNumber 17 = .ok (.goto 4, 3) := by decide +kernel
theorem dX7_readNumber_20 : decode cX7_readNumber 20 = .ok (.iconst 0, 1) := by decide +kernel
theorem dX7_readNumber_21 : decode cX7_readNumber 21 = .ok (.iconst 2, 1) := by decide +kernel
theorem dX7_readNumber_22 : decode cX7_readNumber 22 = .ok (.invokevirtual 155, 3) := by decide +kernel
theorem dX7_readNumber_25 : decode cX7_readNumber 25 = .ok (.aload_n 0, 1) := by decide +kernel
theorem dX7_readNumber_26 : decode cX7_readNumber 26 = .ok (.getfield 117, 3) := by decide +kernel
theorem dX7_readNumber_29 : decode cX7_readNumber 29 = .ok (.ifCond .ne 20, 3) := by decide +kernel
theorem dX7_readNumber_32 : decode cX7_readNumber 32 = .ok (.aload_n 0, 1) := by decide +kernel
theorem dX7_readNumber_33 : decode cX7_readNumber 33 = .ok (.aload_n 0, 1) := by decide +kernel
theorem dX7_readNumber_34 : decode cX7_readNumber 34 = .ok (.getfield 152, 3) := by decide +kernel
theorem dX7_readNumber_37 : decode cX7_readNumber 37 = .ok (.i2l, 1) := by decide +kernel
theorem dX7_readNumber_38 : decode cX7_readNumber 38 = .ok (.iload_n 1, 1) := by decide +kernel
theorem dX7_readNumber_39 : decode cX7_readNumber 39 = .ok (.i2l, 1) := by decide +kernel
theorem dX7_readNumber_40 : decode cX7_readNumber 40 = .ok (.iload_n 2, 1) := by decide +kernel
theorem dX7_readNumber_41 : decode cX7_readNumber 41 = .ok (.i2l, 1) := by decide +kernel
theorem dX7_readNumber_42 : decode cX7_readNumber 42 = .ok (.invokestatic 110, 3) := by decide +kernel
theorem dX7_readNumber_45 : decode cX7_readNumber 45 = .ok (.iconst 3, 1) := by decide +kernel
theorem dX7_readNumber_46 : decode cX7_readNumber 46 = .ok (.invokevirtual 155, 3) := by decide +kernel
theorem dX7_readNumber_49 : decode cX7_readNumber 49 = .ok (.aload_n 0, 1) := by decide +kernel
theorem dX7_readNumber_50 : decode cX7_readNumber 50 = .ok (.getfield 117, 3) := by decide +kernel
theorem dX7_readNumber_53 : decode cX7_readNumber 53 = .ok (.ifCond .ne 10, 3) := by decide +kernel
theorem dX7_readNumber_56 : decode cX7_readNumber 56 = .ok (.aload_n 0, 1) := by decide +kernel
theorem dX7_readNumber_57 : decode cX7_readNumber 57 = .ok (.getfield 152, 3) := by decide +kernel
theorem dX7_readNumber_60 : decode cX7_readNumber 60 = .ok (.goto 4, 3) := by decide +kernel
theorem dX7_readNumber_63 : decode cX7_readNumber 63 = .ok (.iconst 0, 1) := by decide +kernel
theorem dX7_readNumber_64 : decode cX7_readNumber 64 = .ok (.istore_n 3, 1) := by decide +kernel
theorem dX7_readNumber_65 : decode cX7_readNumber 65 = .ok (.aload_n 0, 1) := by decide +kernel
theorem dX7_readNumber_66 : decode cX7_readNumber 66 = .ok (.invokevirtual 159, 3) := by decide +kernel
theorem dX7_readNumber_69 : decode cX7_readNumber 69 = .ok (.iload_n 3, 1) := by decide +kernel
theorem dX7_readNumber_70 : decode cX7_readNumber 70 = .ok (.ireturn, 1) := by decide +kernel
set_option maxRecDepth 20000 in
theorem ggX7_readPerson_X7_readNumber : GoodIn wsX7_readPerson wsX7_readNumber := goodIn_r _ [6, 7, 8, 9, 10, 11, 12, 5, 13, 14, 15, 16, 17, 18, 19, 20, 21, 22, 23, 24, 25, 26, 27, 28, 29, 30, 31, 32, 33, 34, 35, 36, 37, 38, 39, 40, 41, 42, 43, 44, 45, 46, 47, 48, 49, 50, 51, 52, 53, 54, 55, 56, 57, 58, 59, 60, 61, 62, 63, 64, 65, 66, 67, 68, 69, 70, 71, 72] (by decide +kernel) (by decide +kernel)
set_option maxRecDepth 20000 in
theorem gX7_readPerson_X7_readNumber : GoodIn wsX7_readPerson (wsV RX7 162 RX7 yX7_readNumber wsX7_readNumber) := goodIn_app (goodIn_of _ (by decide +kernel)) ggX7_readPerson_X7_readNumber
theorem dX7_readPerson_0 : decode cX7_readPerson 0 = .ok (.aload_n 0, 1) := by decide +kernel
theorem dX7_readPerson_1 : decode cX7_readPerson 1 = .ok (.iconst 0, 1) := by decide +kernel
theorem dX7_readPerson_2 : decode cX7_readPerson 2 = .ok (.iconst 3, 1) := by decide +kernel
theorem dX7_readPerson_3 : decode cX7_readPerson 3 = .ok (.invokevirtual 162, 3) := by decide +kernel
theorem dX7_readPerson_6 : decode cX7_readPerson 6 = .ok (.istore_n 1, 1) := by decide +kernel
theorem dX7_readPerson_7 : decode cX7_readPerson 7 = .ok (.aload_n 0, 1) := by decide +kernel
theorem dX7_readPerson_8 : decode cX7_readPerson 8 = .ok (.iload_n 1, 1) := by decide +kernel
theorem dX7_readPerson_9 : decode cX7_readPerson 9 = .ok (.aload_n 0, 1) := by decide +kernel
theorem dX7_readPerson_10 : decode cX7_readPerson 10 = .ok (.getfield 96, 3) := by decide +kernel
theorem dX7_readPerson_13 : decode cX7_readPerson 13 = .ok (.if_icmp .le 7, 3) := by decide +kernel
theorem dX7_readPerson_16 : decode cX7_readPerson 16 = .ok (.iload_n 1, 1) := by decide +kernel
theorem dX7_readPerson_17 : decode cX7_readPerson 17 = .ok (.goto 7, 3) := by decide +kernel
theorem dX7_readPerson_20 : decode cX7_readPerson 20 = .ok (.aload_n 0, 1) := by decide +kernel
theorem dX7_readPerson_21 : decode cX7_readPerson 21 = .ok (.getfield 96, 3) := by decide +kernel
theorem dX7_readPerson_24 : decode cX7_readPerson 24 = .ok (.putfield 96, 3) := by decide +kernel
theorem dX7_readPerson_27 : decode cX7_readPerson 27 = .ok (.iload_n 1, 1) := by decide +kernel
theorem dX7_readPerson_28 : decode cX7_readPerson 28 = .ok (.ireturn, 1) := by decide +kernel
set_option maxRecDepth 20000 in
theorem ggX7_readLineOf_X7_readPerson : GoodIn wsX7_readLineOf wsX7_readPerson := goodIn_r _ [15, 16, 17, 18, 19, 14, 20, 21, 22, 23, 24, 25, 26, 27, 28, 29, 30, 31, 32, 33, 34, 35, 36, 37, 38, 39, 40, 41, 42, 43, 44, 45, 46, 47, 48, 49, 50, 51, 52, 53, 54, 55, 56, 57, 58, 59, 60, 61, 62, 63, 64, 65, 66, 67, 68, 69, 70, 71, 72, 73, 74, 75, 76, 77, 78, 79, 80, 81, 82, 83, 84, 85, 86] (by decide +kernel) (by decide +kernel)
set_option maxRecDepth 20000 in
theorem gX7_readLineOf_X7_readPerson : GoodIn wsX7_readLineOf (wsV RX7 166 RX7 yX7_readPerson wsX7_readPerson) := goodIn_app (goodIn_of _ (by decide +kernel)) ggX7_readLineOf_X7_readPerson
set_option maxRecDepth 20000 in
theorem ggX7_readLineOf_X7_readNumber : GoodIn wsX7_readLineOf wsX7_readNumber := goodIn_r _ [20, 21, 22, 23, 24, 25, 26, 14, 27, 28, 29, 30, 31, 32, 33, 34, 35, 36, 37, 38, 39, 40, 41, 42, 43, 44, 45, 46, 47, 48, 49, 50, 51, 52, 53, 54, 55, 56, 57, 58, 59, 60, 61, 62, 63, 64, 65, 66, 67, 68, 69, 70, 71, 72, 73, 74, 75, 76, 77, 78, 79, 80, 81, 82, 83, 84, 85, 86] (by decide +kernel) (by decide +kernel)
set_option maxRecDepth 20000 in
theorem gX7_readLineOf_X7_readNumber : GoodIn wsX7_readLineOf (wsV RX7 162 RX7 yX7_readNumber wsX7_readNumber) := goodIn_app (goodIn_of _ (by decide +kernel)) ggX7_readLineOf_X7_readNumber
theorem dX7_readLineOf_0 : decode cX7_readLineOf 0 = .ok (.iload_n 1, 1) := by decide +kernel
theorem dX7_readLineOf_1 : decode cX7_readLineOf 1 = .ok (.tableswitch 200 4 7 #[31, 108, 166, 183], 31) := by decide +kernel
theorem dX7_readLineOf_32 : decode cX7_readLineOf 32 = .ok (.aload_n 0, 1) := by decide +kernel
theorem dX7_readLineOf_33 : decode cX7_readLineOf 33 = .ok (.getfield 41, 3) := by decide +kernel
theorem dX7_readLineOf_36 : decode cX7_readLineOf 36 = .ok (.aload_n 0, 1) := by decide +kernel
theorem dX7_readLineOf_37 : decode cX7_readLineOf 37 = .ok (.getfield 87, 3) := by decide +kernel
theorem dX7_readLineOf_40 : decode cX7_readLineOf 40 = .ok (.aload_n 0, 1) := by decide +kernel
theorem dX7_readLineOf_41 : decode cX7_readLineOf 41 = .ok (.invokevirtual 166, 3) := by decide +kernel
theorem dX7_readLineOf_44 : decode cX7_readLineOf 44 = .ok (.iastore, 1) := by decide +kernel
theorem dX7_readLineOf_45 : decode cX7_readLineOf 45 = .ok (.aload_n 0, 1) := by decide +kernel
theorem dX7_readLineOf_46 : decode cX7_readLineOf 46 = .ok (.getfield 44, 3) := by decide +kernel
theorem dX7_readLineOf_49 : decode cX7_readLineOf 49 = .ok (.aload_n 0, 1) := by decide +kernel
theorem dX7_readLineOf_50 : decode cX7_readLineOf 50 = .ok (.getfield 87, 3) := by decide +kernel
theorem dX7_readLineOf_53 : decode cX7_readLineOf 53 = .ok (.aload_n 0, 1) := by decide +kernel
theorem dX7_readLineOf_54 : decode cX7_readLineOf 54 = .ok (.iconst 0, 1) := by decide +kernel
theorem dX7_readLineOf_55 : decode cX7_readLineOf 55 = .ok (.bipush 9, 2) := by decide +kernel
theorem dX7_readLineOf_57 : decode cX7_readLineOf 57 = .ok (.invokevirtual 162, 3) := by decide +kernel
theorem dX7_readLineOf_60 : decode cX7_readLineOf 60 = .ok (.iastore, 1) := by decide +kernel
theorem dX7_readLineOf_61 : decode cX7_readLineOf 61 = .ok (.aload_n 0, 1) := by decide +kernel
theorem dX7_readLineOf_62 : decode cX7_readLineOf 62 = .ok (.getfield 47, 3) := by decide +kernel
theorem dX7_readLineOf_65 : decode cX7_readLineOf 65 = .ok (.aload_n 0, 1) := by decide +kernel
theorem dX7_readLineOf_66 : decode cX7_readLineOf 66 = .ok (.getfield 87, 3) := by decide +kernel
theorem dX7_readLineOf_69 : decode cX7_readLineOf 69 = .ok (.aload_n 0, 1) := by decide +kernel
theorem dX7_readLineOf_70 : decode cX7_readLineOf 70 = .ok (.iconst 0, 1) := by decide +kernel
theorem dX7_readLineOf_71 : decode cX7_readLineOf 71 = .ok (.bipush 9, 2) := by decide +kernel
theorem dX7_readLineOf_73 : decode cX7_readLineOf 73 = .ok (.invokevirtual 162, 3) := by decide +kernel
theorem dX7_readLineOf_76 : decode cX7_readLineOf 76 = .ok (.iastore, 1) := by decide +kernel
theorem dX7_readLineOf_77 : decode cX7_readLineOf 77 = .ok (.aload_n 0, 1) := by decide +kernel
theorem dX7_readLineOf_78 : decode cX7_readLineOf 78 = .ok (.getfield 38, 3) := by decide +kernel
theorem dX7_readLineOf_81 : decode cX7_readLineOf 81 = .ok (.bipush 16, 2) := by decide +kernel
theorem dX7_readLineOf_83 : decode cX7_readLineOf 83 = .ok (.aload_n 0, 1) := by decide +kernel
theorem dX7_readLineOf_84 : decode cX7_readLineOf 84 = .ok (.getfield 87, 3) := by decide +kernel
theorem dX7_readLineOf_87 : decode cX7_readLineOf 87 = .ok (.iadd, 1) := by decide +kernel
theorem dX7_readLineOf_88 : decode cX7_readLineOf 88 = .ok (.aload_n 0, 1) := by decide +kernel
theorem dX7_readLineOf_89 : decode cX7_readLineOf 89 = .ok (.iconst 0, 1) := by decide +kernel
theorem dX7_readLineOf_90 : decode cX7_readLineOf 90 = .ok (.bipush 9, 2) := by decide +kernel
theorem dX7_readLineOf_92 : decode cX7_readLineOf 92 = .ok (.invokevirtual 162, 3) := by decide +kernel
theorem dX7_readLineOf_95 : decode cX7_readLineOf 95 = .ok (.iastore, 1) := by decide +kernel
theorem dX7_readLineOf_96 : decode cX7_readLineOf 96 = .ok (.aload_n 0, 1) := by decide +kernel
theorem dX7_readLineOf_97 : decode cX7_readLineOf 97 = .ok (.dup, 1) := by decide +kernel
theorem dX7_readLineOf_98 : decode cX7_readLineOf 98 = .ok (.getfield 87, 3) := by decide +kernel
theorem dX7_readLineOf_101 : decode cX7_readLineOf 101 = .ok (.iconst 1, 1) := by decide +kernel
theorem dX7_readLineOf_102 : decode cX7_readLineOf 102 = .ok (.iadd, 1) := by decide +kernel
theorem dX7_readLineOf_103 : decode cX7_readLineOf 103 = .ok (.putfield 87, 3) := by decide +kernel
theorem dX7_readLineOf_106 : decode cX7_readLineOf 106 = .ok (.goto 139, 3) := by decide +kernel
theorem dX7_readLineOf_109 : decode cX7_readLineOf 109 = .ok (.aload_n 0, 1) := by decide +kernel
theorem dX7_readLineOf_110 : decode cX7_readLineOf 110 = .ok (.getfield 50, 3) := by decide +kernel
theorem dX7_readLineOf_113 : decode cX7_readLineOf 113 = .ok (.aload_n 0, 1) := by decide +kernel
theorem dX7_readLineOf_114 : decode cX7_readLineOf 114 = .ok (.getfield 90, 3) := by decide +kernel
theorem dX7_readLineOf_117 : decode cX7_readLineOf 117 = .ok (.aload_n 0, 1) := by decide +kernel
theorem dX7_readLineOf_118 : decode cX7_readLineOf 118 = .ok (.invokevirtual 166, 3) := by decide +kernel
theorem dX7_readLineOf_121 : decode cX7_readLineOf 121 = .ok (.iastore, 1) := by decide +kernel
theorem dX7_readLineOf_122 : decode cX7_readLineOf 122 = .ok (.aload_n 0, 1) := by decide +kernel
theorem dX7_readLineOf_123 : decode cX7_readLineOf 123 = .ok (.getfield 53, 3) := by decide +kernel
theorem dX7_readLineOf_126 : decode cX7_readLineOf 126 = .ok (.aload_n 0, 1) := by decide +kernel
theorem dX7_readLineOf_127 : decode cX7_readLineOf 127 = .ok (.getfield 90, 3) := by decide +kernel
theorem dX7_readLineOf_130 : decode cX7_readLineOf 130 = .ok (.aload_n 0, 1) := by decide +kernel
theorem dX7_readLineOf_131 : decode cX7_readLineOf 131 = .ok (.iconst 0, 1) := by decide +kernel
theorem dX7_readLineOf_132 : decode cX7_readLineOf 132 = .ok (.bipush 9, 2) := by decide +kernel
theorem dX7_readLineOf_134 : decode cX7_readLineOf 134 = .ok (.invokevirtual 162, 3) := by decide +kernel
theorem dX7_readLineOf_137 : decode cX7_readLineOf 137 = .ok (.iastore, 1) := by decide +kernel
theorem dX7_readLineOf_138 : decode cX7_readLineOf 138 = .ok (.aload_n 0, 1) := by decide +kernel
theorem dX7_readLineOf_139 : decode cX7_readLineOf 139 = .ok (.getfield 56, 3) := by decide +kernel
theorem dX7_readLineOf_142 : decode cX7_readLineOf 142 = .ok (.aload_n 0, 1) := by decide +kernel
theorem dX7_readLineOf_143 : decode cX7_readLineOf 143 = .ok (.getfield 90, 3) := by decide +kernel
theorem dX7_readLineOf_146 : decode cX7_readLineOf 146 = .ok (.aload_n 0, 1) := by decide +kernel
theorem dX7_readLineOf_147 : decode cX7_readLineOf 147 = .ok (.iconst 0, 1) := by decide +kernel
theorem dX7_readLineOf_148 : decode cX7_readLineOf 148 = .ok (.bipush 30, 2) := by decide +kernel
theorem dX7_readLineOf_150 : decode cX7_readLineOf 150 = .ok (.invokevirtual 162, 3) := by decide +kernel
theorem dX7_readLineOf_153 : decode cX7_readLineOf 153 = .ok (.iastore, 1) := by decide +kernel
theorem dX7_readLineOf_154 : decode cX7_readLineOf 154 = .ok (.aload_n 0, 1) := by decide +kernel
theorem dX7_readLineOf_155 : decode cX7_readLineOf 155 = .ok (.dup, 1) := by decide +kernel
theorem dX7_readLineOf_156 : decode cX7_readLineOf 156 = .ok (.getfield 90, 3) := by decide +kernel
theorem dX7_readLineOf_159 : decode cX7_readLineOf 159 = .ok (.iconst 1, 1) := by decide +kernel
theorem dX7_readLineOf_160 : decode cX7_readLineOf 160 = .ok (.iadd, 1) := by decide +kernel
theorem dX7_readLineOf_161 : decode cX7_readLineOf 161 = .ok (.putfield 90, 3) := by decide +kernel
theorem dX7_readLineOf_164 : decode cX7_readLineOf 164 = .ok (.goto 81, 3) := by decide +kernel
theorem dX7_readLineOf_167 : decode cX7_readLineOf 167 = .ok (.aload_n 0, 1) := by decide +kernel
theorem dX7_readLineOf_168 : decode cX7_readLineOf 168 = .ok (.getfield 38, 3) := by decide +kernel
theorem dX7_readLineOf_171 : decode cX7_readLineOf 171 = .ok (.bipush 23, 2) := by decide +kernel
theorem dX7_readLineOf_173 : decode cX7_readLineOf 173 = .ok (.aload_n 0, 1) := by decide +kernel
theorem dX7_readLineOf_174 : decode cX7_readLineOf 174 = .ok (.iconst 0, 1) := by decide +kernel
theorem dX7_readLineOf_175 : decode cX7_readLineOf 175 = .ok (.bipush 9, 2) := by decide +kernel
theorem dX7_readLineOf_177 : decode cX7_readLineOf 177 = .ok (.invokevirtual 162, 3) := by decide +kernel
theorem dX7_readLineOf_180 : decode cX7_readLineOf 180 = .ok (.iastore, 1) := by decide +kernel
theorem dX7_readLineOf_181 : decode cX7_readLineOf 181 = .ok (.goto 64, 3) := by decide +kernel
theorem dX7_readLineOf_184 : decode cX7_readLineOf 184 = .ok (.aload_n 0, 1) := by decide +kernel
theorem dX7_readLineOf_185 : decode cX7_readLineOf 185 = .ok (.getfield 38, 3) := by decide +kernel
theorem dX7_readLineOf_188 : decode cX7_readLineOf 188 = .ok (.bipush 24, 2) := by decide +kernel
theorem dX7_readLineOf_190 : decode cX7_readLineOf 190 = .ok (.aload_n 0, 1) := by decide +kernel
theorem dX7_readLineOf_191 : decode cX7_readLineOf 191 = .ok (.iconst 0, 1) := by decide +kernel
theorem dX7_readLineOf_192 : decode cX7_readLineOf 192 = .ok (.bipush 99, 2) := by decide +kernel
theorem dX7_readLineOf_194 : decode cX7_readLineOf 194 = .ok (.invokevirtual 162, 3) := by decide +kernel
theorem dX7_readLineOf_197 : decode cX7_readLineOf 197 = .ok (.iastore, 1) := by decide +kernel
theorem dX7_readLineOf_198 : decode cX7_readLineOf 198 = .ok (.goto 47, 3) := by decide +kernel
theorem dX7_readLineOf_201 : decode cX7_readLineOf 201 = .ok (.aload_n 0, 1) := by decide +kernel
theorem dX7_readLineOf_202 : decode cX7_readLineOf 202 = .ok (.getfield 38, 3) := by decide +kernel
theorem dX7_readLineOf_205 : decode cX7_readLineOf 205 = .ok (.iconst 4, 1) := by decide +kernel
theorem dX7_readLineOf_206 : decode cX7_readLineOf 206 = .ok (.aload_n 0, 1) := by decide +kernel
theorem dX7_readLineOf_207 : decode cX7_readLineOf 207 = .ok (.getfield 83, 3) := by decide +kernel
theorem dX7_readLineOf_210 : decode cX7_readLineOf 210 = .ok (.imul, 1) := by decide +kernel
theorem dX7_readLineOf_211 : decode cX7_readLineOf 211 = .ok (.iconst 0, 1) := by decide +kernel
theorem dX7_readLineOf_212 : decode cX7_readLineOf 212 = .ok (.iadd, 1) := by decide +kernel
theorem dX7_readLineOf_213 : decode cX7_readLineOf 213 = .ok (.iload_n 1, 1) := by decide +kernel
theorem dX7_readLineOf_214 : decode cX7_readLineOf 214 = .ok (.iastore, 1) := by decide +kernel
theorem dX7_readLineOf_215 : decode cX7_readLineOf 215 = .ok (.aload_n 0, 1) := by decide +kernel
theorem dX7_readLineOf_216 : decode cX7_readLineOf 216 = .ok (.getfield 38, 3) := by decide +kernel
theorem dX7_readLineOf_219 : decode cX7_readLineOf 219 = .ok (.iconst 4, 1) := by decide +kernel
theorem dX7_readLineOf_220 : decode cX7_readLineOf 220 = .ok (.aload_n 0, 1) := by decide +kernel
theorem dX7_readLineOf_221 : decode cX7_readLineOf 221 = .ok (.getfield 83, 3) := by decide +kernel
theorem dX7_readLineOf_224 : decode cX7_readLineOf 224 = .ok (.imul, 1) := by decide +kernel
theorem dX7_readLineOf_225 : decode cX7_readLineOf 225 = .ok (.iconst 1, 1) := by decide +kernel
theorem dX7_readLineOf_226 : decode cX7_readLineOf 226 = .ok (.iadd, 1) := by decide +kernel
theorem dX7_readLineOf_227 : decode cX7_readLineOf 227 = .ok (.aload_n 0, 1) := by decide +kernel
theorem dX7_readLineOf_228 : decode cX7_readLineOf 228 = .ok (.iconst 0, 1) := by decide +kernel
theorem dX7_readLineOf_229 : decode cX7_readLineOf 229 = .ok (.bipush 99, 2) := by decide +kernel
theorem dX7_readLineOf_231 : decode cX7_readLineOf 231 = .ok (.invokevirtual 162, 3) := by decide +kernel
theorem dX7_readLineOf_234 : decode cX7_readLineOf 234 = .ok (.iastore, 1) := by decide +kernel
theorem dX7_readLineOf_235 : decode cX7_readLineOf 235 = .ok (.aload_n 0, 1) := by decide +kernel
theorem dX7_readLineOf_236 : decode cX7_readLineOf 236 = .ok (.dup, 1) := by decide +kernel
theorem dX7_readLineOf_237 : decode cX7_readLineOf 237 = .ok (.getfield 83, 3) := by decide +kernel
theorem dX7_readLineOf_240 : decode cX7_readLineOf 240 = .ok (.iconst 1, 1) := by decide +kernel
theorem dX7_readLineOf_241 : decode cX7_readLineOf 241 = .ok (.iadd, 1) := by decide +kernel
theorem dX7_readLineOf_242 : decode cX7_readLineOf 242 = .ok (.putfield 83, 3) := by decide +kernel
theorem dX7_readLineOf_245 : decode cX7_readLineOf 245 = .ok (.return_, 1) := by decide +kernel
set_option maxRecDepth 20000 in
theorem ggX7_readLine_X7_lineNow : GoodIn wsX7_readLine wsX7_lineNow := goodIn_r _ [12, 13, 14, 15, 11, 16, 17, 18, 19, 20, 21, 22, 23, 24, 25, 26, 27, 28, 66, 67, 68, 69, 70, 71, 72, 73, 74, 75, 76, 77, 78, 79, 80, 81, 82, 83, 84, 85, 86, 87, 88, 89, 90, 91, 92, 93, 94, 95, 96, 97, 98, 99, 100, 101, 102, 103, 104] (by decide +kernel) (by decide +kernel)
set_option maxRecDepth 20000 in
theorem gX7_readLine_X7_lineNow : GoodIn wsX7_readLine (wsV RX7 170 RX7 yX7_lineNow wsX7_lineNow) := goodIn_app (goodIn_of _ (by decide +kernel)) ggX7_readLine_X7_lineNow
set_option maxRecDepth 20000 in
theorem ggX7_readLine_X7_in : GoodIn wsX7_readLine wsX7_in := goodIn_r _ [31] (by decide +kernel) (by decide +kernel)
set_option maxRecDepth 20000 in
theorem gX7_readLine_X7_in : GoodIn wsX7_readLine (va_wsS RX7 110 yX7_in wsX7_in) := goodIn_app (goodIn_of _ (by decide +kernel)) ggX7_readLine_X7_in
set_option maxRecDepth 20000 in
theorem ggX7_readLine_X7_needs : GoodIn wsX7_readLine wsX7_needs := goodIn_r _ [35, 6, 18, 36, 66, 67, 68, 69, 70, 71, 72, 73, 74, 75, 76, 77, 78, 79, 80, 81, 82, 83, 84, 85, 86, 87, 88, 89, 90, 91, 92, 93, 94, 95, 96, 97, 98, 99, 100, 101, 102, 103, 104] (by decide +kernel) (by decide +kernel)
set_option maxRecDepth 20000 in
theorem gX7_readLine_X7_needs : GoodIn wsX7_readLine (wsV RX7 155 RX7 yX7_needs wsX7_needs) := goodIn_app (goodIn_of _ (by decide +kernel)) ggX7_readLine_X7_needs
set_option maxRecDepth 20000 in
theorem ggX7_readLine_X7_next : GoodIn wsX7_readLine wsX7_next := goodIn_r _ [40, 6, 17, 18, 1, 41, 42, 43, 44, 45, 19, 20, 21, 11, 22, 23, 24, 29, 30, 31, 32, 33, 34, 35, 36, 66, 67, 68, 69, 70, 71, 72, 73, 74, 75, 76, 77, 78, 79, 80, 81, 82, 83, 84, 85, 86, 87, 88, 89, 90, 91, 92, 93, 94, 95, 96, 97, 98, 99, 100, 101, 102, 103, 104] (by decide +kernel) (by decide +kernel)
set_option maxRecDepth 20000 in
theorem gX7_readLine_X7_next : GoodIn wsX7_readLine (wsV RX7 159 RX7 yX7_next wsX7_next) := goodIn_app (goodIn_of _ (by decide +kernel)) ggX7_readLine_X7_next
set_option maxRecDepth 20000 in
theorem ggX7_readLine_X7_readLineOf : GoodIn wsX7_readLine wsX7_readLineOf := goodIn_r _ [49, 50, 2, 51, 52, 53, 54, 3, 55, 56, 5, 57, 58, 59, 11, 60, 61, 62, 63, 64, 65, 6, 1, 45, 32, 33, 34, 35, 18, 36, 29, 30, 31, 37, 38, 39, 40, 17, 41, 42, 43, 44, 19, 20, 21, 22, 23, 24, 66, 67, 68, 69, 70, 71, 72, 73, 74, 75, 76, 77, 78, 79, 80, 81, 82, 83, 84, 85, 86, 87, 88, 89, 90, 91, 92, 93, 94, 95, 96, 97, 98, 99, 100, 101, 102, 103, 104] (by decide +kernel) (by decide +kernel)
set_option maxRecDepth 20000 in
theorem gX7_readLine_X7_readLineOf : GoodIn wsX7_readLine (wsV RX7 175 RX7 yX7_readLineOf wsX7_readLineOf) := goodIn_app (goodIn_of _ (by decide +kernel)) ggX7_readLine_X7_readLineOf
theorem dX7_readLine_0 : decode cX7_readLine 0 = .ok (.aload_n 0, 1) := by decide +kernel
theorem dX7_readLine_1 : decode cX7_readLine 1 = .ok (.getfield 141, 3) := by decide +kernel
theorem dX7_readLine_4 : decode cX7_readLine 4 = .ok (.iconst 1, 1) := by decide +kernel
theorem dX7_readLine_5 : decode cX7_readLine 5 = .ok (.if_icmp .ne 10, 3) := by decide +kernel
theorem dX7_readLine_8 : decode cX7_readLine 8 = .ok (.aload_n 0, 1) := by decide +kernel
theorem dX7_readLine_9 : decode cX7_readLine 9 = .ok (.invokevirtual 170, 3) := by decide +kernel
theorem dX7_readLine_12 : decode cX7_readLine 12 = .ok (.goto 5, 3) := by decide +kernel
theorem dX7_readLine_15 : decode cX7_readLine 15 = .ok (.bipush (-4), 2) := by decide +kernel
theorem dX7_readLine_17 : decode cX7_readLine 17 = .ok (.istore_n 1, 1) := by decide +kernel
theorem dX7_readLine_18 : decode cX7_readLine 18 = .ok (.iload_n 1, 1) := by decide +kernel
theorem dX7_readLine_19 : decode cX7_readLine 19 = .ok (.iconst 4, 1) := by decide +kernel
theorem dX7_readLine_20 : decode cX7_readLine 20 = .ok (.if_icmp .ne 20, 3) := by decide +kernel
theorem dX7_readLine_23 : decode cX7_readLine 23 = .ok (.aload_n 0, 1) := by decide +kernel
theorem dX7_readLine_24 : decode cX7_readLine 24 = .ok (.getfield 87, 3) := by decide +kernel
theorem dX7_readLine_27 : decode cX7_readLine 27 = .ok (.bipush 6, 2) := by decide +kernel
theorem dX7_readLine_29 : decode cX7_readLine 29 = .ok (.if_icmp .ne 7, 3) := by decide +kernel
theorem dX7_readLine_32 : decode cX7_readLine 32 = .ok (.iconst 1, 1) := by decide +kernel
theorem dX7_readLine_33 : decode cX7_readLine 33 = .ok (.goto 54, 3) := by decide +kernel
theorem dX7_readLine_36 : decode cX7_readLine 36 = .ok (.iconst 0, 1) := by decide +kernel
theorem dX7_readLine_37 : decode cX7_readLine 37 = .ok (.goto 50, 3) := by decide +kernel
theorem dX7_readLine_40 : decode cX7_readLine 40 = .ok (.iload_n 1, 1) := by decide +kernel
theorem dX7_readLine_41 : decode cX7_readLine 41 = .ok (.iconst 5, 1) := by decide +kernel
theorem dX7_readLine_42 : decode cX7_readLine 42 = .ok (.if_icmp .ne 20, 3) := by decide +kernel
theorem dX7_readLine_45 : decode cX7_readLine 45 = .ok (.aload_n 0, 1) := by decide +kernel
theorem dX7_readLine_46 : decode cX7_readLine 46 = .ok (.getfield 90, 3) := by decide +kernel
theorem dX7_readLine_49 : decode cX7_readLine 49 = .ok (.bipush 6, 2) := by decide +kernel
theorem dX7_readLine_51 : decode cX7_readLine 51 = .ok (.if_icmp .ne 7, 3) := by decide +kernel
theorem dX7_readLine_54 : decode cX7_readLine 54 = .ok (.iconst 1, 1) := by decide +kernel
theorem dX7_readLine_55 : decode cX7_readLine 55 = .ok (.goto 32, 3) := by decide +kernel
theorem dX7_readLine_58 : decode cX7_readLine 58 = .ok (.iconst 0, 1) := by decide +kernel
theorem dX7_readLine_59 : decode cX7_readLine 59 = .ok (.goto 28, 3) := by decide +kernel
theorem dX7_readLine_62 : decode cX7_readLine 62 = .ok (.iload_n 1, 1) := by decide +kernel
theorem dX7_readLine_63 : decode cX7_readLine 63 = .ok (.i2l, 1) := by decide +kernel
theorem dX7_readLine_64 : decode cX7_readLine 64 = .ok (.lconst 0, 1) := by decide +kernel
theorem dX7_readLine_65 : decode cX7_readLine 65 = .ok (.ldc2_w 173, 3) := by decide +kernel
theorem dX7_readLine_68 : decode cX7_readLine 68 = .ok (.invokestatic 110, 3) := by decide +kernel
theorem dX7_readLine_71 : decode cX7_readLine 71 = .ok (.ifCond .eq 15, 3) := by decide +kernel
theorem dX7_readLine_74 : decode cX7_readLine 74 = .ok (.aload_n 0, 1) := by decide +kernel
theorem dX7_readLine_75 : decode cX7_readLine 75 = .ok (.getfield 83, 3) := by decide +kernel
theorem dX7_readLine_78 : decode cX7_readLine 78 = .ok (.iconst 4, 1) := by decide +kernel
theorem dX7_readLine_79 : decode cX7_readLine 79 = .ok (.if_icmp .ne 7, 3) := by decide +kernel
theorem dX7_readLine_82 : decode cX7_readLine 82 = .ok (.iconst 1, 1) := by decide +kernel
theorem dX7_readLine_83 : decode cX7_readLine 83 = .ok (.goto 4, 3) := by decide +kernel
theorem dX7_readLine_86 : decode cX7_readLine 86 = .ok (.iconst 0, 1) := by decide +kernel
theorem dX7_readLine_87 : decode cX7_readLine 87 = .ok (.istore_n 2, 1) := by decide +kernel
theorem dX7_readLine_88 : decode cX7_readLine 88 = .ok (.aload_n 0, 1) := by decide +kernel
theorem dX7_readLine_89 : decode cX7_readLine 89 = .ok (.iload_n 1, 1) := by decide +kernel
theorem dX7_readLine_90 : decode cX7_readLine 90 = .ok (.bipush (-4), 2) := by decide +kernel
theorem dX7_readLine_92 : decode cX7_readLine 92 = .ok (.if_icmp .eq 7, 3) := by decide +kernel
theorem dX7_readLine_95 : decode cX7_readLine 95 = .ok (.iconst 1, 1) := by decide +kernel
theorem dX7_readLine_96 : decode cX7_readLine 96 = .ok (.goto 4, 3) := by decide +kernel
theorem dX7_readLine_99 : decode cX7_readLine 99 = .ok (.iconst 0, 1) := by decide +kernel
theorem dX7_readLine_100 : decode cX7_readLine 100 = .ok (.iconst 2, 1) := by decide +kernel
theorem dX7_readLine_101 : decode cX7_readLine 101 = .ok (.invokevirtual 155, 3) := by decide +kernel
theorem dX7_readLine_104 : decode cX7_readLine 104 = .ok (.aload_n 0, 1) := by decide +kernel
theorem dX7_readLine_105 : decode cX7_readLine 105 = .ok (.iload_n 2, 1) := by decide +kernel
theorem dX7_readLine_106 : decode cX7_readLine 106 = .ok (.ifCond .ne 7, 3) := by decide +kernel
theorem dX7_readLine_109 : decode cX7_readLine 109 = .ok (.iconst 1, 1) := by decide +kernel
theorem dX7_readLine_110 : decode cX7_readLine 110 = .ok (.goto 4, 3) := by decide +kernel
theorem dX7_readLine_113 : decode cX7_readLine 113 = .ok (.iconst 0, 1) := by decide +kernel
theorem dX7_readLine_114 : decode cX7_readLine 114 = .ok (.iconst 5, 1) := by decide +kernel
theorem dX7_readLine_115 : decode cX7_readLine 115 = .ok (.invokevirtual 155, 3) := by decide +kernel
theorem dX7_readLine_118 : decode cX7_readLine 118 = .ok (.aload_n 0, 1) := by decide +kernel
theorem dX7_readLine_119 : decode cX7_readLine 119 = .ok (.getfield 117, 3) := by decide +kernel
theorem dX7_readLine_122 : decode cX7_readLine 122 = .ok (.ifCond .ne 42, 3) := by decide +kernel
theorem dX7_readLine_125 : decode cX7_readLine 125 = .ok (.iload_n 1, 1) := by decide +kernel
theorem dX7_readLine_126 : decode cX7_readLine 126 = .ok (.bipush 6, 2) := by decide +kernel
theorem dX7_readLine_128 : decode cX7_readLine 128 = .ok (.if_icmp .lt 36, 3) := by decide +kernel
theorem dX7_readLine_131 : decode cX7_readLine 131 = .ok (.aload_n 0, 1) := by decide +kernel
theorem dX7_readLine_132 : decode cX7_readLine 132 = .ok (.aload_n 0, 1) := by decide +kernel
theorem dX7_readLine_133 : decode cX7_readLine 133 = .ok (.getfield 93, 3) := by decide +kernel
theorem dX7_readLine_136 : decode cX7_readLine 136 = .ok (.iload_n 1, 1) := by decide +kernel
theorem dX7_readLine_137 : decode cX7_readLine 137 = .ok (.ishr, 1) := by decide +kernel
theorem dX7_readLine_138 : decode cX7_readLine 138 = .ok (.iconst 1, 1) := by decide +kernel
theorem dX7_readLine_139 : decode cX7_readLine 139 = .ok (.iand, 1) := by decide +kernel
theorem dX7_readLine_140 : decode cX7_readLine 140 = .ok (.ifCond .ne 7, 3) := by decide +kernel
theorem dX7_readLine_143 : decode cX7_readLine 143 = .ok (.iconst 1, 1) := by decide +kernel
theorem dX7_readLine_144 : decode cX7_readLine 144 = .ok (.goto 4, 3) := by decide +kernel
theorem dX7_readLine_147 : decode cX7_readLine 147 = .ok (.iconst 0, 1) := by decide +kernel
theorem dX7_readLine_148 : decode cX7_readLine 148 = .ok (.iconst 4, 1) := by decide +kernel
theorem dX7_readLine_149 : decode cX7_readLine 149 = .ok (.invokevirtual 155, 3) := by decide +kernel
theorem dX7_readLine_152 : decode cX7_readLine 152 = .ok (.aload_n 0, 1) := by decide +kernel
theorem dX7_readLine_153 : decode cX7_readLine 153 = .ok (.dup, 1) := by decide +kernel
theorem dX7_readLine_154 : decode cX7_readLine 154 = .ok (.getfield 93, 3) := by decide +kernel
theorem dX7_readLine_157 : decode cX7_readLine 157 = .ok (.iconst 1, 1) := by decide +kernel
theorem dX7_readLine_158 : decode cX7_readLine 158 = .ok (.iload_n 1, 1) := by decide +kernel
theorem dX7_readLine_159 : decode cX7_readLine 159 = .ok (.ishl, 1) := by decide +kernel
theorem dX7_readLine_160 : decode cX7_readLine 160 = .ok (.ior, 1) := by decide +kernel
theorem dX7_readLine_161 : decode cX7_readLine 161 = .ok (.putfield 93, 3) := by decide +kernel
theorem dX7_readLine_164 : decode cX7_readLine 164 = .ok (.aload_n 0, 1) := by decide +kernel
theorem dX7_readLine_165 : decode cX7_readLine 165 = .ok (.invokevirtual 159, 3) := by decide +kernel
theorem dX7_readLine_168 : decode cX7_readLine 168 = .ok (.aload_n 0, 1) := by decide +kernel
theorem dX7_readLine_169 : decode cX7_readLine 169 = .ok (.getfield 117, 3) := by decide +kernel
theorem dX7_readLine_172 : decode cX7_readLine 172 = .ok (.ifCond .le 4, 3) := by decide +kernel
theorem dX7_readLine_175 : decode cX7_readLine 175 = .ok (.return_, 1) := by decide +kernel
theorem dX7_readLine_176 : decode cX7_readLine 176 = .ok (.aload_n 0, 1) := by decide +kernel
theorem dX7_readLine_177 : decode cX7_readLine 177 = .ok (.iload_n 1, 1) := by decide +kernel
theorem dX7_readLine_178 : decode cX7_readLine 178 = .ok (.invokevirtual 175, 3) := by decide +kernel
theorem dX7_readLine_181 : decode cX7_readLine 181 = .ok (.aload_n 0, 1) := by decide +kernel
theorem dX7_readLine_182 : decode cX7_readLine 182 = .ok (.getfield 117, 3) := by decide +kernel
theorem dX7_readLine_185 : decode cX7_readLine 185 = .ok (.ifCond .ne 21, 3) := by decide +kernel
theorem dX7_readLine_188 : decode cX7_readLine 188 = .ok (.aload_n 0, 1) := by decide +kernel
theorem dX7_readLine_189 : decode cX7_readLine 189 = .ok (.aload_n 0, 1) := by decide +kernel
theorem dX7_readLine_190 : decode cX7_readLine 190 = .ok (.getfield 141, 3) := by decide +kernel
theorem dX7_readLine_193 : decode cX7_readLine 193 = .ok (.iconst 3, 1) := by decide +kernel
theorem dX7_readLine_194 : decode cX7_readLine 194 = .ok (.if_icmp .ne 7, 3) := by decide +kernel
theorem dX7_readLine_197 : decode cX7_readLine 197 = .ok (.iconst 1, 1) := by decide +kernel
theorem dX7_readLine_198 : decode cX7_readLine 198 = .ok (.goto 4, 3) := by decide +kernel
theorem dX7_readLine_201 : decode cX7_readLine 201 = .ok (.iconst 0, 1) := by decide +kernel
theorem dX7_readLine_202 : decode cX7_readLine 202 = .ok (.iconst 2, 1) := by decide +kernel
theorem dX7_readLine_203 : decode cX7_readLine 203 = .ok (.invokevirtual 155, 3) := by decide +kernel
theorem dX7_readLine_206 : decode cX7_readLine 206 = .ok (.aload_n 0, 1) := by decide +kernel
theorem dX7_readLine_207 : decode cX7_readLine 207 = .ok (.invokevirtual 159, 3) := by decide +kernel
theorem dX7_readLine_210 : decode cX7_readLine 210 = .ok (.return_, 1) := by decide +kernel
set_option maxRecDepth 20000 in
theorem ggX7_text_X7_firstDraft : GoodIn wsX7_text wsX7_firstDraft := goodIn_r _ [12, 13, 5, 14, 15, 16, 4, 89, 90, 91, 92, 93, 94, 95, 96, 97, 98, 99, 100, 101, 102, 103, 104, 105, 106, 107, 108, 109, 110, 111, 112, 113, 114, 115, 116, 117, 118, 119, 120, 121, 122, 123, 124, 125, 126, 127] (by decide +kernel) (by decide +kernel)
set_option maxRecDepth 20000 in
theorem gX7_text_X7_firstDraft : GoodIn wsX7_text (wsV RX7 77 RX7 yX7_firstDraft wsX7_firstDraft) := goodIn_app (goodIn_of _ (by decide +kernel)) ggX7_text_X7_firstDraft
set_option maxRecDepth 20000 in
theorem ggX7_text_X7_next : GoodIn wsX7_text wsX7_next := goodIn_r _ [20, 1, 2, 21, 3, 22, 23, 24, 25, 26, 27, 28, 29, 11, 30, 6, 31, 32, 33, 34, 35, 36, 37, 38, 7, 89, 90, 91, 92, 93, 94, 95, 96, 97, 98, 99, 100, 101, 102, 103, 104, 105, 106, 107, 108, 109, 110, 111, 112, 113, 114, 115, 116, 117, 118, 119, 120, 121, 122, 123, 124, 125, 126, 127] (by decide +kernel) (by decide +kernel)
set_option maxRecDepth 20000 in
theorem gX7_text_X7_next : GoodIn wsX7_text (wsV RX7 159 RX7 yX7_next wsX7_next) := goodIn_app (goodIn_of _ (by decide +kernel)) ggX7_text_X7_next
set_option maxRecDepth 20000 in
theorem ggX7_text_X7_readLine : GoodIn wsX7_text wsX7_readLine := goodIn_r _ [42, 3, 14, 15, 43, 5, 1, 16, 44, 45, 46, 11, 47, 48, 49, 50, 51, 2, 21, 27, 28, 29, 30, 6, 31, 52, 53, 54, 55, 32, 33, 34, 35, 36, 37, 38, 7, 17, 18, 19, 20, 22, 23, 24, 25, 26, 56, 57, 58, 59, 60, 61, 62, 13, 63, 64, 65, 66, 67, 68, 69, 4, 70, 71, 72, 73, 89, 90, 91, 92, 93, 94, 95, 96, 97, 98, 99, 100, 101, 102, 103, 104, 105, 106, 107, 108, 109, 110, 111, 112, 113, 114, 115, 116, 117, 118, 119, 120, 121, 122, 123, 124, 125, 126, 127] (by decide +kernel) (by decide +kernel)
set_option maxRecDepth 20000 in
theorem gX7_text_X7_readLine : GoodIn wsX7_text (wsV RX7 179 RX7 yX7_readLine wsX7_readLine) := goodIn_app (goodIn_of _ (by decide +kernel)) ggX7_text_X7_readLine
set_option maxRecDepth 20000 in
theorem ggX7_text_X7_needs : GoodIn wsX7_text wsX7_needs := goodIn_r _ [38, 1, 21, 7, 89, 90, 91, 92, 93, 94, 95, 96, 97, 98, 99, 100, 101, 102, 103, 104, 105, 106, 107, 108, 109, 110, 111, 112, 113, 114, 115, 116, 117, 118, 119, 120, 121, 122, 123, 124, 125, 126, 127] (by decide +kernel) (by decide +kernel)
set_option maxRecDepth 20000 in
theorem gX7_text_X7_needs : GoodIn wsX7_text (wsV RX7 155 RX7 yX7_needs wsX7_needs) := goodIn_app (goodIn_of _ (by decide +kernel)) ggX7_text_X7_needs
set_option maxRecDepth 20000 in
theorem ggX7_text_X7_keepDraft : GoodIn wsX7_text wsX7_keepDraft := goodIn_r _ [77, 78, 13, 5, 79, 14, 80, 15, 81, 82, 60, 83, 61, 84, 62, 85, 63, 86, 64, 87, 65, 88, 89, 90, 91, 92, 93, 94, 95, 96, 97, 98, 99, 100, 101, 102, 103, 104, 105, 106, 107, 108, 109, 110, 111, 112, 113, 114, 115, 116, 117, 118, 119, 120, 121, 122, 123, 124, 125, 126, 127] (by decide +kernel) (by decide +kernel)
set_option maxRecDepth 20000 in
theorem gX7_text_X7_keepDraft : GoodIn wsX7_text (wsV RX7 80 RX7 yX7_keepDraft wsX7_keepDraft) := goodIn_app (goodIn_of _ (by decide +kernel)) ggX7_text_X7_keepDraft
theorem dX7_text_0 : decode cX7_text 0 = .ok (.iconst 0, 1) := by decide +kernel
theorem dX7_text_1 : decode cX7_text 1 = .ok (.istore_n 1, 1) := by decide +kernel
theorem dX7_text_2 : decode cX7_text 2 = .ok (.aload_n 0, 1) := by decide +kernel
theorem dX7_text_3 : decode cX7_text 3 = .ok (.iconst 0, 1) := by decide +kernel
theorem dX7_text_4 : decode cX7_text 4 = .ok (.putfield 117, 3) := by decide +kernel
theorem dX7_text_7 : decode cX7_text 7 = .ok (.aload_n 0, 1) := by decide +kernel
theorem dX7_text_8 : decode cX7_text 8 = .ok (.iconst 0, 1) := by decide +kernel
theorem dX7_text_9 : decode cX7_text 9 = .ok (.putfield 126, 3) := by decide +kernel
theorem dX7_text_12 : decode cX7_text 12 = .ok (.aload_n 0, 1) := by decide +kernel
theorem dX7_text_13 : decode cX7_text 13 = .ok (.invokevirtual 77, 3) := by decide +kernel
theorem dX7_text_16 : decode cX7_text 16 = .ok (.aload_n 0, 1) := by decide +kernel
theorem dX7_text_17 : decode cX7_text 17 = .ok (.invokevirtual 159, 3) := by decide +kernel
theorem dX7_text_20 : decode cX7_text 20 = .ok (.aload_n 0, 1) := by decide +kernel
theorem dX7_text_21 : decode cX7_text 21 = .ok (.getfield 117, 3) := by decide +kernel
theorem dX7_text_24 : decode cX7_text 24 = .ok (.ifCond .ne 20, 3) := by decide +kernel
theorem dX7_text_27 : decode cX7_text 27 = .ok (.aload_n 0, 1) := by decide +kernel
theorem dX7_text_28 : decode cX7_text 28 = .ok (.getfield 141, 3) := by decide +kernel
theorem dX7_text_31 : decode cX7_text 31 = .ok (.ifCond .eq 13, 3) := by decide +kernel
theorem dX7_text_34 : decode cX7_text 34 = .ok (.aload_n 0, 1) := by decide +kernel
theorem dX7_text_35 : decode cX7_text 35 = .ok (.invokevirtual 179, 3) := by decide +kernel
theorem dX7_text_38 : decode cX7_text 38 = .ok (.iinc 1 1, 3) := by decide +kernel
theorem dX7_text_41 : decode cX7_text 41 = .ok (.goto (-21), 3) := by decide +kernel
theorem dX7_text_44 : decode cX7_text 44 = .ok (.aload_n 0, 1) := by decide +kernel
theorem dX7_text_45 : decode cX7_text 45 = .ok (.getfield 117, 3) := by decide +kernel
theorem dX7_text_48 : decode cX7_text 48 = .ok (.ifCond .ne 25, 3) := by decide +kernel
theorem dX7_text_51 : decode cX7_text 51 = .ok (.aload_n 0, 1) := by decide +kernel
theorem dX7_text_52 : decode cX7_text 52 = .ok (.aload_n 0, 1) := by decide +kernel
theorem dX7_text_53 : decode cX7_text 53 = .ok (.getfield 96, 3) := by decide +kernel
theorem dX7_text_56 : decode cX7_text 56 = .ok (.aload_n 0, 1) := by decide +kernel
theorem dX7_text_57 : decode cX7_text 57 = .ok (.getfield 83, 3) := by decide +kernel
theorem dX7_text_60 : decode cX7_text 60 = .ok (.if_icmp .ge 7, 3) := by decide +kernel
theorem dX7_text_63 : decode cX7_text 63 = .ok (.iconst 1, 1) := by decide +kernel
theorem dX7_text_64 : decode cX7_text 64 = .ok (.goto 4, 3) := by decide +kernel
theorem dX7_text_67 : decode cX7_text 67 = .ok (.iconst 0, 1) := by decide +kernel
theorem dX7_text_68 : decode cX7_text 68 = .ok (.bipush 6, 2) := by decide +kernel
theorem dX7_text_70 : decode cX7_text 70 = .ok (.invokevirtual 155, 3) := by decide +kernel
theorem dX7_text_73 : decode cX7_text 73 = .ok (.aload_n 0, 1) := by decide +kernel
theorem dX7_text_74 : decode cX7_text 74 = .ok (.iconst 0, 1) := by decide +kernel
theorem dX7_text_75 : decode cX7_text 75 = .ok (.putfield 114, 3) := by decide +kernel
theorem dX7_text_78 : decode cX7_text 78 = .ok (.aload_n 0, 1) := by decide +kernel
theorem dX7_text_79 : decode cX7_text 79 = .ok (.getfield 117, 3) := by decide +kernel
theorem dX7_text_82 : decode cX7_text 82 = .ok (.ifCond .le 11, 3) := by decide +kernel
theorem dX7_text_85 : decode cX7_text 85 = .ok (.bipush (-10), 2) := by decide +kernel
theorem dX7_text_87 : decode cX7_text 87 = .ok (.aload_n 0, 1) := by decide +kernel
theorem dX7_text_88 : decode cX7_text 88 = .ok (.getfield 123, 3) := by decide +kernel
theorem dX7_text_91 : decode cX7_text 91 = .ok (.isub, 1) := by decide +kernel
theorem dX7_text_92 : decode cX7_text 92 = .ok (.ireturn, 1) := by decide +kernel
theorem dX7_text_93 : decode cX7_text 93 = .ok (.aload_n 0, 1) := by decide +kernel
theorem dX7_text_94 : decode cX7_text 94 = .ok (.invokevirtual 80, 3) := by decide +kernel
theorem dX7_text_97 : decode cX7_text 97 = .ok (.iload_n 1, 1) := by decide +kernel
theorem dX7_text_98 : decode cX7_text 98 = .ok (.ireturn, 1) := by decide +kernel
