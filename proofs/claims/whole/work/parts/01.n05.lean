theorem dX5_init_17 : decode cX5_init 17 = .ok (.putfield 15, 3) := by decide +kernel
theorem dX5_init_20 : decode cX5_init 20 = .ok (.aload_n 0, 1) := by decide +kernel
theorem dX5_init_21 : decode cX5_init 21 = .ok (.bipush 6, 2) := by decide +kernel
theorem dX5_init_23 : decode cX5_init 23 = .ok (.newarray .int, 2) := by decide +kernel
theorem dX5_init_25 : decode cX5_init 25 = .ok (.putfield 18, 3) := by decide +kernel
theorem dX5_init_28 : decode cX5_init 28 = .ok (.aload_n 0, 1) := by decide +kernel
theorem dX5_init_29 : decode cX5_init 29 = .ok (.bipush 6, 2) := by decide +kernel
theorem dX5_init_31 : decode cX5_init 31 = .ok (.newarray .int, 2) := by decide +kernel
theorem dX5_init_33 : decode cX5_init 33 = .ok (.putfield 21, 3) := by decide +kernel
theorem dX5_init_36 : decode cX5_init 36 = .ok (.aload_n 0, 1) := by decide +kernel
theorem dX5_init_37 : decode cX5_init 37 = .ok (.bipush 6, 2) := by decide +kernel
theorem dX5_init_39 : decode cX5_init 39 = .ok (.newarray .int, 2) := by decide +kernel
theorem dX5_init_41 : decode cX5_init 41 = .ok (.putfield 24, 3) := by decide +kernel
theorem dX5_init_44 : decode cX5_init 44 = .ok (.aload_n 0, 1) := by decide +kernel
theorem dX5_init_45 : decode cX5_init 45 = .ok (.bipush 6, 2) := by decide +kernel
theorem dX5_init_47 : decode cX5_init 47 = .ok (.newarray .int, 2) := by decide +kernel
theorem dX5_init_49 : decode cX5_init 49 = .ok (.putfield 27, 3) := by decide +kernel
theorem dX5_init_52 : decode cX5_init 52 = .ok (.return_, 1) := by decide +kernel
theorem dX5_copyFrom_0 : decode cX5_copyFrom 0 = .ok (.aload_n 0, 1) := by decide +kernel
theorem dX5_copyFrom_1 : decode cX5_copyFrom 1 = .ok (.aload_n 1, 1) := by decide +kernel
theorem dX5_copyFrom_2 : decode cX5_copyFrom 2 = .ok (.getfield 30, 3) := by decide +kernel
theorem dX5_copyFrom_5 : decode cX5_copyFrom 5 = .ok (.putfield 30, 3) := by decide +kernel
theorem dX5_copyFrom_8 : decode cX5_copyFrom 8 = .ok (.aload_n 1, 1) := by decide +kernel
theorem dX5_copyFrom_9 : decode cX5_copyFrom 9 = .ok (.getfield 9, 3) := by decide +kernel
theorem dX5_copyFrom_12 : decode cX5_copyFrom 12 = .ok (.iconst 0, 1) := by decide +kernel
theorem dX5_copyFrom_13 : decode cX5_copyFrom 13 = .ok (.aload_n 0, 1) := by decide +kernel
theorem dX5_copyFrom_14 : decode cX5_copyFrom 14 = .ok (.getfield 9, 3) := by decide +kernel
theorem dX5_copyFrom_17 : decode cX5_copyFrom 17 = .ok (.iconst 0, 1) := by decide +kernel
theorem dX5_copyFrom_18 : decode cX5_copyFrom 18 = .ok (.bipush 6, 2) := by decide +kernel
theorem dX5_copyFrom_20 : decode cX5_copyFrom 20 = .ok (.invokestatic 34, 3) := by decide +kernel
theorem dX5_copyFrom_23 : decode cX5_copyFrom 23 = .ok (.aload_n 1, 1) := by decide +kernel
theorem dX5_copyFrom_24 : decode cX5_copyFrom 24 = .ok (.getfield 15, 3) := by decide +kernel
theorem dX5_copyFrom_27 : decode cX5_copyFrom 27 = .ok (.iconst 0, 1) := by decide +kernel
theorem dX5_copyFrom_28 : decode cX5_copyFrom 28 = .ok (.aload_n 0, 1) := by decide +kernel
theorem dX5_copyFrom_29 : decode cX5_copyFrom 29 = .ok (.getfield 15, 3) := by decide +kernel
theorem dX5_copyFrom_32 : decode cX5_copyFrom 32 = .ok (.iconst 0, 1) := by decide +kernel
theorem dX5_copyFrom_33 : decode cX5_copyFrom 33 = .ok (.bipush 6, 2) := by decide +kernel
theorem dX5_copyFrom_35 : decode cX5_copyFrom 35 = .ok (.invokestatic 34, 3) := by decide +kernel
theorem dX5_copyFrom_38 : decode cX5_copyFrom 38 = .ok (.aload_n 1, 1) := by decide +kernel
theorem dX5_copyFrom_39 : decode cX5_copyFrom 39 = .ok (.getfield 18, 3) := by decide +kernel
theorem dX5_copyFrom_42 : decode cX5_copyFrom 42 = .ok (.iconst 0, 1) := by decide +kernel
theorem dX5_copyFrom_43 : decode cX5_copyFrom 43 = .ok (.aload_n 0, 1) := by decide +kernel
theorem dX5_copyFrom_44 : decode cX5_copyFrom 44 = .ok (.getfield 18, 3) := by decide +kernel
theorem dX5_copyFrom_47 : decode cX5_copyFrom 47 = .ok (.iconst 0, 1) := by decide +kernel
theorem dX5_copyFrom_48 : decode cX5_copyFrom 48 = .ok (.bipush 6, 2) := by decide +kernel
theorem dX5_copyFrom_50 : decode cX5_copyFrom 50 = .ok (.invokestatic 34, 3) := by decide +kernel
theorem dX5_copyFrom_53 : decode cX5_copyFrom 53 = .ok (.aload_n 0, 1) := by decide +kernel
theorem dX5_copyFrom_54 : decode cX5_copyFrom 54 = .ok (.aload_n 1, 1) := by decide +kernel
theorem dX5_copyFrom_55 : decode cX5_copyFrom 55 = .ok (.getfield 40, 3) := by decide +kernel
theorem dX5_copyFrom_58 : decode cX5_copyFrom 58 = .ok (.putfield 40, 3) := by decide +kernel
theorem dX5_copyFrom_61 : decode cX5_copyFrom 61 = .ok (.aload_n 1, 1) := by decide +kernel
theorem dX5_copyFrom_62 : decode cX5_copyFrom 62 = .ok (.getfield 21, 3) := by decide +kernel
theorem dX5_copyFrom_65 : decode cX5_copyFrom 65 = .ok (.iconst 0, 1) := by decide +kernel
theorem dX5_copyFrom_66 : decode cX5_copyFrom 66 = .ok (.aload_n 0, 1) := by decide +kernel
theorem dX5_copyFrom_67 : decode cX5_copyFrom 67 = .ok (.getfield 21, 3) := by decide +kernel
theorem dX5_copyFrom_70 : decode cX5_copyFrom 70 = .ok (.iconst 0, 1) := by decide +kernel
theorem dX5_copyFrom_71 : decode cX5_copyFrom 71 = .ok (.bipush 6, 2) := by decide +kernel
theorem dX5_copyFrom_73 : decode cX5_copyFrom 73 = .ok (.invokestatic 34, 3) := by decide +kernel
theorem dX5_copyFrom_76 : decode cX5_copyFrom 76 = .ok (.aload_n 1, 1) := by decide +kernel
theorem dX5_copyFrom_77 : decode cX5_copyFrom 77 = .ok (.getfield 24, 3) := by decide +kernel
theorem dX5_copyFrom_80 : decode cX5_copyFrom 80 = .ok (.iconst 0, 1) := by decide +kernel
theorem dX5_copyFrom_81 : decode cX5_copyFrom 81 = .ok (.aload_n 0, 1) := by decide +kernel
theorem dX5_copyFrom_82 : decode cX5_copyFrom 82 = .ok (.getfield 24, 3) := by decide +kernel
theorem dX5_copyFrom_85 : decode cX5_copyFrom 85 = .ok (.iconst 0, 1) := by decide +kernel
theorem dX5_copyFrom_86 : decode cX5_copyFrom 86 = .ok (.bipush 6, 2) := by decide +kernel
theorem dX5_copyFrom_88 : decode cX5_copyFrom 88 = .ok (.invokestatic 34, 3) := by decide +kernel
theorem dX5_copyFrom_91 : decode cX5_copyFrom 91 = .ok (.aload_n 1, 1) := by decide +kernel
theorem dX5_copyFrom_92 : decode cX5_copyFrom 92 = .ok (.getfield 27, 3) := by decide +kernel
theorem dX5_copyFrom_95 : decode cX5_copyFrom 95 = .ok (.iconst 0, 1) := by decide +kernel
theorem dX5_copyFrom_96 : decode cX5_copyFrom 96 = .ok (.aload_n 0, 1) := by decide +kernel
theorem dX5_copyFrom_97 : decode cX5_copyFrom 97 = .ok (.getfield 27, 3) := by decide +kernel
theorem dX5_copyFrom_100 : decode cX5_copyFrom 100 = .ok (.iconst 0, 1) := by decide +kernel
theorem dX5_copyFrom_101 : decode cX5_copyFrom 101 = .ok (.bipush 6, 2) := by decide +kernel
theorem dX5_copyFrom_103 : decode cX5_copyFrom 103 = .ok (.invokestatic 34, 3) := by decide +kernel
theorem dX5_copyFrom_106 : decode cX5_copyFrom 106 = .ok (.return_, 1) := by decide +kernel
theorem dX5_knowsAllOf_0 : decode cX5_knowsAllOf 0 = .ok (.iconst 0, 1) := by decide +kernel
theorem dX5_knowsAllOf_1 : decode cX5_knowsAllOf 1 = .ok (.istore_n 2, 1) := by decide +kernel
theorem dX5_knowsAllOf_2 : decode cX5_knowsAllOf 2 = .ok (.iload_n 2, 1) := by decide +kernel
theorem dX5_knowsAllOf_3 : decode cX5_knowsAllOf 3 = .ok (.aload_n 0, 1) := by decide +kernel
theorem dX5_knowsAllOf_4 : decode cX5_knowsAllOf 4 = .ok (.getfield 30, 3) := by decide +kernel
theorem dX5_knowsAllOf_7 : decode cX5_knowsAllOf 7 = .ok (.if_icmp .ge 21, 3) := by decide +kernel
theorem dX5_knowsAllOf_10 : decode cX5_knowsAllOf 10 = .ok (.aload_n 0, 1) := by decide +kernel
theorem dX5_knowsAllOf_11 : decode cX5_knowsAllOf 11 = .ok (.getfield 9, 3) := by decide +kernel
theorem dX5_knowsAllOf_14 : decode cX5_knowsAllOf 14 = .ok (.iload_n 2, 1) := by decide +kernel
theorem dX5_knowsAllOf_15 : decode cX5_knowsAllOf 15 = .ok (.iaload, 1) := by decide +kernel
theorem dX5_knowsAllOf_16 : decode cX5_knowsAllOf 16 = .ok (.iload_n 1, 1) := by decide +kernel
theorem dX5_knowsAllOf_17 : decode cX5_knowsAllOf 17 = .ok (.if_icmp .lt 5, 3) := by decide +kernel
theorem dX5_knowsAllOf_20 : decode cX5_knowsAllOf 20 = .ok (.iconst 0, 1) := by decide +kernel
theorem dX5_knowsAllOf_21 : decode cX5_knowsAllOf 21 = .ok (.ireturn, 1) := by decide +kernel
theorem dX5_knowsAllOf_22 : decode cX5_knowsAllOf 22 = .ok (.iinc 2 1, 3) := by decide +kernel
theorem dX5_knowsAllOf_25 : decode cX5_knowsAllOf 25 = .ok (.goto (-23), 3) := by decide +kernel
theorem dX5_knowsAllOf_28 : decode cX5_knowsAllOf 28 = .ok (.iconst 0, 1) := by decide +kernel
theorem dX5_knowsAllOf_29 : decode cX5_knowsAllOf 29 = .ok (.istore_n 2, 1) := by decide +kernel
theorem dX5_knowsAllOf_30 : decode cX5_knowsAllOf 30 = .ok (.iload_n 2, 1) := by decide +kernel
theorem dX5_knowsAllOf_31 : decode cX5_knowsAllOf 31 = .ok (.aload_n 0, 1) := by decide +kernel
theorem dX5_knowsAllOf_32 : decode cX5_knowsAllOf 32 = .ok (.getfield 40, 3) := by decide +kernel
theorem dX5_knowsAllOf_35 : decode cX5_knowsAllOf 35 = .ok (.if_icmp .ge 21, 3) := by decide +kernel
theorem dX5_knowsAllOf_38 : decode cX5_knowsAllOf 38 = .ok (.aload_n 0, 1) := by decide +kernel
theorem dX5_knowsAllOf_39 : decode cX5_knowsAllOf 39 = .ok (.getfield 21, 3) := by decide +kernel
theorem dX5_knowsAllOf_42 : decode cX5_knowsAllOf 42 = .ok (.iload_n 2, 1) := by decide +kernel
theorem dX5_knowsAllOf_43 : decode cX5_knowsAllOf 43 = .ok (.iaload, 1) := by decide +kernel
theorem dX5_knowsAllOf_44 : decode cX5_knowsAllOf 44 = .ok (.iload_n 1, 1) := by decide +kernel
theorem dX5_knowsAllOf_45 : decode cX5_knowsAllOf 45 = .ok (.if_icmp .lt 5, 3) := by decide +kernel
theorem dX5_knowsAllOf_48 : decode cX5_knowsAllOf 48 = .ok (.iconst 0, 1) := by decide +kernel
theorem dX5_knowsAllOf_49 : decode cX5_knowsAllOf 49 = .ok (.ireturn, 1) := by decide +kernel
theorem dX5_knowsAllOf_50 : decode cX5_knowsAllOf 50 = .ok (.iinc 2 1, 3) := by decide +kernel
theorem dX5_knowsAllOf_53 : decode cX5_knowsAllOf 53 = .ok (.goto (-23), 3) := by decide +kernel
theorem dX5_knowsAllOf_56 : decode cX5_knowsAllOf 56 = .ok (.iconst 1, 1) := by decide +kernel
theorem dX5_knowsAllOf_57 : decode cX5_knowsAllOf 57 = .ok (.ireturn, 1) := by decide +kernel
set_option maxRecDepth 20000 in
theorem ggX6_init_X3_init : GoodIn wsX6_init wsX3_init := goodIn_r _ [32, 33, 2, 3, 34, 9, 10, 35, 36, 13, 14, 37, 38, 39, 21, 40, 41, 42, 43, 44, 45, 46, 47, 48, 49, 50, 51, 52, 53, 54, 55, 56, 57, 58, 59, 99, 100, 101, 102, 103, 104, 105, 106, 78, 79, 80, 81, 82, 83, 84, 85, 86, 87, 88, 89, 107, 108, 109, 110, 111, 112, 113, 114, 115, 116, 117] (by decide +kernel) (by decide +kernel)
set_option maxRecDepth 20000 in
theorem gX6_init_X3_init_n9 : GoodIn wsX6_init (wsX3_init) := ggX6_init_X3_init
set_option maxRecDepth 20000 in
theorem ggX6_init_X5_init : GoodIn wsX6_init wsX5_init := goodIn_r _ [42, 43, 2, 3, 21, 44, 45, 46, 47, 48, 49, 99, 100, 101, 102, 103, 104, 105, 106] (by decide +kernel) (by decide +kernel)
set_option maxRecDepth 20000 in
theorem gX6_init_X5_init_n18 : GoodIn wsX6_init (wsX5_init) := ggX6_init_X5_init
set_option maxRecDepth 20000 in
theorem ggX6_init_X1_init : GoodIn wsX6_init wsX1_init := goodIn_r _ [51, 52, 2, 3, 21, 53, 54, 55, 56, 57, 58, 59, 107, 108, 109, 110, 111, 112, 113, 114, 115, 116, 117] (by decide +kernel) (by decide +kernel)
set_option maxRecDepth 20000 in
theorem gX6_init_X1_init_n25 : GoodIn wsX6_init (wsX1_init) := ggX6_init_X1_init
set_option maxRecDepth 20000 in
theorem ggX6_init_X2_init : GoodIn wsX6_init wsX2_init := goodIn_r _ [61, 62, 2, 3, 21, 63, 64, 65, 118, 119, 120, 121] (by decide +kernel) (by decide +kernel)
set_option maxRecDepth 20000 in
theorem gX6_init_X2_init_n32 : GoodIn wsX6_init (wsX2_init) := ggX6_init_X2_init
set_option maxRecDepth 20000 in
theorem ggX6_init_X0_init : GoodIn wsX6_init wsX0_init := goodIn_r _ [67, 68, 2, 3, 69, 13, 14, 70, 71, 17, 18, 72, 50, 51, 52, 21, 53, 54, 55, 56, 57, 58, 59, 60, 61, 62, 63, 64, 65, 107, 108, 109, 110, 111, 112, 113, 114, 115, 116, 117, 122, 123, 124, 118, 119, 120, 121] (by decide +kernel) (by decide +kernel)
set_option maxRecDepth 20000 in
theorem gX6_init_X0_init_n56 : GoodIn wsX6_init (wsX0_init) := ggX6_init_X0_init
set_option maxRecDepth 20000 in
theorem ggX6_init_X4_init : GoodIn wsX6_init wsX4_init := goodIn_r _ [74, 75, 2, 3, 76, 21, 77, 125, 126, 127] (by decide +kernel) (by decide +kernel)
set_option maxRecDepth 20000 in
theorem gX6_init_X4_init_n57 : GoodIn wsX6_init (wsX4_init) := ggX6_init_X4_init
theorem dX6_init_0 : decode cX6_init 0 = .ok (.aload_n 0, 1) := by decide +kernel
theorem dX6_init_1 : decode cX6_init 1 = .ok (.invokespecial 1, 3) := by decide +kernel
theorem dX6_init_4 : decode cX6_init 4 = .ok (.aload_n 0, 1) := by decide +kernel
theorem dX6_init_5 : decode cX6_init 5 = .ok (.new 7, 3) := by decide +kernel
theorem dX6_init_8 : decode cX6_init 8 = .ok (.dup, 1) := by decide +kernel
theorem dX6_init_9 : decode cX6_init 9 = .ok (.invokespecial 9, 3) := by decide +kernel
theorem dX6_init_12 : decode cX6_init 12 = .ok (.putfield 10, 3) := by decide +kernel
theorem dX6_init_15 : decode cX6_init 15 = .ok (.aload_n 0, 1) := by decide +kernel
theorem dX6_init_16 : decode cX6_init 16 = .ok (.new 16, 3) := by decide +kernel
theorem dX6_init_19 : decode cX6_init 19 = .ok (.dup, 1) := by decide +kernel
theorem dX6_init_20 : decode cX6_init 20 = .ok (.invokespecial 18, 3) := by decide +kernel
theorem dX6_init_23 : decode cX6_init 23 = .ok (.putfield 19, 3) := by decide +kernel
theorem dX6_init_26 : decode cX6_init 26 = .ok (.aload_n 0, 1) := by decide +kernel
theorem dX6_init_27 : decode cX6_init 27 = .ok (.new 23, 3) := by decide +kernel
theorem dX6_init_30 : decode cX6_init 30 = .ok (.dup, 1) := by decide +kernel
theorem dX6_init_31 : decode cX6_init 31 = .ok (.invokespecial 25, 3) := by decide +kernel
theorem dX6_init_34 : decode cX6_init 34 = .ok (.putfield 26, 3) := by decide +kernel
theorem dX6_init_37 : decode cX6_init 37 = .ok (.aload_n 0, 1) := by decide +kernel
theorem dX6_init_38 : decode cX6_init 38 = .ok (.new 30, 3) := by decide +kernel
theorem dX6_init_41 : decode cX6_init 41 = .ok (.dup, 1) := by decide +kernel
theorem dX6_init_42 : decode cX6_init 42 = .ok (.invokespecial 32, 3) := by decide +kernel
theorem dX6_init_45 : decode cX6_init 45 = .ok (.putfield 33, 3) := by decide +kernel
theorem dX6_init_48 : decode cX6_init 48 = .ok (.aload_n 0, 1) := by decide +kernel
theorem dX6_init_49 : decode cX6_init 49 = .ok (.new 23, 3) := by decide +kernel
theorem dX6_init_52 : decode cX6_init 52 = .ok (.dup, 1) := by decide +kernel
theorem dX6_init_53 : decode cX6_init 53 = .ok (.invokespecial 25, 3) := by decide +kernel
theorem dX6_init_56 : decode cX6_init 56 = .ok (.putfield 37, 3) := by decide +kernel
theorem dX6_init_59 : decode cX6_init 59 = .ok (.aload_n 0, 1) := by decide +kernel
theorem dX6_init_60 : decode cX6_init 60 = .ok (.iconst 4, 1) := by decide +kernel
theorem dX6_init_61 : decode cX6_init 61 = .ok (.newarray .int, 2) := by decide +kernel
theorem dX6_init_63 : decode cX6_init 63 = .ok (.putfield 40, 3) := by decide +kernel
theorem dX6_init_66 : decode cX6_init 66 = .ok (.aload_n 0, 1) := by decide +kernel
theorem dX6_init_67 : decode cX6_init 67 = .ok (.iconst 2, 1) := by decide +kernel
theorem dX6_init_68 : decode cX6_init 68 = .ok (.anewarray 44, 3) := by decide +kernel
theorem dX6_init_71 : decode cX6_init 71 = .ok (.putfield 46, 3) := by decide +kernel
theorem dX6_init_74 : decode cX6_init 74 = .ok (.aload_n 0, 1) := by decide +kernel
theorem dX6_init_75 : decode cX6_init 75 = .ok (.iconst 4, 1) := by decide +kernel
theorem dX6_init_76 : decode cX6_init 76 = .ok (.anewarray 50, 3) := by decide +kernel
theorem dX6_init_79 : decode cX6_init 79 = .ok (.putfield 52, 3) := by decide +kernel
theorem dX6_init_82 : decode cX6_init 82 = .ok (.iconst 0, 1) := by decide +kernel
theorem dX6_init_83 : decode cX6_init 83 = .ok (.istore_n 1, 1) := by decide +kernel
theorem dX6_init_84 : decode cX6_init 84 = .ok (.iload_n 1, 1) := by decide +kernel
theorem dX6_init_85 : decode cX6_init 85 = .ok (.iconst 2, 1) := by decide +kernel
theorem dX6_init_86 : decode cX6_init 86 = .ok (.if_icmp .ge 22, 3) := by decide +kernel
theorem dX6_init_89 : decode cX6_init 89 = .ok (.aload_n 0, 1) := by decide +kernel
theorem dX6_init_90 : decode cX6_init 90 = .ok (.getfield 46, 3) := by decide +kernel
theorem dX6_init_93 : decode cX6_init 93 = .ok (.iload_n 1, 1) := by decide +kernel
theorem dX6_init_94 : decode cX6_init 94 = .ok (.new 44, 3) := by decide +kernel
theorem dX6_init_97 : decode cX6_init 97 = .ok (.dup, 1) := by decide +kernel
theorem dX6_init_98 : decode cX6_init 98 = .ok (.invokespecial 56, 3) := by decide +kernel
theorem dX6_init_101 : decode cX6_init 101 = .ok (.aastore, 1) := by decide +kernel
theorem dX6_init_102 : decode cX6_init 102 = .ok (.iinc 1 1, 3) := by decide +kernel
theorem dX6_init_105 : decode cX6_init 105 = .ok (.goto (-21), 3) := by decide +kernel
theorem dX6_init_108 : decode cX6_init 108 = .ok (.iconst 0, 1) := by decide +kernel
theorem dX6_init_109 : decode cX6_init 109 = .ok (.istore_n 1, 1) := by decide +kernel
theorem dX6_init_110 : decode cX6_init 110 = .ok (.iload_n 1, 1) := by decide +kernel
theorem dX6_init_111 : decode cX6_init 111 = .ok (.iconst 4, 1) := by decide +kernel
theorem dX6_init_112 : decode cX6_init 112 = .ok (.if_icmp .ge 22, 3) := by decide +kernel
theorem dX6_init_115 : decode cX6_init 115 = .ok (.aload_n 0, 1) := by decide +kernel
theorem dX6_init_116 : decode cX6_init 116 = .ok (.getfield 52, 3) := by decide +kernel
theorem dX6_init_119 : decode cX6_init 119 = .ok (.iload_n 1, 1) := by decide +kernel
theorem dX6_init_120 : decode cX6_init 120 = .ok (.new 50, 3) := by decide +kernel
theorem dX6_init_123 : decode cX6_init 123 = .ok (.dup, 1) := by decide +kernel
theorem dX6_init_124 : decode cX6_init 124 = .ok (.invokespecial 57, 3) := by decide +kernel
theorem dX6_init_127 : decode cX6_init 127 = .ok (.aastore, 1) := by decide +kernel
theorem dX6_init_128 : decode cX6_init 128 = .ok (.iinc 1 1, 3) := by decide +kernel
theorem dX6_init_131 : decode cX6_init 131 = .ok (.goto (-21), 3) := by decide +kernel
theorem dX6_init_134 : decode cX6_init 134 = .ok (.return_, 1) := by decide +kernel
set_option maxRecDepth 20000 in
theorem ggX6_feed_X6_isWithin : GoodIn wsX6_feed wsX6_isWithin := goodIn_r _ [5] (by decide +kernel) (by decide +kernel)
set_option maxRecDepth 20000 in
theorem gX6_feed_X6_isWithin : GoodIn wsX6_feed (va_wsS RX6 58 yX6_isWithin wsX6_isWithin) := goodIn_app (goodIn_of _ (by decide +kernel)) ggX6_feed_X6_isWithin
set_option maxRecDepth 20000 in
theorem ggX6_feed_X3_append : GoodIn wsX6_feed wsX3_append := goodIn_r _ [10, 11, 12, 22, 23, 24, 25, 26, 27, 28, 29, 30, 31, 32, 33] (by decide +kernel) (by decide +kernel)
set_option maxRecDepth 20000 in
theorem gX6_feed_X3_append : GoodIn wsX6_feed (wsV RX6 62 RX3 yX3_append wsX3_append) := goodIn_app (goodIn_of _ (by decide +kernel)) ggX6_feed_X3_append
theorem dX6_feed_0 : decode cX6_feed 0 = .ok (.iload_n 1, 1) := by decide +kernel
theorem dX6_feed_1 : decode cX6_feed 1 = .ok (.bipush 127, 2) := by decide +kernel
theorem dX6_feed_3 : decode cX6_feed 3 = .ok (.invokestatic 58, 3) := by decide +kernel
theorem dX6_feed_6 : decode cX6_feed 6 = .ok (.ifCond .ne 5, 3) := by decide +kernel
theorem dX6_feed_9 : decode cX6_feed 9 = .ok (.iconst (-1), 1) := by decide +kernel
theorem dX6_feed_10 : decode cX6_feed 10 = .ok (.ireturn, 1) := by decide +kernel
theorem dX6_feed_11 : decode cX6_feed 11 = .ok (.aload_n 0, 1) := by decide +kernel
theorem dX6_feed_12 : decode cX6_feed 12 = .ok (.getfield 10, 3) := by decide +kernel
theorem dX6_feed_15 : decode cX6_feed 15 = .ok (.iload_n 1, 1) := by decide +kernel
theorem dX6_feed_16 : decode cX6_feed 16 = .ok (.invokevirtual 62, 3) := by decide +kernel
theorem dX6_feed_19 : decode cX6_feed 19 = .ok (.ireturn, 1) := by decide +kernel
set_option maxRecDepth 20000 in
theorem ggX6_end_X6_isWithin : GoodIn wsX6_end wsX6_isWithin := goodIn_r _ [6] (by decide +kernel) (by decide +kernel)
set_option maxRecDepth 20000 in
theorem gX6_end_X6_isWithin : GoodIn wsX6_end (va_wsS RX6 58 yX6_isWithin wsX6_isWithin) := goodIn_app (goodIn_of _ (by decide +kernel)) ggX6_end_X6_isWithin
theorem dX6_end_0 : decode cX6_end 0 = .ok (.iload_n 1, 1) := by decide +kernel
theorem dX6_end_1 : decode cX6_end 1 = .ok (.aload_n 0, 1) := by decide +kernel
theorem dX6_end_2 : decode cX6_end 2 = .ok (.getfield 10, 3) := by decide +kernel
theorem dX6_end_5 : decode cX6_end 5 = .ok (.getfield 66, 3) := by decide +kernel
theorem dX6_end_8 : decode cX6_end 8 = .ok (.invokestatic 58, 3) := by decide +kernel
theorem dX6_end_11 : decode cX6_end 11 = .ok (.ifCond .ne 5, 3) := by decide +kernel
theorem dX6_end_14 : decode cX6_end 14 = .ok (.iconst (-1), 1) := by decide +kernel
theorem dX6_end_15 : decode cX6_end 15 = .ok (.ireturn, 1) := by decide +kernel
theorem dX6_end_16 : decode cX6_end 16 = .ok (.aload_n 0, 1) := by decide +kernel
theorem dX6_end_17 : decode cX6_end 17 = .ok (.getfield 10, 3) := by decide +kernel
theorem dX6_end_20 : decode cX6_end 20 = .ok (.getfield 66, 3) := by decide +kernel
theorem dX6_end_23 : decode cX6_end 23 = .ok (.istore_n 2, 1) := by decide +kernel
theorem dX6_end_24 : decode cX6_end 24 = .ok (.aload_n 0, 1) := by decide +kernel
theorem dX6_end_25 : decode cX6_end 25 = .ok (.getfield 10, 3) := by decide +kernel
theorem dX6_end_28 : decode cX6_end 28 = .ok (.iload_n 1, 1) := by decide +kernel
theorem dX6_end_29 : decode cX6_end 29 = .ok (.putfield 66, 3) := by decide +kernel
theorem dX6_end_32 : decode cX6_end 32 = .ok (.iload_n 2, 1) := by decide +kernel
theorem dX6_end_33 : decode cX6_end 33 = .ok (.ireturn, 1) := by decide +kernel
set_option maxRecDepth 20000 in
theorem ggX6_text_X3_readTape : GoodIn wsX6_text wsX3_readTape := goodIn_r _ [15, 16, 17, 18, 19, 20, 21, 22, 23, 24, 25, 14, 26, 27, 28, 29, 30, 31, 32, 33, 34, 35, 36, 37, 38, 39, 40, 41, 42, 43, 44, 45, 46, 47, 48, 49, 50, 51, 52, 53, 54, 55, 56, 57, 58, 59, 60, 61, 62, 63, 64, 65, 66, 67, 68, 69, 70, 71, 72, 73, 74, 75, 76, 77, 78, 79, 80, 81, 82, 83, 84, 85, 86, 87, 88, 89, 90, 91, 92, 93, 94, 95, 96, 97, 98, 99, 100, 101, 102, 103, 104, 105, 106, 107, 108, 109, 110, 111, 112, 113, 114, 115, 116, 117, 118, 119, 120, 121, 122, 123, 124, 125, 126, 127, 128, 129, 130, 131, 132, 133, 134, 135, 136, 137, 138, 139, 140, 141, 142, 143, 144, 145, 146, 147, 148, 149, 150, 151, 152, 153, 154, 155, 156, 157, 196, 197, 198, 199, 200, 201, 202, 203, 204, 205, 206, 207, 215, 216, 217, 218, 219, 220, 221, 222, 223, 224, 225, 226, 227, 228, 229, 230, 231, 232, 233] (by decide +kernel) (by decide +kernel)
set_option maxRecDepth 20000 in
theorem gX6_text_X3_readTape : GoodIn wsX6_text (wsV RX6 70 RX3 yX3_readTape wsX3_readTape) := goodIn_app (goodIn_of _ (by decide +kernel)) ggX6_text_X3_readTape
set_option maxRecDepth 20000 in
theorem ggX6_text_X5_copyFrom : GoodIn wsX6_text wsX5_copyFrom := goodIn_r _ [161, 154, 155, 162, 163, 164, 165, 166, 167, 156, 157, 168, 169, 226, 227, 228, 229, 230, 231, 232, 233] (by decide +kernel) (by decide +kernel)
set_option maxRecDepth 20000 in
theorem gX6_text_X5_copyFrom : GoodIn wsX6_text (wsV RX6 78 RX5 yX5_copyFrom wsX5_copyFrom) := goodIn_app (goodIn_of _ (by decide +kernel)) ggX6_text_X5_copyFrom
set_option maxRecDepth 20000 in
theorem ggX6_text_X1_copyFrom : GoodIn wsX6_text wsX1_copyFrom := goodIn_r _ [174, 175, 176, 177, 163, 164, 165, 178, 179, 180, 181, 182, 183, 184, 185, 186, 215, 216, 217, 218, 219, 220, 221, 222, 223, 224, 225] (by decide +kernel) (by decide +kernel)
set_option maxRecDepth 20000 in
theorem gX6_text_X1_copyFrom : GoodIn wsX6_text (wsV RX6 83 RX1 yX1_copyFrom wsX1_copyFrom) := goodIn_app (goodIn_of _ (by decide +kernel)) ggX6_text_X1_copyFrom
theorem dX6_text_0 : decode cX6_text 0 = .ok (.aload_n 0, 1) := by decide +kernel
theorem dX6_text_1 : decode cX6_text 1 = .ok (.getfield 10, 3) := by decide +kernel
theorem dX6_text_4 : decode cX6_text 4 = .ok (.invokevirtual 70, 3) := by decide +kernel
theorem dX6_text_7 : decode cX6_text 7 = .ok (.istore_n 1, 1) := by decide +kernel
theorem dX6_text_8 : decode cX6_text 8 = .ok (.aload_n 0, 1) := by decide +kernel
theorem dX6_text_9 : decode cX6_text 9 = .ok (.getfield 10, 3) := by decide +kernel
theorem dX6_text_12 : decode cX6_text 12 = .ok (.getfield 74, 3) := by decide +kernel
theorem dX6_text_15 : decode cX6_text 15 = .ok (.ifCond .ne 62, 3) := by decide +kernel
theorem dX6_text_18 : decode cX6_text 18 = .ok (.aload_n 0, 1) := by decide +kernel
theorem dX6_text_19 : decode cX6_text 19 = .ok (.getfield 19, 3) := by decide +kernel
theorem dX6_text_22 : decode cX6_text 22 = .ok (.aload_n 0, 1) := by decide +kernel
theorem dX6_text_23 : decode cX6_text 23 = .ok (.getfield 10, 3) := by decide +kernel
theorem dX6_text_26 : decode cX6_text 26 = .ok (.getfield 77, 3) := by decide +kernel
theorem dX6_text_29 : decode cX6_text 29 = .ok (.invokevirtual 78, 3) := by decide +kernel
theorem dX6_text_32 : decode cX6_text 32 = .ok (.aload_n 0, 1) := by decide +kernel
theorem dX6_text_33 : decode cX6_text 33 = .ok (.getfield 26, 3) := by decide +kernel
theorem dX6_text_36 : decode cX6_text 36 = .ok (.aload_n 0, 1) := by decide +kernel
theorem dX6_text_37 : decode cX6_text 37 = .ok (.getfield 10, 3) := by decide +kernel
theorem dX6_text_40 : decode cX6_text 40 = .ok (.getfield 82, 3) := by decide +kernel
theorem dX6_text_43 : decode cX6_text 43 = .ok (.invokevirtual 83, 3) := by decide +kernel
theorem dX6_text_46 : decode cX6_text 46 = .ok (.aload_n 0, 1) := by decide +kernel
theorem dX6_text_47 : decode cX6_text 47 = .ok (.getfield 33, 3) := by decide +kernel
theorem dX6_text_50 : decode cX6_text 50 = .ok (.iconst 0, 1) := by decide +kernel
theorem dX6_text_51 : decode cX6_text 51 = .ok (.putfield 86, 3) := by decide +kernel
theorem dX6_text_54 : decode cX6_text 54 = .ok (.iconst 0, 1) := by decide +kernel
theorem dX6_text_55 : decode cX6_text 55 = .ok (.istore_n 2, 1) := by decide +kernel
theorem dX6_text_56 : decode cX6_text 56 = .ok (.iload_n 2, 1) := by decide +kernel
theorem dX6_text_57 : decode cX6_text 57 = .ok (.iconst 2, 1) := by decide +kernel
theorem dX6_text_58 : decode cX6_text 58 = .ok (.if_icmp .ge 19, 3) := by decide +kernel
theorem dX6_text_61 : decode cX6_text 61 = .ok (.aload_n 0, 1) := by decide +kernel
theorem dX6_text_62 : decode cX6_text 62 = .ok (.getfield 46, 3) := by decide +kernel
theorem dX6_text_65 : decode cX6_text 65 = .ok (.iload_n 2, 1) := by decide +kernel
theorem dX6_text_66 : decode cX6_text 66 = .ok (.aaload, 1) := by decide +kernel
theorem dX6_text_67 : decode cX6_text 67 = .ok (.iconst 0, 1) := by decide +kernel
theorem dX6_text_68 : decode cX6_text 68 = .ok (.putfield 89, 3) := by decide +kernel
theorem dX6_text_71 : decode cX6_text 71 = .ok (.iinc 2 1, 3) := by decide +kernel
theorem dX6_text_74 : decode cX6_text 74 = .ok (.goto (-18), 3) := by decide +kernel
theorem dX6_text_77 : decode cX6_text 77 = .ok (.iload_n 1, 1) := by decide +kernel
theorem dX6_text_78 : decode cX6_text 78 = .ok (.ireturn, 1) := by decide +kernel
theorem dX6_fault_0 : decode cX6_fault 0 = .ok (.aload_n 0, 1) := by decide +kernel
theorem dX6_fault_1 : decode cX6_fault 1 = .ok (.getfield 10, 3) := by decide +kernel
theorem dX6_fault_4 : decode cX6_fault 4 = .ok (.getfield 74, 3) := by decide +kernel
theorem dX6_fault_7 : decode cX6_fault 7 = .ok (.ireturn, 1) := by decide +kernel
theorem dX6_rule_0 : decode cX6_rule 0 = .ok (.iload_n 1, 1) := by decide +kernel
theorem dX6_rule_1 : decode cX6_rule 1 = .ok (.tableswitch 99 0 6 #[43, 51, 59, 67, 75, 83, 91], 43) := by decide +kernel
theorem dX6_rule_44 : decode cX6_rule 44 = .ok (.aload_n 0, 1) := by decide +kernel
theorem dX6_rule_45 : decode cX6_rule 45 = .ok (.getfield 26, 3) := by decide +kernel
theorem dX6_rule_48 : decode cX6_rule 48 = .ok (.getfield 93, 3) := by decide +kernel
theorem dX6_rule_51 : decode cX6_rule 51 = .ok (.ireturn, 1) := by decide +kernel
theorem dX6_rule_52 : decode cX6_rule 52 = .ok (.aload_n 0, 1) := by decide +kernel
theorem dX6_rule_53 : decode cX6_rule 53 = .ok (.getfield 19, 3) := by decide +kernel
theorem dX6_rule_56 : decode cX6_rule 56 = .ok (.getfield 96, 3) := by decide +kernel
theorem dX6_rule_59 : decode cX6_rule 59 = .ok (.ireturn, 1) := by decide +kernel
theorem dX6_rule_60 : decode cX6_rule 60 = .ok (.aload_n 0, 1) := by decide +kernel
theorem dX6_rule_61 : decode cX6_rule 61 = .ok (.getfield 19, 3) := by decide +kernel
theorem dX6_rule_64 : decode cX6_rule 64 = .ok (.getfield 99, 3) := by decide +kernel
theorem dX6_rule_67 : decode cX6_rule 67 = .ok (.ireturn, 1) := by decide +kernel
theorem dX6_rule_68 : decode cX6_rule 68 = .ok (.aload_n 0, 1) := by decide +kernel
theorem dX6_rule_69 : decode cX6_rule 69 = .ok (.getfield 26, 3) := by decide +kernel
theorem dX6_rule_72 : decode cX6_rule 72 = .ok (.getfield 102, 3) := by decide +kernel
theorem dX6_rule_75 : decode cX6_rule 75 = .ok (.ireturn, 1) := by decide +kernel
theorem dX6_rule_76 : decode cX6_rule 76 = .ok (.aload_n 0, 1) := by decide +kernel
theorem dX6_rule_77 : decode cX6_rule 77 = .ok (.getfield 26, 3) := by decide +kernel
theorem dX6_rule_80 : decode cX6_rule 80 = .ok (.getfield 105, 3) := by decide +kernel
theorem dX6_rule_83 : decode cX6_rule 83 = .ok (.ireturn, 1) := by decide +kernel
theorem dX6_rule_84 : decode cX6_rule 84 = .ok (.aload_n 0, 1) := by decide +kernel
theorem dX6_rule_85 : decode cX6_rule 85 = .ok (.getfield 26, 3) := by decide +kernel
theorem dX6_rule_88 : decode cX6_rule 88 = .ok (.getfield 108, 3) := by decide +kernel
theorem dX6_rule_91 : decode cX6_rule 91 = .ok (.ireturn, 1) := by decide +kernel
theorem dX6_rule_92 : decode cX6_rule 92 = .ok (.aload_n 0, 1) := by decide +kernel
theorem dX6_rule_93 : decode cX6_rule 93 = .ok (.getfield 26, 3) := by decide +kernel
theorem dX6_rule_96 : decode cX6_rule 96 = .ok (.getfield 111, 3) := by decide +kernel
theorem dX6_rule_99 : decode cX6_rule 99 = .ok (.ireturn, 1) := by decide +kernel
theorem dX6_rule_100 : decode cX6_rule 100 = .ok (.iconst (-1), 1) := by decide +kernel
theorem dX6_rule_101 : decode cX6_rule 101 = .ok (.ireturn, 1) := by decide +kernel
set_option maxRecDepth 20000 in
theorem ggX6_one_X6_isOne : GoodIn wsX6_one wsX6_isOne := goodIn_r _ [10, 1, 11, 12, 13, 14, 15, 16, 17, 18, 19, 20, 21, 22, 23, 24, 25, 26, 27, 28, 29, 30, 31] (by decide +kernel) (by decide +kernel)
set_option maxRecDepth 20000 in
theorem gX6_one_X6_isOne : GoodIn wsX6_one (wsV RX6 114 RX6 yX6_isOne wsX6_isOne) := goodIn_app (goodIn_of _ (by decide +kernel)) ggX6_one_X6_isOne
theorem dX6_one_0 : decode cX6_one 0 = .ok (.aload_n 0, 1) := by decide +kernel
theorem dX6_one_1 : decode cX6_one 1 = .ok (.iload_n 1, 1) := by decide +kernel
theorem dX6_one_2 : decode cX6_one 2 = .ok (.invokevirtual 114, 3) := by decide +kernel
theorem dX6_one_5 : decode cX6_one 5 = .ok (.ifCond .ne 5, 3) := by decide +kernel
theorem dX6_one_8 : decode cX6_one 8 = .ok (.iconst (-1), 1) := by decide +kernel
theorem dX6_one_9 : decode cX6_one 9 = .ok (.ireturn, 1) := by decide +kernel
theorem dX6_one_10 : decode cX6_one 10 = .ok (.iload_n 2, 1) := by decide +kernel
theorem dX6_one_11 : decode cX6_one 11 = .ok (.tableswitch 69 0 3 #[29, 39, 49, 59], 29) := by decide +kernel
theorem dX6_one_40 : decode cX6_one 40 = .ok (.aload_n 0, 1) := by decide +kernel
theorem dX6_one_41 : decode cX6_one 41 = .ok (.getfield 26, 3) := by decide +kernel
theorem dX6_one_44 : decode cX6_one 44 = .ok (.getfield 118, 3) := by decide +kernel
theorem dX6_one_47 : decode cX6_one 47 = .ok (.iload_n 1, 1) := by decide +kernel
theorem dX6_one_48 : decode cX6_one 48 = .ok (.iaload, 1) := by decide +kernel
theorem dX6_one_49 : decode cX6_one 49 = .ok (.ireturn, 1) := by decide +kernel
theorem dX6_one_50 : decode cX6_one 50 = .ok (.aload_n 0, 1) := by decide +kernel
theorem dX6_one_51 : decode cX6_one 51 = .ok (.getfield 26, 3) := by decide +kernel
theorem dX6_one_54 : decode cX6_one 54 = .ok (.getfield 121, 3) := by decide +kernel
theorem dX6_one_57 : decode cX6_one 57 = .ok (.iload_n 1, 1) := by decide +kernel
theorem dX6_one_58 : decode cX6_one 58 = .ok (.iaload, 1) := by decide +kernel
theorem dX6_one_59 : decode cX6_one 59 = .ok (.ireturn, 1) := by decide +kernel
theorem dX6_one_60 : decode cX6_one 60 = .ok (.aload_n 0, 1) := by decide +kernel
theorem dX6_one_61 : decode cX6_one 61 = .ok (.getfield 26, 3) := by decide +kernel
theorem dX6_one_64 : decode cX6_one 64 = .ok (.getfield 124, 3) := by decide +kernel
theorem dX6_one_67 : decode cX6_one 67 = .ok (.iload_n 1, 1) := by decide +kernel
theorem dX6_one_68 : decode cX6_one 68 = .ok (.iaload, 1) := by decide +kernel
theorem dX6_one_69 : decode cX6_one 69 = .ok (.ireturn, 1) := by decide +kernel
theorem dX6_one_70 : decode cX6_one 70 = .ok (.aload_n 0, 1) := by decide +kernel
theorem dX6_one_71 : decode cX6_one 71 = .ok (.getfield 26, 3) := by decide +kernel
theorem dX6_one_74 : decode cX6_one 74 = .ok (.getfield 127, 3) := by decide +kernel
theorem dX6_one_77 : decode cX6_one 77 = .ok (.iload_n 1, 1) := by decide +kernel
theorem dX6_one_78 : decode cX6_one 78 = .ok (.iaload, 1) := by decide +kernel
theorem dX6_one_79 : decode cX6_one 79 = .ok (.ireturn, 1) := by decide +kernel
theorem dX6_one_80 : decode cX6_one 80 = .ok (.iconst (-1), 1) := by decide +kernel
theorem dX6_one_81 : decode cX6_one 81 = .ok (.ireturn, 1) := by decide +kernel
set_option maxRecDepth 20000 in
theorem ggX6_trip_X6_isIncident : GoodIn wsX6_trip wsX6_isIncident := goodIn_r _ [11, 1, 12, 27, 28, 29, 30, 31, 32, 33, 34, 35, 36, 37, 38, 39, 40, 41, 42, 43] (by decide +kernel) (by decide +kernel)
set_option maxRecDepth 20000 in
theorem gX6_trip_X6_isIncident : GoodIn wsX6_trip (wsV RX6 130 RX6 yX6_isIncident wsX6_isIncident) := goodIn_app (goodIn_of _ (by decide +kernel)) ggX6_trip_X6_isIncident
set_option maxRecDepth 20000 in
theorem ggX6_trip_X1_isDeposited : GoodIn wsX6_trip wsX1_isDeposited := goodIn_r _ [17, 18, 44, 45, 46, 47, 48, 49, 50, 51, 52, 53, 54] (by decide +kernel) (by decide +kernel)
set_option maxRecDepth 20000 in
theorem gX6_trip_X1_isDeposited : GoodIn wsX6_trip (wsV RX6 145 RX1 yX1_isDeposited wsX1_isDeposited) := goodIn_app (goodIn_of _ (by decide +kernel)) ggX6_trip_X1_isDeposited
set_option maxRecDepth 20000 in
theorem ggX6_trip_X1_blushOf : GoodIn wsX6_trip wsX1_blushOf := goodIn_r _ [22, 23, 24, 25, 26, 36, 37, 38, 39, 40, 41, 42, 43, 44, 45, 46, 47, 48, 49, 50, 51, 52, 53, 54] (by decide +kernel) (by decide +kernel)
set_option maxRecDepth 20000 in
theorem gX6_trip_X1_blushOf : GoodIn wsX6_trip (wsV RX6 148 RX1 yX1_blushOf wsX1_blushOf) := goodIn_app (goodIn_of _ (by decide +kernel)) ggX6_trip_X1_blushOf
theorem dX6_trip_0 : decode cX6_trip 0 = .ok (.aload_n 0, 1) := by decide +kernel
theorem dX6_trip_1 : decode cX6_trip 1 = .ok (.iload_n 1, 1) := by decide +kernel
theorem dX6_trip_2 : decode cX6_trip 2 = .ok (.invokevirtual 130, 3) := by decide +kernel
theorem dX6_trip_5 : decode cX6_trip 5 = .ok (.ifCond .ne 5, 3) := by decide +kernel
theorem dX6_trip_8 : decode cX6_trip 8 = .ok (.iconst (-1), 1) := by decide +kernel
theorem dX6_trip_9 : decode cX6_trip 9 = .ok (.ireturn, 1) := by decide +kernel
theorem dX6_trip_10 : decode cX6_trip 10 = .ok (.iload_n 2, 1) := by decide +kernel
theorem dX6_trip_11 : decode cX6_trip 11 = .ok (.tableswitch 107 0 5 #[37, 47, 57, 67, 77, 94], 37) := by decide +kernel
theorem dX6_trip_48 : decode cX6_trip 48 = .ok (.aload_n 0, 1) := by decide +kernel
theorem dX6_trip_49 : decode cX6_trip 49 = .ok (.getfield 19, 3) := by decide +kernel
theorem dX6_trip_52 : decode cX6_trip 52 = .ok (.getfield 133, 3) := by decide +kernel
theorem dX6_trip_55 : decode cX6_trip 55 = .ok (.iload_n 1, 1) := by decide +kernel
theorem dX6_trip_56 : decode cX6_trip 56 = .ok (.iaload, 1) := by decide +kernel
theorem dX6_trip_57 : decode cX6_trip 57 = .ok (.ireturn, 1) := by decide +kernel
theorem dX6_trip_58 : decode cX6_trip 58 = .ok (.aload_n 0, 1) := by decide +kernel
theorem dX6_trip_59 : decode cX6_trip 59 = .ok (.getfield 19, 3) := by decide +kernel
theorem dX6_trip_62 : decode cX6_trip 62 = .ok (.getfield 136, 3) := by decide +kernel
theorem dX6_trip_65 : decode cX6_trip 65 = .ok (.iload_n 1, 1) := by decide +kernel
theorem dX6_trip_66 : decode cX6_trip 66 = .ok (.iaload, 1) := by decide +kernel
theorem dX6_trip_67 : decode cX6_trip 67 = .ok (.ireturn, 1) := by decide +kernel
theorem dX6_trip_68 : decode cX6_trip 68 = .ok (.aload_n 0, 1) := by decide +kernel
theorem dX6_trip_69 : decode cX6_trip 69 = .ok (.getfield 19, 3) := by decide +kernel
theorem dX6_trip_72 : decode cX6_trip 72 = .ok (.getfield 139, 3) := by decide +kernel
theorem dX6_trip_75 : decode cX6_trip 75 = .ok (.iload_n 1, 1) := by decide +kernel
theorem dX6_trip_76 : decode cX6_trip 76 = .ok (.iaload, 1) := by decide +kernel
theorem dX6_trip_77 : decode cX6_trip 77 = .ok (.ireturn, 1) := by decide +kernel
theorem dX6_trip_78 : decode cX6_trip 78 = .ok (.aload_n 0, 1) := by decide +kernel
theorem dX6_trip_79 : decode cX6_trip 79 = .ok (.getfield 26, 3) := by decide +kernel
theorem dX6_trip_82 : decode cX6_trip 82 = .ok (.getfield 142, 3) := by decide +kernel
theorem dX6_trip_85 : decode cX6_trip 85 = .ok (.iload_n 1, 1) := by decide +kernel
theorem dX6_trip_86 : decode cX6_trip 86 = .ok (.iaload, 1) := by decide +kernel
theorem dX6_trip_87 : decode cX6_trip 87 = .ok (.ireturn, 1) := by decide +kernel
theorem dX6_trip_88 : decode cX6_trip 88 = .ok (.aload_n 0, 1) := by decide +kernel
theorem dX6_trip_89 : decode cX6_trip 89 = .ok (.getfield 26, 3) := by decide +kernel
theorem dX6_trip_92 : decode cX6_trip 92 = .ok (.iload_n 1, 1) := by decide +kernel
theorem dX6_trip_93 : decode cX6_trip 93 = .ok (.invokevirtual 145, 3) := by decide +kernel
theorem dX6_trip_96 : decode cX6_trip 96 = .ok (.ifCond .eq 7, 3) := by decide +kernel
theorem dX6_trip_99 : decode cX6_trip 99 = .ok (.iconst 1, 1) := by decide +kernel
theorem dX6_trip_100 : decode cX6_trip 100 = .ok (.goto 4, 3) := by decide +kernel
theorem dX6_trip_103 : decode cX6_trip 103 = .ok (.iconst 0, 1) := by decide +kernel
theorem dX6_trip_104 : decode cX6_trip 104 = .ok (.ireturn, 1) := by decide +kernel
theorem dX6_trip_105 : decode cX6_trip 105 = .ok (.aload_n 0, 1) := by decide +kernel
theorem dX6_trip_106 : decode cX6_trip 106 = .ok (.getfield 26, 3) := by decide +kernel
theorem dX6_trip_109 : decode cX6_trip 109 = .ok (.aload_n 0, 1) := by decide +kernel
theorem dX6_trip_110 : decode cX6_trip 110 = .ok (.getfield 19, 3) := by decide +kernel
theorem dX6_trip_113 : decode cX6_trip 113 = .ok (.iload_n 1, 1) := by decide +kernel
theorem dX6_trip_114 : decode cX6_trip 114 = .ok (.invokevirtual 148, 3) := by decide +kernel
theorem dX6_trip_117 : decode cX6_trip 117 = .ok (.ireturn, 1) := by decide +kernel
theorem dX6_trip_118 : decode cX6_trip 118 = .ok (.iconst (-1), 1) := by decide +kernel
theorem dX6_trip_119 : decode cX6_trip 119 = .ok (.ireturn, 1) := by decide +kernel
theorem dX6_asked_0 : decode cX6_asked 0 = .ok (.iload_n 1, 1) := by decide +kernel
theorem dX6_asked_1 : decode cX6_asked 1 = .ok (.ifCond .lt 14, 3) := by decide +kernel
theorem dX6_asked_4 : decode cX6_asked 4 = .ok (.iload_n 1, 1) := by decide +kernel
theorem dX6_asked_5 : decode cX6_asked 5 = .ok (.aload_n 0, 1) := by decide +kernel
theorem dX6_asked_6 : decode cX6_asked 6 = .ok (.getfield 19, 3) := by decide +kernel
theorem dX6_asked_9 : decode cX6_asked 9 = .ok (.getfield 99, 3) := by decide +kernel
theorem dX6_asked_12 : decode cX6_asked 12 = .ok (.if_icmp .lt 5, 3) := by decide +kernel
theorem dX6_asked_15 : decode cX6_asked 15 = .ok (.iconst (-1), 1) := by decide +kernel
theorem dX6_asked_16 : decode cX6_asked 16 = .ok (.ireturn, 1) := by decide +kernel
theorem dX6_asked_17 : decode cX6_asked 17 = .ok (.iload_n 2, 1) := by decide +kernel
theorem dX6_asked_18 : decode cX6_asked 18 = .ok (.tableswitch 56 0 2 #[26, 36, 46], 26) := by decide +kernel
theorem dX6_asked_44 : decode cX6_asked 44 = .ok (.aload_n 0, 1) := by decide +kernel
theorem dX6_asked_45 : decode cX6_asked 45 = .ok (.getfield 19, 3) := by decide +kernel
theorem dX6_asked_48 : decode cX6_asked 48 = .ok (.getfield 152, 3) := by decide +kernel
theorem dX6_asked_51 : decode cX6_asked 51 = .ok (.iload_n 1, 1) := by decide +kernel
theorem dX6_asked_52 : decode cX6_asked 52 = .ok (.iaload, 1) := by decide +kernel
theorem dX6_asked_53 : decode cX6_asked 53 = .ok (.ireturn, 1) := by decide +kernel
theorem dX6_asked_54 : decode cX6_asked 54 = .ok (.aload_n 0, 1) := by decide +kernel
theorem dX6_asked_55 : decode cX6_asked 55 = .ok (.getfield 19, 3) := by decide +kernel
theorem dX6_asked_58 : decode cX6_asked 58 = .ok (.getfield 155, 3) := by decide +kernel
theorem dX6_asked_61 : decode cX6_asked 61 = .ok (.iload_n 1, 1) := by decide +kernel
theorem dX6_asked_62 : decode cX6_asked 62 = .ok (.iaload, 1) := by decide +kernel
theorem dX6_asked_63 : decode cX6_asked 63 = .ok (.ireturn, 1) := by decide +kernel
theorem dX6_asked_64 : decode cX6_asked 64 = .ok (.aload_n 0, 1) := by decide +kernel
theorem dX6_asked_65 : decode cX6_asked 65 = .ok (.getfield 19, 3) := by decide +kernel
theorem dX6_asked_68 : decode cX6_asked 68 = .ok (.getfield 158, 3) := by decide +kernel
theorem dX6_asked_71 : decode cX6_asked 71 = .ok (.iload_n 1, 1) := by decide +kernel
theorem dX6_asked_72 : decode cX6_asked 72 = .ok (.iaload, 1) := by decide +kernel
theorem dX6_asked_73 : decode cX6_asked 73 = .ok (.ireturn, 1) := by decide +kernel
theorem dX6_asked_74 : decode cX6_asked 74 = .ok (.iconst (-1), 1) := by decide +kernel
theorem dX6_asked_75 : decode cX6_asked 75 = .ok (.ireturn, 1) := by decide +kernel
set_option maxRecDepth 20000 in
theorem ggX6_deposit_X6_isIncident : GoodIn wsX6_deposit wsX6_isIncident := goodIn_r _ [10, 1, 11, 18, 19, 20, 21, 22, 23, 24, 25, 26, 27, 28, 29, 30, 31, 32, 33, 34] (by decide +kernel) (by decide +kernel)
set_option maxRecDepth 20000 in
theorem gX6_deposit_X6_isIncident : GoodIn wsX6_deposit (wsV RX6 130 RX6 yX6_isIncident wsX6_isIncident) := goodIn_app (goodIn_of _ (by decide +kernel)) ggX6_deposit_X6_isIncident
set_option maxRecDepth 20000 in
theorem ggX6_deposit_X1_isDeposited : GoodIn wsX6_deposit wsX1_isDeposited := goodIn_r _ [16, 17, 35, 36, 37, 38, 39, 40, 41, 42, 43, 44, 45] (by decide +kernel) (by decide +kernel)
set_option maxRecDepth 20000 in
theorem gX6_deposit_X1_isDeposited : GoodIn wsX6_deposit (wsV RX6 145 RX1 yX1_isDeposited wsX1_isDeposited) := goodIn_app (goodIn_of _ (by decide +kernel)) ggX6_deposit_X1_isDeposited
theorem dX6_deposit_0 : decode cX6_deposit 0 = .ok (.aload_n 0, 1) := by decide +kernel
theorem dX6_deposit_1 : decode cX6_deposit 1 = .ok (.iload_n 1, 1) := by decide +kernel
theorem dX6_deposit_2 : decode cX6_deposit 2 = .ok (.invokevirtual 130, 3) := by decide +kernel
theorem dX6_deposit_5 : decode cX6_deposit 5 = .ok (.ifCond .ne 5, 3) := by decide +kernel
theorem dX6_deposit_8 : decode cX6_deposit 8 = .ok (.iconst (-1), 1) := by decide +kernel
theorem dX6_deposit_9 : decode cX6_deposit 9 = .ok (.ireturn, 1) := by decide +kernel
theorem dX6_deposit_10 : decode cX6_deposit 10 = .ok (.aload_n 0, 1) := by decide +kernel
theorem dX6_deposit_11 : decode cX6_deposit 11 = .ok (.getfield 19, 3) := by decide +kernel
theorem dX6_deposit_14 : decode cX6_deposit 14 = .ok (.getfield 136, 3) := by decide +kernel
theorem dX6_deposit_17 : decode cX6_deposit 17 = .ok (.iload_n 1, 1) := by decide +kernel
theorem dX6_deposit_18 : decode cX6_deposit 18 = .ok (.iaload, 1) := by decide +kernel
theorem dX6_deposit_19 : decode cX6_deposit 19 = .ok (.aload_n 0, 1) := by decide +kernel
theorem dX6_deposit_20 : decode cX6_deposit 20 = .ok (.getfield 26, 3) := by decide +kernel
theorem dX6_deposit_23 : decode cX6_deposit 23 = .ok (.getfield 108, 3) := by decide +kernel
theorem dX6_deposit_26 : decode cX6_deposit 26 = .ok (.if_icmp .ge 6, 3) := by decide +kernel
theorem dX6_deposit_29 : decode cX6_deposit 29 = .ok (.bipush (-2), 2) := by decide +kernel
theorem dX6_deposit_31 : decode cX6_deposit 31 = .ok (.ireturn, 1) := by decide +kernel
theorem dX6_deposit_32 : decode cX6_deposit 32 = .ok (.aload_n 0, 1) := by decide +kernel
theorem dX6_deposit_33 : decode cX6_deposit 33 = .ok (.getfield 26, 3) := by decide +kernel
theorem dX6_deposit_36 : decode cX6_deposit 36 = .ok (.iload_n 1, 1) := by decide +kernel
theorem dX6_deposit_37 : decode cX6_deposit 37 = .ok (.invokevirtual 145, 3) := by decide +kernel
theorem dX6_deposit_40 : decode cX6_deposit 40 = .ok (.ifCond .eq 7, 3) := by decide +kernel
theorem dX6_deposit_43 : decode cX6_deposit 43 = .ok (.iconst 1, 1) := by decide +kernel
theorem dX6_deposit_44 : decode cX6_deposit 44 = .ok (.goto 4, 3) := by decide +kernel
theorem dX6_deposit_47 : decode cX6_deposit 47 = .ok (.iconst 0, 1) := by decide +kernel
theorem dX6_deposit_48 : decode cX6_deposit 48 = .ok (.istore_n 3, 1) := by decide +kernel
theorem dX6_deposit_49 : decode cX6_deposit 49 = .ok (.iconst 1, 1) := by decide +kernel
theorem dX6_deposit_50 : decode cX6_deposit 50 = .ok (.iload_n 1, 1) := by decide +kernel
theorem dX6_deposit_51 : decode cX6_deposit 51 = .ok (.ishl, 1) := by decide +kernel
theorem dX6_deposit_52 : decode cX6_deposit 52 = .ok (.istore 4, 2) := by decide +kernel
theorem dX6_deposit_54 : decode cX6_deposit 54 = .ok (.aload_n 0, 1) := by decide +kernel
theorem dX6_deposit_55 : decode cX6_deposit 55 = .ok (.getfield 26, 3) := by decide +kernel
theorem dX6_deposit_58 : decode cX6_deposit 58 = .ok (.iload_n 2, 1) := by decide +kernel
theorem dX6_deposit_59 : decode cX6_deposit 59 = .ok (.ifCond .eq 16, 3) := by decide +kernel
theorem dX6_deposit_62 : decode cX6_deposit 62 = .ok (.aload_n 0, 1) := by decide +kernel
theorem dX6_deposit_63 : decode cX6_deposit 63 = .ok (.getfield 26, 3) := by decide +kernel
theorem dX6_deposit_66 : decode cX6_deposit 66 = .ok (.getfield 111, 3) := by decide +kernel
theorem dX6_deposit_69 : decode cX6_deposit 69 = .ok (.iload 4, 2) := by decide +kernel
theorem dX6_deposit_71 : decode cX6_deposit 71 = .ok (.ior, 1) := by decide +kernel
theorem dX6_deposit_72 : decode cX6_deposit 72 = .ok (.goto 15, 3) := by decide +kernel
theorem dX6_deposit_75 : decode cX6_deposit 75 = .ok (.aload_n 0, 1) := by decide +kernel
theorem dX6_deposit_76 : decode cX6_deposit 76 = .ok (.getfield 26, 3) := by decide +kernel
theorem dX6_deposit_79 : decode cX6_deposit 79 = .ok (.getfield 111, 3) := by decide +kernel
theorem dX6_deposit_82 : decode cX6_deposit 82 = .ok (.iload 4, 2) := by decide +kernel
theorem dX6_deposit_84 : decode cX6_deposit 84 = .ok (.iconst (-1), 1) := by decide +kernel
theorem dX6_deposit_85 : decode cX6_deposit 85 = .ok (.ixor, 1) := by decide +kernel
theorem dX6_deposit_86 : decode cX6_deposit 86 = .ok (.iand, 1) := by decide +kernel
theorem dX6_deposit_87 : decode cX6_deposit 87 = .ok (.putfield 111, 3) := by decide +kernel
theorem dX6_deposit_90 : decode cX6_deposit 90 = .ok (.iload_n 3, 1) := by decide +kernel
theorem dX6_deposit_91 : decode cX6_deposit 91 = .ok (.ireturn, 1) := by decide +kernel
set_option maxRecDepth 20000 in
theorem ggX6_give_X6_isOne : GoodIn wsX6_give wsX6_isOne := goodIn_r _ [7, 1, 8, 12, 13, 14, 15, 16, 17, 18, 19, 20, 21, 22, 23, 24, 25, 26, 27, 28, 29, 30, 31] (by decide +kernel) (by decide +kernel)
set_option maxRecDepth 20000 in
theorem gX6_give_X6_isOne : GoodIn wsX6_give (wsV RX6 114 RX6 yX6_isOne wsX6_isOne) := goodIn_app (goodIn_of _ (by decide +kernel)) ggX6_give_X6_isOne
set_option maxRecDepth 20000 in
theorem ggX6_give_X6_isWithin : GoodIn wsX6_give wsX6_isWithin := goodIn_r _ [11] (by decide +kernel) (by decide +kernel)
set_option maxRecDepth 20000 in
theorem gX6_give_X6_isWithin : GoodIn wsX6_give (va_wsS RX6 58 yX6_isWithin wsX6_isWithin) := goodIn_app (goodIn_of _ (by decide +kernel)) ggX6_give_X6_isWithin
theorem dX6_give_0 : decode cX6_give 0 = .ok (.aload_n 0, 1) := by decide +kernel
theorem dX6_give_1 : decode cX6_give 1 = .ok (.iload_n 1, 1) := by decide +kernel
theorem dX6_give_2 : decode cX6_give 2 = .ok (.invokevirtual 114, 3) := by decide +kernel
theorem dX6_give_5 : decode cX6_give 5 = .ok (.ifCond .eq 25, 3) := by decide +kernel
theorem dX6_give_8 : decode cX6_give 8 = .ok (.aload_n 0, 1) := by decide +kernel
theorem dX6_give_9 : decode cX6_give 9 = .ok (.iload_n 2, 1) := by decide +kernel
theorem dX6_give_10 : decode cX6_give 10 = .ok (.invokevirtual 114, 3) := by decide +kernel
theorem dX6_give_13 : decode cX6_give 13 = .ok (.ifCond .eq 17, 3) := by decide +kernel
theorem dX6_give_16 : decode cX6_give 16 = .ok (.iload_n 1, 1) := by decide +kernel
theorem dX6_give_17 : decode cX6_give 17 = .ok (.iload_n 2, 1) := by decide +kernel
theorem dX6_give_18 : decode cX6_give 18 = .ok (.if_icmp .eq 12, 3) := by decide +kernel
theorem dX6_give_21 : decode cX6_give 21 = .ok (.iload_n 3, 1) := by decide +kernel
theorem dX6_give_22 : decode cX6_give 22 = .ok (.bipush 99, 2) := by decide +kernel
theorem dX6_give_24 : decode cX6_give 24 = .ok (.invokestatic 58, 3) := by decide +kernel
theorem dX6_give_27 : decode cX6_give 27 = .ok (.ifCond .ne 5, 3) := by decide +kernel
theorem dX6_give_30 : decode cX6_give 30 = .ok (.iconst (-1), 1) := by decide +kernel
theorem dX6_give_31 : decode cX6_give 31 = .ok (.ireturn, 1) := by decide +kernel
theorem dX6_give_32 : decode cX6_give 32 = .ok (.aload_n 0, 1) := by decide +kernel
theorem dX6_give_33 : decode cX6_give 33 = .ok (.getfield 26, 3) := by decide +kernel
theorem dX6_give_36 : decode cX6_give 36 = .ok (.getfield 121, 3) := by decide +kernel
theorem dX6_give_39 : decode cX6_give 39 = .ok (.iload_n 1, 1) := by decide +kernel
theorem dX6_give_40 : decode cX6_give 40 = .ok (.iaload, 1) := by decide +kernel
theorem dX6_give_41 : decode cX6_give 41 = .ok (.iload_n 3, 1) := by decide +kernel
theorem dX6_give_42 : decode cX6_give 42 = .ok (.if_icmp .ge 6, 3) := by decide +kernel
theorem dX6_give_45 : decode cX6_give 45 = .ok (.bipush (-2), 2) := by decide +kernel
theorem dX6_give_47 : decode cX6_give 47 = .ok (.ireturn, 1) := by decide +kernel
theorem dX6_give_48 : decode cX6_give 48 = .ok (.aload_n 0, 1) := by decide +kernel
theorem dX6_give_49 : decode cX6_give 49 = .ok (.getfield 26, 3) := by decide +kernel
theorem dX6_give_52 : decode cX6_give 52 = .ok (.getfield 121, 3) := by decide +kernel
theorem dX6_give_55 : decode cX6_give 55 = .ok (.iload_n 2, 1) := by decide +kernel
theorem dX6_give_56 : decode cX6_give 56 = .ok (.iaload, 1) := by decide +kernel
theorem dX6_give_57 : decode cX6_give 57 = .ok (.iload_n 3, 1) := by decide +kernel
theorem dX6_give_58 : decode cX6_give 58 = .ok (.iadd, 1) := by decide +kernel
theorem dX6_give_59 : decode cX6_give 59 = .ok (.sipush 999, 3) := by decide +kernel
theorem dX6_give_62 : decode cX6_give 62 = .ok (.if_icmp .le 6, 3) := by decide +kernel
theorem dX6_give_65 : decode cX6_give 65 = .ok (.bipush (-3), 2) := by decide +kernel
theorem dX6_give_67 : decode cX6_give 67 = .ok (.ireturn, 1) := by decide +kernel
theorem dX6_give_68 : decode cX6_give 68 = .ok (.aload_n 0, 1) := by decide +kernel
theorem dX6_give_69 : decode cX6_give 69 = .ok (.getfield 26, 3) := by decide +kernel
theorem dX6_give_72 : decode cX6_give 72 = .ok (.getfield 121, 3) := by decide +kernel
theorem dX6_give_75 : decode cX6_give 75 = .ok (.iload_n 1, 1) := by decide +kernel
theorem dX6_give_76 : decode cX6_give 76 = .ok (.dup2, 1) := by decide +kernel
theorem dX6_give_77 : decode cX6_give 77 = .ok (.iaload, 1) := by decide +kernel
theorem dX6_give_78 : decode cX6_give 78 = .ok (.iload_n 3, 1) := by decide +kernel
theorem dX6_give_79 : decode cX6_give 79 = .ok (.isub, 1) := by decide +kernel
theorem dX6_give_80 : decode cX6_give 80 = .ok (.iastore, 1) := by decide +kernel
theorem dX6_give_81 : decode cX6_give 81 = .ok (.aload_n 0, 1) := by decide +kernel
theorem dX6_give_82 : decode cX6_give 82 = .ok (.getfield 26, 3) := by decide +kernel
theorem dX6_give_85 : decode cX6_give 85 = .ok (.getfield 121, 3) := by decide +kernel
theorem dX6_give_88 : decode cX6_give 88 = .ok (.iload_n 2, 1) := by decide +kernel
theorem dX6_give_89 : decode cX6_give 89 = .ok (.dup2, 1) := by decide +kernel
theorem dX6_give_90 : decode cX6_give 90 = .ok (.iaload, 1) := by decide +kernel
theorem dX6_give_91 : decode cX6_give 91 = .ok (.iload_n 3, 1) := by decide +kernel
theorem dX6_give_92 : decode cX6_give 92 = .ok (.iadd, 1) := by decide +kernel
theorem dX6_give_93 : decode cX6_give 93 = .ok (.iastore, 1) := by decide +kernel
theorem dX6_give_94 : decode cX6_give 94 = .ok (.aload_n 0, 1) := by decide +kernel
theorem dX6_give_95 : decode cX6_give 95 = .ok (.getfield 26, 3) := by decide +kernel
theorem dX6_give_98 : decode cX6_give 98 = .ok (.getfield 121, 3) := by decide +kernel
theorem dX6_give_101 : decode cX6_give 101 = .ok (.iload_n 1, 1) := by decide +kernel
theorem dX6_give_102 : decode cX6_give 102 = .ok (.iaload, 1) := by decide +kernel
theorem dX6_give_103 : decode cX6_give 103 = .ok (.ireturn, 1) := by decide +kernel
set_option maxRecDepth 20000 in
theorem ggX6_draw_X1_takeOut : GoodIn wsX6_draw wsX1_takeOut := goodIn_r _ [6, 7, 8, 9, 10, 11, 12, 13, 23, 24, 25, 26, 27, 28, 29, 30, 31, 32, 33] (by decide +kernel) (by decide +kernel)
set_option maxRecDepth 20000 in
theorem gX6_draw_X1_takeOut : GoodIn wsX6_draw (wsV RX6 161 RX1 yX1_takeOut wsX1_takeOut) := goodIn_app (goodIn_of _ (by decide +kernel)) ggX6_draw_X1_takeOut
theorem dX6_draw_0 : decode cX6_draw 0 = .ok (.aload_n 0, 1) := by decide +kernel
theorem dX6_draw_1 : decode cX6_draw 1 = .ok (.getfield 26, 3) := by decide +kernel
theorem dX6_draw_4 : decode cX6_draw 4 = .ok (.iload_n 1, 1) := by decide +kernel
theorem dX6_draw_5 : decode cX6_draw 5 = .ok (.iload_n 2, 1) := by decide +kernel
theorem dX6_draw_6 : decode cX6_draw 6 = .ok (.invokevirtual 161, 3) := by decide +kernel
theorem dX6_draw_9 : decode cX6_draw 9 = .ok (.ireturn, 1) := by decide +kernel
set_option maxRecDepth 20000 in
theorem ggX6_rumour_X6_isOne : GoodIn wsX6_rumour wsX6_isOne := goodIn_r _ [7, 1, 8, 19, 20, 21, 22, 23, 24, 25, 26, 27, 28, 29, 30, 31, 32, 33, 34, 35, 36, 37, 38] (by decide +kernel) (by decide +kernel)
set_option maxRecDepth 20000 in
theorem gX6_rumour_X6_isOne : GoodIn wsX6_rumour (wsV RX6 114 RX6 yX6_isOne wsX6_isOne) := goodIn_app (goodIn_of _ (by decide +kernel)) ggX6_rumour_X6_isOne
set_option maxRecDepth 20000 in
theorem ggX6_rumour_X1_spreadRumour : GoodIn wsX6_rumour wsX1_spreadRumour := goodIn_r _ [13, 14, 15, 16, 17, 18, 39, 40, 41, 42, 43, 44, 45, 46, 28, 29, 30, 31, 32, 33, 34, 35, 36, 37, 38] (by decide +kernel) (by decide +kernel)
set_option maxRecDepth 20000 in
theorem gX6_rumour_X1_spreadRumour : GoodIn wsX6_rumour (wsV RX6 165 RX1 yX1_spreadRumour wsX1_spreadRumour) := goodIn_app (goodIn_of _ (by decide +kernel)) ggX6_rumour_X1_spreadRumour
theorem dX6_rumour_0 : decode cX6_rumour 0 = .ok (.aload_n 0, 1) := by decide +kernel
theorem dX6_rumour_1 : decode cX6_rumour 1 = .ok (.iload_n 1, 1) := by decide +kernel
theorem dX6_rumour_2 : decode cX6_rumour 2 = .ok (.invokevirtual 114, 3) := by decide +kernel
theorem dX6_rumour_5 : decode cX6_rumour 5 = .ok (.ifCond .eq 18, 3) := by decide +kernel
theorem dX6_rumour_8 : decode cX6_rumour 8 = .ok (.aload_n 0, 1) := by decide +kernel
theorem dX6_rumour_9 : decode cX6_rumour 9 = .ok (.getfield 26, 3) := by decide +kernel
theorem dX6_rumour_12 : decode cX6_rumour 12 = .ok (.aload_n 0, 1) := by decide +kernel
theorem dX6_rumour_13 : decode cX6_rumour 13 = .ok (.getfield 19, 3) := by decide +kernel
theorem dX6_rumour_16 : decode cX6_rumour 16 = .ok (.iload_n 1, 1) := by decide +kernel
theorem dX6_rumour_17 : decode cX6_rumour 17 = .ok (.invokevirtual 165, 3) := by decide +kernel
theorem dX6_rumour_20 : decode cX6_rumour 20 = .ok (.goto 4, 3) := by decide +kernel
theorem dX6_rumour_23 : decode cX6_rumour 23 = .ok (.iconst (-1), 1) := by decide +kernel
theorem dX6_rumour_24 : decode cX6_rumour 24 = .ok (.ireturn, 1) := by decide +kernel
set_option maxRecDepth 20000 in
theorem ggX6_law_X6_isWithin : GoodIn wsX6_law wsX6_isWithin := goodIn_r _ [7] (by decide +kernel) (by decide +kernel)
set_option maxRecDepth 20000 in
theorem gX6_law_X6_isWithin : GoodIn wsX6_law (va_wsS RX6 58 yX6_isWithin wsX6_isWithin) := goodIn_app (goodIn_of _ (by decide +kernel)) ggX6_law_X6_isWithin
theorem dX6_law_0 : decode cX6_law 0 = .ok (.iload_n 1, 1) := by decide +kernel
theorem dX6_law_1 : decode cX6_law 1 = .ok (.ifCond .ne 30, 3) := by decide +kernel
theorem dX6_law_4 : decode cX6_law 4 = .ok (.iload_n 2, 1) := by decide +kernel
theorem dX6_law_5 : decode cX6_law 5 = .ok (.bipush 9, 2) := by decide +kernel
theorem dX6_law_7 : decode cX6_law 7 = .ok (.invokestatic 58, 3) := by decide +kernel
theorem dX6_law_10 : decode cX6_law 10 = .ok (.ifCond .eq 21, 3) := by decide +kernel
theorem dX6_law_13 : decode cX6_law 13 = .ok (.aload_n 0, 1) := by decide +kernel
theorem dX6_law_14 : decode cX6_law 14 = .ok (.getfield 26, 3) := by decide +kernel
theorem dX6_law_17 : decode cX6_law 17 = .ok (.getfield 102, 3) := by decide +kernel
theorem dX6_law_20 : decode cX6_law 20 = .ok (.istore_n 3, 1) := by decide +kernel
theorem dX6_law_21 : decode cX6_law 21 = .ok (.aload_n 0, 1) := by decide +kernel
theorem dX6_law_22 : decode cX6_law 22 = .ok (.getfield 26, 3) := by decide +kernel
theorem dX6_law_25 : decode cX6_law 25 = .ok (.iload_n 2, 1) := by decide +kernel
theorem dX6_law_26 : decode cX6_law 26 = .ok (.putfield 102, 3) := by decide +kernel
theorem dX6_law_29 : decode cX6_law 29 = .ok (.iload_n 3, 1) := by decide +kernel
theorem dX6_law_30 : decode cX6_law 30 = .ok (.ireturn, 1) := by decide +kernel
theorem dX6_law_31 : decode cX6_law 31 = .ok (.iload_n 1, 1) := by decide +kernel
theorem dX6_law_32 : decode cX6_law 32 = .ok (.iconst 1, 1) := by decide +kernel
theorem dX6_law_33 : decode cX6_law 33 = .ok (.if_icmp .ne 30, 3) := by decide +kernel
theorem dX6_law_36 : decode cX6_law 36 = .ok (.iload_n 2, 1) := by decide +kernel
theorem dX6_law_37 : decode cX6_law 37 = .ok (.bipush 99, 2) := by decide +kernel
theorem dX6_law_39 : decode cX6_law 39 = .ok (.invokestatic 58, 3) := by decide +kernel
theorem dX6_law_42 : decode cX6_law 42 = .ok (.ifCond .eq 21, 3) := by decide +kernel
theorem dX6_law_45 : decode cX6_law 45 = .ok (.aload_n 0, 1) := by decide +kernel
theorem dX6_law_46 : decode cX6_law 46 = .ok (.getfield 26, 3) := by decide +kernel
theorem dX6_law_49 : decode cX6_law 49 = .ok (.getfield 105, 3) := by decide +kernel
theorem dX6_law_52 : decode cX6_law 52 = .ok (.istore_n 3, 1) := by decide +kernel
theorem dX6_law_53 : decode cX6_law 53 = .ok (.aload_n 0, 1) := by decide +kernel
theorem dX6_law_54 : decode cX6_law 54 = .ok (.getfield 26, 3) := by decide +kernel
theorem dX6_law_57 : decode cX6_law 57 = .ok (.iload_n 2, 1) := by decide +kernel
theorem dX6_law_58 : decode cX6_law 58 = .ok (.putfield 105, 3) := by decide +kernel
theorem dX6_law_61 : decode cX6_law 61 = .ok (.iload_n 3, 1) := by decide +kernel
theorem dX6_law_62 : decode cX6_law 62 = .ok (.ireturn, 1) := by decide +kernel
theorem dX6_law_63 : decode cX6_law 63 = .ok (.iconst (-1), 1) := by decide +kernel
theorem dX6_law_64 : decode cX6_law 64 = .ok (.ireturn, 1) := by decide +kernel
set_option maxRecDepth 20000 in
theorem ggX6_teach_X6_isOne : GoodIn wsX6_teach wsX6_isOne := goodIn_r _ [7, 1, 8, 12, 13, 14, 15, 16, 17, 18, 19, 20, 21, 22, 23, 24, 25, 26, 27, 28, 29, 30, 31] (by decide +kernel) (by decide +kernel)
set_option maxRecDepth 20000 in
theorem gX6_teach_X6_isOne : GoodIn wsX6_teach (wsV RX6 114 RX6 yX6_isOne wsX6_isOne) := goodIn_app (goodIn_of _ (by decide +kernel)) ggX6_teach_X6_isOne
set_option maxRecDepth 20000 in
theorem ggX6_teach_X6_isWithin : GoodIn wsX6_teach wsX6_isWithin := goodIn_r _ [11] (by decide +kernel) (by decide +kernel)
set_option maxRecDepth 20000 in
theorem gX6_teach_X6_isWithin : GoodIn wsX6_teach (va_wsS RX6 58 yX6_isWithin wsX6_isWithin) := goodIn_app (goodIn_of _ (by decide +kernel)) ggX6_teach_X6_isWithin
theorem dX6_teach_0 : decode cX6_teach 0 = .ok (.aload_n 0, 1) := by decide +kernel
theorem dX6_teach_1 : decode cX6_teach 1 = .ok (.iload_n 1, 1) := by decide +kernel
theorem dX6_teach_2 : decode cX6_teach 2 = .ok (.invokevirtual 114, 3) := by decide +kernel
theorem dX6_teach_5 : decode cX6_teach 5 = .ok (.ifCond .eq 11, 3) := by decide +kernel
theorem dX6_teach_8 : decode cX6_teach 8 = .ok (.iload_n 2, 1) := by decide +kernel
theorem dX6_teach_9 : decode cX6_teach 9 = .ok (.iconst 3, 1) := by decide +kernel
theorem dX6_teach_10 : decode cX6_teach 10 = .ok (.invokestatic 58, 3) := by decide +kernel
theorem dX6_teach_13 : decode cX6_teach 13 = .ok (.ifCond .ne 5, 3) := by decide +kernel
theorem dX6_teach_16 : decode cX6_teach 16 = .ok (.iconst (-1), 1) := by decide +kernel
theorem dX6_teach_17 : decode cX6_teach 17 = .ok (.ireturn, 1) := by decide +kernel
theorem dX6_teach_18 : decode cX6_teach 18 = .ok (.aload_n 0, 1) := by decide +kernel
theorem dX6_teach_19 : decode cX6_teach 19 = .ok (.getfield 26, 3) := by decide +kernel
theorem dX6_teach_22 : decode cX6_teach 22 = .ok (.getfield 118, 3) := by decide +kernel
theorem dX6_teach_25 : decode cX6_teach 25 = .ok (.iload_n 1, 1) := by decide +kernel
theorem dX6_teach_26 : decode cX6_teach 26 = .ok (.iaload, 1) := by decide +kernel
theorem dX6_teach_27 : decode cX6_teach 27 = .ok (.istore_n 3, 1) := by decide +kernel
theorem dX6_teach_28 : decode cX6_teach 28 = .ok (.aload_n 0, 1) := by decide +kernel
theorem dX6_teach_29 : decode cX6_teach 29 = .ok (.getfield 26, 3) := by decide +kernel
theorem dX6_teach_32 : decode cX6_teach 32 = .ok (.getfield 118, 3) := by decide +kernel
theorem dX6_teach_35 : decode cX6_teach 35 = .ok (.iload_n 1, 1) := by decide +kernel
theorem dX6_teach_36 : decode cX6_teach 36 = .ok (.iload_n 2, 1) := by decide +kernel
theorem dX6_teach_37 : decode cX6_teach 37 = .ok (.iastore, 1) := by decide +kernel
theorem dX6_teach_38 : decode cX6_teach 38 = .ok (.iload_n 3, 1) := by decide +kernel
theorem dX6_teach_39 : decode cX6_teach 39 = .ok (.ireturn, 1) := by decide +kernel
set_option maxRecDepth 20000 in
theorem ggX6_go_X6_isWithin : GoodIn wsX6_go wsX6_isWithin := goodIn_r _ [7] (by decide +kernel) (by decide +kernel)
set_option maxRecDepth 20000 in
theorem gX6_go_X6_isWithin : GoodIn wsX6_go (va_wsS RX6 58 yX6_isWithin wsX6_isWithin) := goodIn_app (goodIn_of _ (by decide +kernel)) ggX6_go_X6_isWithin
set_option maxRecDepth 20000 in
theorem ggX6_go_X1_passWeeks : GoodIn wsX6_go wsX1_passWeeks := goodIn_r _ [12, 13, 14, 15, 11, 16, 17, 18, 19, 20, 21, 22, 23, 24, 25, 26, 27, 28, 29, 30, 31, 32, 33, 34, 35, 36, 37, 38, 39, 40, 41, 42, 43, 44, 45, 46, 47, 48, 49, 50, 51, 52, 53, 54, 55, 56, 57, 58, 59, 60, 61, 62, 63, 64, 65, 66, 67, 77, 78, 79, 80, 81, 82, 83, 84, 85, 86, 87, 88, 89, 90, 91, 92, 93, 94, 95] (by decide +kernel) (by decide +kernel)
set_option maxRecDepth 20000 in
theorem gX6_go_X1_passWeeks : GoodIn wsX6_go (wsV RX6 168 RX1 yX1_passWeeks wsX1_passWeeks) := goodIn_app (goodIn_of _ (by decide +kernel)) ggX6_go_X1_passWeeks
theorem dX6_go_0 : decode cX6_go 0 = .ok (.iload_n 1, 1) := by decide +kernel
theorem dX6_go_1 : decode cX6_go 1 = .ok (.bipush 20, 2) := by decide +kernel
theorem dX6_go_3 : decode cX6_go 3 = .ok (.invokestatic 58, 3) := by decide +kernel
theorem dX6_go_6 : decode cX6_go 6 = .ok (.ifCond .ne 5, 3) := by decide +kernel
theorem dX6_go_9 : decode cX6_go 9 = .ok (.iconst (-1), 1) := by decide +kernel
theorem dX6_go_10 : decode cX6_go 10 = .ok (.ireturn, 1) := by decide +kernel
theorem dX6_go_11 : decode cX6_go 11 = .ok (.aload_n 0, 1) := by decide +kernel
theorem dX6_go_12 : decode cX6_go 12 = .ok (.getfield 26, 3) := by decide +kernel
theorem dX6_go_15 : decode cX6_go 15 = .ok (.getfield 108, 3) := by decide +kernel
theorem dX6_go_18 : decode cX6_go 18 = .ok (.iload_n 1, 1) := by decide +kernel
theorem dX6_go_19 : decode cX6_go 19 = .ok (.iadd, 1) := by decide +kernel
theorem dX6_go_20 : decode cX6_go 20 = .ok (.bipush 99, 2) := by decide +kernel
theorem dX6_go_22 : decode cX6_go 22 = .ok (.if_icmp .le 6, 3) := by decide +kernel
theorem dX6_go_25 : decode cX6_go 25 = .ok (.bipush (-3), 2) := by decide +kernel
theorem dX6_go_27 : decode cX6_go 27 = .ok (.ireturn, 1) := by decide +kernel
theorem dX6_go_28 : decode cX6_go 28 = .ok (.aload_n 0, 1) := by decide +kernel
theorem dX6_go_29 : decode cX6_go 29 = .ok (.getfield 26, 3) := by decide +kernel
theorem dX6_go_32 : decode cX6_go 32 = .ok (.aload_n 0, 1) := by decide +kernel
theorem dX6_go_33 : decode cX6_go 33 = .ok (.getfield 19, 3) := by decide +kernel
theorem dX6_go_36 : decode cX6_go 36 = .ok (.iload_n 1, 1) := by decide +kernel
theorem dX6_go_37 : decode cX6_go 37 = .ok (.invokevirtual 168, 3) := by decide +kernel
theorem dX6_go_40 : decode cX6_go 40 = .ok (.ireturn, 1) := by decide +kernel
set_option maxRecDepth 20000 in
theorem ggX6_ahead_X6_isOne : GoodIn wsX6_ahead wsX6_isOne := goodIn_r _ [12, 2, 13, 85, 86, 87, 88, 89, 90, 91, 92, 93, 94, 95, 96, 97, 98, 99, 100, 101, 102, 103, 104] (by decide +kernel) (by decide +kernel)
set_option maxRecDepth 20000 in
theorem gX6_ahead_X6_isOne : GoodIn wsX6_ahead (wsV RX6 114 RX6 yX6_isOne wsX6_isOne) := goodIn_app (goodIn_of _ (by decide +kernel)) ggX6_ahead_X6_isOne
set_option maxRecDepth 20000 in
theorem ggX6_ahead_X6_isWithin : GoodIn wsX6_ahead wsX6_isWithin := goodIn_r _ [16] (by decide +kernel) (by decide +kernel)
set_option maxRecDepth 20000 in
theorem gX6_ahead_X6_isWithin : GoodIn wsX6_ahead (va_wsS RX6 58 yX6_isWithin wsX6_isWithin) := goodIn_app (goodIn_of _ (by decide +kernel)) ggX6_ahead_X6_isWithin
set_option maxRecDepth 20000 in
theorem ggX6_ahead_X1_copyFrom : GoodIn wsX6_ahead wsX1_copyFrom := goodIn_r _ [21, 22, 23, 24, 25, 26, 27, 28, 29, 30, 31, 32, 33, 34, 35, 36, 94, 95, 96, 97, 98, 99, 100, 101, 102, 103, 104] (by decide +kernel) (by decide +kernel)
set_option maxRecDepth 20000 in
theorem gX6_ahead_X1_copyFrom : GoodIn wsX6_ahead (wsV RX6 83 RX1 yX1_copyFrom wsX1_copyFrom) := goodIn_app (goodIn_of _ (by decide +kernel)) ggX6_ahead_X1_copyFrom
set_option maxRecDepth 20000 in
theorem ggX6_ahead_X1_passWeeks : GoodIn wsX6_ahead wsX1_passWeeks := goodIn_r _ [40, 41, 42, 43, 20, 44, 36, 45, 46, 35, 47, 48, 49, 50, 51, 52, 53, 54, 55, 56, 57, 58, 59, 60, 31, 23, 61, 62, 63, 64, 32, 65, 66, 67, 68, 29, 69, 70, 71, 72, 73, 74, 75, 76, 28, 77, 78, 79, 80, 34, 30, 81, 82, 83, 84, 22, 33, 94, 95, 96, 97, 98, 99, 100, 101, 102, 103, 104, 105, 106, 107, 108, 109, 110, 111, 112] (by decide +kernel) (by decide +kernel)
set_option maxRecDepth 20000 in
theorem gX6_ahead_X1_passWeeks : GoodIn wsX6_ahead (wsV RX6 168 RX1 yX1_passWeeks wsX1_passWeeks) := goodIn_app (goodIn_of _ (by decide +kernel)) ggX6_ahead_X1_passWeeks
theorem dX6_ahead_0 : decode cX6_ahead 0 = .ok (.aload_n 0, 1) := by decide +kernel
theorem dX6_ahead_1 : decode cX6_ahead 1 = .ok (.iload_n 1, 1) := by decide +kernel
theorem dX6_ahead_2 : decode cX6_ahead 2 = .ok (.invokevirtual 114, 3) := by decide +kernel
theorem dX6_ahead_5 : decode cX6_ahead 5 = .ok (.ifCond .eq 20, 3) := by decide +kernel
theorem dX6_ahead_8 : decode cX6_ahead 8 = .ok (.iload_n 2, 1) := by decide +kernel
theorem dX6_ahead_9 : decode cX6_ahead 9 = .ok (.bipush 20, 2) := by decide +kernel
theorem dX6_ahead_11 : decode cX6_ahead 11 = .ok (.invokestatic 58, 3) := by decide +kernel
theorem dX6_ahead_14 : decode cX6_ahead 14 = .ok (.ifCond .eq 11, 3) := by decide +kernel
theorem dX6_ahead_17 : decode cX6_ahead 17 = .ok (.iload_n 3, 1) := by decide +kernel
theorem dX6_ahead_18 : decode cX6_ahead 18 = .ok (.iconst 3, 1) := by decide +kernel
theorem dX6_ahead_19 : decode cX6_ahead 19 = .ok (.invokestatic 58, 3) := by decide +kernel
theorem dX6_ahead_22 : decode cX6_ahead 22 = .ok (.ifCond .ne 5, 3) := by decide +kernel
theorem dX6_ahead_25 : decode cX6_ahead 25 = .ok (.iconst (-1), 1) := by decide +kernel
theorem dX6_ahead_26 : decode cX6_ahead 26 = .ok (.ireturn, 1) := by decide +kernel
theorem dX6_ahead_27 : decode cX6_ahead 27 = .ok (.aload_n 0, 1) := by decide +kernel
theorem dX6_ahead_28 : decode cX6_ahead 28 = .ok (.getfield 37, 3) := by decide +kernel
theorem dX6_ahead_31 : decode cX6_ahead 31 = .ok (.aload_n 0, 1) := by decide +kernel
theorem dX6_ahead_32 : decode cX6_ahead 32 = .ok (.getfield 26, 3) := by decide +kernel
theorem dX6_ahead_35 : decode cX6_ahead 35 = .ok (.invokevirtual 83, 3) := by decide +kernel
theorem dX6_ahead_38 : decode cX6_ahead 38 = .ok (.aload_n 0, 1) := by decide +kernel
theorem dX6_ahead_39 : decode cX6_ahead 39 = .ok (.getfield 37, 3) := by decide +kernel
theorem dX6_ahead_42 : decode cX6_ahead 42 = .ok (.aload_n 0, 1) := by decide +kernel
theorem dX6_ahead_43 : decode cX6_ahead 43 = .ok (.getfield 19, 3) := by decide +kernel
theorem dX6_ahead_46 : decode cX6_ahead 46 = .ok (.iload_n 2, 1) := by decide +kernel
theorem dX6_ahead_47 : decode cX6_ahead 47 = .ok (.invokevirtual 168, 3) := by decide +kernel
theorem dX6_ahead_50 : decode cX6_ahead 50 = .ok (.pop, 1) := by decide +kernel
theorem dX6_ahead_51 : decode cX6_ahead 51 = .ok (.iload_n 3, 1) := by decide +kernel
theorem dX6_ahead_52 : decode cX6_ahead 52 = .ok (.tableswitch 68 0 2 #[28, 38, 48], 28) := by decide +kernel
theorem dX6_ahead_80 : decode cX6_ahead 80 = .ok (.aload_n 0, 1) := by decide +kernel
theorem dX6_ahead_81 : decode cX6_ahead 81 = .ok (.getfield 37, 3) := by decide +kernel
theorem dX6_ahead_84 : decode cX6_ahead 84 = .ok (.getfield 121, 3) := by decide +kernel
theorem dX6_ahead_87 : decode cX6_ahead 87 = .ok (.iload_n 1, 1) := by decide +kernel
theorem dX6_ahead_88 : decode cX6_ahead 88 = .ok (.iaload, 1) := by decide +kernel
theorem dX6_ahead_89 : decode cX6_ahead 89 = .ok (.ireturn, 1) := by decide +kernel
theorem dX6_ahead_90 : decode cX6_ahead 90 = .ok (.aload_n 0, 1) := by decide +kernel
theorem dX6_ahead_91 : decode cX6_ahead 91 = .ok (.getfield 37, 3) := by decide +kernel
theorem dX6_ahead_94 : decode cX6_ahead 94 = .ok (.getfield 124, 3) := by decide +kernel
theorem dX6_ahead_97 : decode cX6_ahead 97 = .ok (.iload_n 1, 1) := by decide +kernel
theorem dX6_ahead_98 : decode cX6_ahead 98 = .ok (.iaload, 1) := by decide +kernel
theorem dX6_ahead_99 : decode cX6_ahead 99 = .ok (.ireturn, 1) := by decide +kernel
theorem dX6_ahead_100 : decode cX6_ahead 100 = .ok (.aload_n 0, 1) := by decide +kernel
theorem dX6_ahead_101 : decode cX6_ahead 101 = .ok (.getfield 37, 3) := by decide +kernel
theorem dX6_ahead_104 : decode cX6_ahead 104 = .ok (.getfield 127, 3) := by decide +kernel
theorem dX6_ahead_107 : decode cX6_ahead 107 = .ok (.iload_n 1, 1) := by decide +kernel
theorem dX6_ahead_108 : decode cX6_ahead 108 = .ok (.iaload, 1) := by decide +kernel
theorem dX6_ahead_109 : decode cX6_ahead 109 = .ok (.aload_n 0, 1) := by decide +kernel
theorem dX6_ahead_110 : decode cX6_ahead 110 = .ok (.getfield 26, 3) := by decide +kernel
theorem dX6_ahead_113 : decode cX6_ahead 113 = .ok (.getfield 127, 3) := by decide +kernel
theorem dX6_ahead_116 : decode cX6_ahead 116 = .ok (.iload_n 1, 1) := by decide +kernel
theorem dX6_ahead_117 : decode cX6_ahead 117 = .ok (.iaload, 1) := by decide +kernel
theorem dX6_ahead_118 : decode cX6_ahead 118 = .ok (.isub, 1) := by decide +kernel
theorem dX6_ahead_119 : decode cX6_ahead 119 = .ok (.ireturn, 1) := by decide +kernel
theorem dX6_ahead_120 : decode cX6_ahead 120 = .ok (.aload_n 0, 1) := by decide +kernel
theorem dX6_ahead_121 : decode cX6_ahead 121 = .ok (.getfield 37, 3) := by decide +kernel
theorem dX6_ahead_124 : decode cX6_ahead 124 = .ok (.getfield 105, 3) := by decide +kernel
theorem dX6_ahead_127 : decode cX6_ahead 127 = .ok (.ireturn, 1) := by decide +kernel
set_option maxRecDepth 20000 in
theorem ggX6_first_X6_isOne : GoodIn wsX6_first wsX6_isOne := goodIn_r _ [10, 2, 11, 76, 77, 78, 79, 80, 81, 82, 83, 84, 85, 86, 87, 88, 89, 90, 91, 92, 93, 94, 95] (by decide +kernel) (by decide +kernel)
set_option maxRecDepth 20000 in
theorem gX6_first_X6_isOne : GoodIn wsX6_first (wsV RX6 114 RX6 yX6_isOne wsX6_isOne) := goodIn_app (goodIn_of _ (by decide +kernel)) ggX6_first_X6_isOne
set_option maxRecDepth 20000 in
theorem ggX6_first_X1_copyFrom : GoodIn wsX6_first wsX1_copyFrom := goodIn_r _ [16, 17, 18, 19, 20, 21, 22, 23, 24, 25, 26, 27, 28, 29, 30, 31, 85, 86, 87, 88, 89, 90, 91, 92, 93, 94, 95] (by decide +kernel) (by decide +kernel)
set_option maxRecDepth 20000 in
theorem gX6_first_X1_copyFrom : GoodIn wsX6_first (wsV RX6 83 RX1 yX1_copyFrom wsX1_copyFrom) := goodIn_app (goodIn_of _ (by decide +kernel)) ggX6_first_X1_copyFrom
set_option maxRecDepth 20000 in
theorem ggX6_first_X1_passWeek : GoodIn wsX6_first wsX1_passWeek := goodIn_r _ [35, 31, 36, 37, 30, 38, 39, 40, 41, 42, 43, 44, 15, 45, 46, 47, 48, 49, 50, 51, 26, 18, 52, 53, 54, 55, 27, 56, 57, 58, 59, 24, 60, 61, 62, 63, 64, 65, 66, 67, 23, 68, 69, 70, 71, 29, 25, 72, 73, 74, 75, 17, 28, 85, 86, 87, 88, 89, 90, 91, 92, 93, 94, 95, 96, 97, 98, 99, 100, 101, 102, 103] (by decide +kernel) (by decide +kernel)
set_option maxRecDepth 20000 in
theorem gX6_first_X1_passWeek : GoodIn wsX6_first (wsV RX6 171 RX1 yX1_passWeek wsX1_passWeek) := goodIn_app (goodIn_of _ (by decide +kernel)) ggX6_first_X1_passWeek
theorem dX6_first_0 : decode cX6_first 0 = .ok (.aload_n 0, 1) := by decide +kernel
theorem dX6_first_1 : decode cX6_first 1 = .ok (.iload_n 1, 1) := by decide +kernel
theorem dX6_first_2 : decode cX6_first 2 = .ok (.invokevirtual 114, 3) := by decide +kernel
theorem dX6_first_5 : decode cX6_first 5 = .ok (.ifCond .ne 5, 3) := by decide +kernel
theorem dX6_first_8 : decode cX6_first 8 = .ok (.iconst (-1), 1) := by decide +kernel
theorem dX6_first_9 : decode cX6_first 9 = .ok (.ireturn, 1) := by decide +kernel
theorem dX6_first_10 : decode cX6_first 10 = .ok (.aload_n 0, 1) := by decide +kernel
theorem dX6_first_11 : decode cX6_first 11 = .ok (.getfield 37, 3) := by decide +kernel
theorem dX6_first_14 : decode cX6_first 14 = .ok (.aload_n 0, 1) := by decide +kernel
theorem dX6_first_15 : decode cX6_first 15 = .ok (.getfield 26, 3) := by decide +kernel
theorem dX6_first_18 : decode cX6_first 18 = .ok (.invokevirtual 83, 3) := by decide +kernel
theorem dX6_first_21 : decode cX6_first 21 = .ok (.iconst 0, 1) := by decide +kernel
theorem dX6_first_22 : decode cX6_first 22 = .ok (.istore_n 2, 1) := by decide +kernel
theorem dX6_first_23 : decode cX6_first 23 = .ok (.iload_n 2, 1) := by decide +kernel
theorem dX6_first_24 : decode cX6_first 24 = .ok (.bipush 20, 2) := by decide +kernel
theorem dX6_first_26 : decode cX6_first 26 = .ok (.if_icmp .ge 46, 3) := by decide +kernel
theorem dX6_first_29 : decode cX6_first 29 = .ok (.aload_n 0, 1) := by decide +kernel
theorem dX6_first_30 : decode cX6_first 30 = .ok (.getfield 37, 3) := by decide +kernel
theorem dX6_first_33 : decode cX6_first 33 = .ok (.aload_n 0, 1) := by decide +kernel
theorem dX6_first_34 : decode cX6_first 34 = .ok (.getfield 19, 3) := by decide +kernel
theorem dX6_first_37 : decode cX6_first 37 = .ok (.invokevirtual 171, 3) := by decide +kernel
theorem dX6_first_40 : decode cX6_first 40 = .ok (.pop, 1) := by decide +kernel
theorem dX6_first_41 : decode cX6_first 41 = .ok (.aload_n 0, 1) := by decide +kernel
theorem dX6_first_42 : decode cX6_first 42 = .ok (.getfield 37, 3) := by decide +kernel
theorem dX6_first_45 : decode cX6_first 45 = .ok (.getfield 175, 3) := by decide +kernel
theorem dX6_first_48 : decode cX6_first 48 = .ok (.iload_n 1, 1) := by decide +kernel
theorem dX6_first_49 : decode cX6_first 49 = .ok (.ishr, 1) := by decide +kernel
theorem dX6_first_50 : decode cX6_first 50 = .ok (.iconst 1, 1) := by decide +kernel
theorem dX6_first_51 : decode cX6_first 51 = .ok (.iand, 1) := by decide +kernel
theorem dX6_first_52 : decode cX6_first 52 = .ok (.iconst 1, 1) := by decide +kernel
theorem dX6_first_53 : decode cX6_first 53 = .ok (.if_icmp .ne 13, 3) := by decide +kernel
theorem dX6_first_56 : decode cX6_first 56 = .ok (.aload_n 0, 1) := by decide +kernel
theorem dX6_first_57 : decode cX6_first 57 = .ok (.getfield 26, 3) := by decide +kernel
theorem dX6_first_60 : decode cX6_first 60 = .ok (.getfield 108, 3) := by decide +kernel
theorem dX6_first_63 : decode cX6_first 63 = .ok (.iload_n 2, 1) := by decide +kernel
theorem dX6_first_64 : decode cX6_first 64 = .ok (.iadd, 1) := by decide +kernel
theorem dX6_first_65 : decode cX6_first 65 = .ok (.ireturn, 1) := by decide +kernel
theorem dX6_first_66 : decode cX6_first 66 = .ok (.iinc 2 1, 3) := by decide +kernel
theorem dX6_first_69 : decode cX6_first 69 = .ok (.goto (-46), 3) := by decide +kernel
theorem dX6_first_72 : decode cX6_first 72 = .ok (.bipush (-4), 2) := by decide +kernel
theorem dX6_first_74 : decode cX6_first 74 = .ok (.ireturn, 1) := by decide +kernel
set_option maxRecDepth 20000 in
theorem ggX6_modest_X1_copyFrom : GoodIn wsX6_modest wsX1_copyFrom := goodIn_r _ [8, 9, 10, 11, 12, 13, 14, 15, 16, 17, 18, 19, 20, 21, 22, 23, 77, 78, 79, 80, 81, 82, 83, 84, 85, 86, 87] (by decide +kernel) (by decide +kernel)
set_option maxRecDepth 20000 in
theorem gX6_modest_X1_copyFrom : GoodIn wsX6_modest (wsV RX6 83 RX1 yX1_copyFrom wsX1_copyFrom) := goodIn_app (goodIn_of _ (by decide +kernel)) ggX6_modest_X1_copyFrom
set_option maxRecDepth 20000 in
theorem ggX6_modest_X1_passWeek : GoodIn wsX6_modest wsX1_passWeek := goodIn_r _ [27, 23, 28, 29, 22, 30, 31, 32, 33, 34, 35, 36, 7, 37, 38, 39, 40, 41, 42, 43, 18, 10, 44, 45, 46, 47, 19, 48, 49, 50, 51, 16, 52, 53, 54, 55, 56, 57, 58, 59, 15, 60, 61, 62, 63, 21, 17, 64, 65, 66, 67, 9, 20, 77, 78, 79, 80, 81, 82, 83, 84, 85, 86, 87, 88, 89, 90, 91, 92, 93, 94, 95] (by decide +kernel) (by decide +kernel)
set_option maxRecDepth 20000 in
theorem gX6_modest_X1_passWeek : GoodIn wsX6_modest (wsV RX6 171 RX1 yX1_passWeek wsX1_passWeek) := goodIn_app (goodIn_of _ (by decide +kernel)) ggX6_modest_X1_passWeek
theorem dX6_modest_0 : decode cX6_modest 0 = .ok (.aload_n 0, 1) := by decide +kernel
theorem dX6_modest_1 : decode cX6_modest 1 = .ok (.getfield 37, 3) := by decide +kernel
theorem dX6_modest_4 : decode cX6_modest 4 = .ok (.aload_n 0, 1) := by decide +kernel
theorem dX6_modest_5 : decode cX6_modest 5 = .ok (.getfield 26, 3) := by decide +kernel
theorem dX6_modest_8 : decode cX6_modest 8 = .ok (.invokevirtual 83, 3) := by decide +kernel
theorem dX6_modest_11 : decode cX6_modest 11 = .ok (.iconst 0, 1) := by decide +kernel
theorem dX6_modest_12 : decode cX6_modest 12 = .ok (.istore_n 1, 1) := by decide +kernel
theorem dX6_modest_13 : decode cX6_modest 13 = .ok (.iconst 0, 1) := by decide +kernel
theorem dX6_modest_14 : decode cX6_modest 14 = .ok (.istore_n 2, 1) := by decide +kernel
theorem dX6_modest_15 : decode cX6_modest 15 = .ok (.iload_n 2, 1) := by decide +kernel
theorem dX6_modest_16 : decode cX6_modest 16 = .ok (.bipush 10, 2) := by decide +kernel
theorem dX6_modest_18 : decode cX6_modest 18 = .ok (.if_icmp .ge 26, 3) := by decide +kernel
theorem dX6_modest_21 : decode cX6_modest 21 = .ok (.aload_n 0, 1) := by decide +kernel
theorem dX6_modest_22 : decode cX6_modest 22 = .ok (.getfield 37, 3) := by decide +kernel
theorem dX6_modest_25 : decode cX6_modest 25 = .ok (.aload_n 0, 1) := by decide +kernel
theorem dX6_modest_26 : decode cX6_modest 26 = .ok (.getfield 19, 3) := by decide +kernel
theorem dX6_modest_29 : decode cX6_modest 29 = .ok (.invokevirtual 171, 3) := by decide +kernel
theorem dX6_modest_32 : decode cX6_modest 32 = .ok (.ifCond .ne 6, 3) := by decide +kernel
theorem dX6_modest_35 : decode cX6_modest 35 = .ok (.iinc 1 1, 3) := by decide +kernel
theorem dX6_modest_38 : decode cX6_modest 38 = .ok (.iinc 2 1, 3) := by decide +kernel
theorem dX6_modest_41 : decode cX6_modest 41 = .ok (.goto (-26), 3) := by decide +kernel
theorem dX6_modest_44 : decode cX6_modest 44 = .ok (.iload_n 1, 1) := by decide +kernel
theorem dX6_modest_45 : decode cX6_modest 45 = .ok (.ireturn, 1) := by decide +kernel
set_option maxRecDepth 20000 in
theorem ggX6_plan_X6_allIncidents : GoodIn wsX6_plan wsX6_allIncidents := goodIn_r _ [5, 6, 7, 92, 93, 94, 95, 96, 97, 98, 99, 100, 101, 102, 103, 104, 105, 106, 107, 108] (by decide +kernel) (by decide +kernel)
set_option maxRecDepth 20000 in
theorem gX6_plan_X6_allIncidents : GoodIn wsX6_plan (wsV RX6 178 RX6 yX6_allIncidents wsX6_allIncidents) := goodIn_app (goodIn_of _ (by decide +kernel)) ggX6_plan_X6_allIncidents
set_option maxRecDepth 20000 in
theorem ggX6_plan_X6_isWithin : GoodIn wsX6_plan wsX6_isWithin := goodIn_r _ [10] (by decide +kernel) (by decide +kernel)
set_option maxRecDepth 20000 in
theorem gX6_plan_X6_isWithin : GoodIn wsX6_plan (va_wsS RX6 58 yX6_isWithin wsX6_isWithin) := goodIn_app (goodIn_of _ (by decide +kernel)) ggX6_plan_X6_isWithin
set_option maxRecDepth 20000 in
theorem ggX6_plan_X6_keepsThePast : GoodIn wsX6_plan wsX6_keepsThePast := goodIn_r _ [14, 15, 16, 6, 7, 17, 18, 92, 93, 94, 95, 96, 97, 98, 99, 100, 109, 110, 111, 112, 113, 114, 115, 116, 117, 118, 119, 101, 102, 103, 104, 105, 106, 107, 108] (by decide +kernel) (by decide +kernel)
set_option maxRecDepth 20000 in
theorem gX6_plan_X6_keepsThePast : GoodIn wsX6_plan (wsV RX6 181 RX6 yX6_keepsThePast wsX6_keepsThePast) := goodIn_app (goodIn_of _ (by decide +kernel)) ggX6_plan_X6_keepsThePast
set_option maxRecDepth 20000 in
theorem ggX6_plan_X6_timesByPlan : GoodIn wsX6_plan wsX6_timesByPlan := goodIn_r _ [22, 23, 15, 16, 6, 24, 25, 26, 27, 28, 29, 30, 31, 32, 33, 34, 35, 36, 37, 38, 39, 40, 41, 42, 43, 44, 45, 46, 47, 48, 49, 50, 51, 52, 53, 54, 55, 56, 57, 58, 59, 60, 61, 62, 63, 64, 65, 66, 67, 68, 69, 70, 71, 72, 73, 74, 75, 76, 77, 78, 79, 80, 81, 82, 83, 84, 85, 86, 87, 88, 89, 90, 91, 92, 93, 94, 95, 96, 97, 98, 99, 100, 109, 110, 111, 112, 113, 114, 115, 116, 117, 118, 119, 101, 102, 103, 104, 105, 106, 107, 108] (by decide +kernel) (by decide +kernel)
set_option maxRecDepth 20000 in
theorem gX6_plan_X6_timesByPlan : GoodIn wsX6_plan (wsV RX6 184 RX6 yX6_timesByPlan wsX6_timesByPlan) := goodIn_app (goodIn_of _ (by decide +kernel)) ggX6_plan_X6_timesByPlan
theorem dX6_plan_0 : decode cX6_plan 0 = .ok (.iload_n 1, 1) := by decide +kernel
theorem dX6_plan_1 : decode cX6_plan 1 = .ok (.aload_n 0, 1) := by decide +kernel
theorem dX6_plan_2 : decode cX6_plan 2 = .ok (.invokevirtual 178, 3) := by decide +kernel
theorem dX6_plan_5 : decode cX6_plan 5 = .ok (.invokestatic 58, 3) := by decide +kernel
theorem dX6_plan_8 : decode cX6_plan 8 = .ok (.ifCond .ne 5, 3) := by decide +kernel
theorem dX6_plan_11 : decode cX6_plan 11 = .ok (.iconst (-1), 1) := by decide +kernel
theorem dX6_plan_12 : decode cX6_plan 12 = .ok (.ireturn, 1) := by decide +kernel
theorem dX6_plan_13 : decode cX6_plan 13 = .ok (.aload_n 0, 1) := by decide +kernel
theorem dX6_plan_14 : decode cX6_plan 14 = .ok (.iload_n 1, 1) := by decide +kernel
theorem dX6_plan_15 : decode cX6_plan 15 = .ok (.invokevirtual 181, 3) := by decide +kernel
theorem dX6_plan_18 : decode cX6_plan 18 = .ok (.ifCond .eq 11, 3) := by decide +kernel
theorem dX6_plan_21 : decode cX6_plan 21 = .ok (.aload_n 0, 1) := by decide +kernel
theorem dX6_plan_22 : decode cX6_plan 22 = .ok (.iload_n 1, 1) := by decide +kernel
theorem dX6_plan_23 : decode cX6_plan 23 = .ok (.invokevirtual 184, 3) := by decide +kernel
theorem dX6_plan_26 : decode cX6_plan 26 = .ok (.goto 5, 3) := by decide +kernel
theorem dX6_plan_29 : decode cX6_plan 29 = .ok (.bipush (-2), 2) := by decide +kernel
theorem dX6_plan_31 : decode cX6_plan 31 = .ok (.ireturn, 1) := by decide +kernel
set_option maxRecDepth 20000 in
theorem ggX6_best_X6_isWithin : GoodIn wsX6_best wsX6_isWithin := goodIn_r _ [6] (by decide +kernel) (by decide +kernel)
set_option maxRecDepth 20000 in
theorem gX6_best_X6_isWithin : GoodIn wsX6_best (va_wsS RX6 58 yX6_isWithin wsX6_isWithin) := goodIn_app (goodIn_of _ (by decide +kernel)) ggX6_best_X6_isWithin
set_option maxRecDepth 20000 in
theorem ggX6_best_X6_timesByPlan : GoodIn wsX6_best wsX6_timesByPlan := goodIn_r _ [10, 11, 1, 2, 12, 13, 14, 15, 16, 17, 18, 19, 20, 21, 22, 23, 24, 25, 26, 27, 28, 29, 30, 31, 32, 33, 34, 35, 36, 37, 38, 39, 40, 41, 42, 43, 44, 45, 46, 47, 48, 49, 50, 51, 52, 53, 54, 55, 56, 57, 58, 59, 60, 61, 62, 63, 64, 65, 66, 67, 68, 69, 70, 71, 72, 73, 74, 75, 76, 77, 78, 79, 80, 102, 103, 104, 105, 106, 107, 108, 109, 110, 111, 112, 113, 114, 115, 116, 117, 118, 119, 120, 121, 122, 123, 124, 125, 126, 127, 128, 129] (by decide +kernel) (by decide +kernel)
set_option maxRecDepth 20000 in
theorem gX6_best_X6_timesByPlan : GoodIn wsX6_best (wsV RX6 184 RX6 yX6_timesByPlan wsX6_timesByPlan) := goodIn_app (goodIn_of _ (by decide +kernel)) ggX6_best_X6_timesByPlan
set_option maxRecDepth 20000 in
theorem ggX6_best_X6_allIncidents : GoodIn wsX6_best wsX6_allIncidents := goodIn_r _ [84, 12, 85, 102, 103, 104, 105, 106, 107, 108, 109, 110, 122, 123, 124, 125, 126, 127, 128, 129] (by decide +kernel) (by decide +kernel)
set_option maxRecDepth 20000 in
theorem gX6_best_X6_allIncidents : GoodIn wsX6_best (wsV RX6 178 RX6 yX6_allIncidents wsX6_allIncidents) := goodIn_app (goodIn_of _ (by decide +kernel)) ggX6_best_X6_allIncidents
set_option maxRecDepth 20000 in
theorem ggX6_best_X6_keepsThePast : GoodIn wsX6_best wsX6_keepsThePast := goodIn_r _ [89, 1, 2, 12, 85, 90, 91, 102, 103, 104, 105, 106, 107, 108, 109, 110, 111, 112, 113, 114, 115, 116, 117, 118, 119, 120, 121, 122, 123, 124, 125, 126, 127, 128, 129] (by decide +kernel) (by decide +kernel)
set_option maxRecDepth 20000 in
theorem gX6_best_X6_keepsThePast : GoodIn wsX6_best (wsV RX6 181 RX6 yX6_keepsThePast wsX6_keepsThePast) := goodIn_app (goodIn_of _ (by decide +kernel)) ggX6_best_X6_keepsThePast
set_option maxRecDepth 20000 in
theorem ggX6_best_X6_isSmaller : GoodIn wsX6_best wsX6_isSmaller := goodIn_r _ [94, 95, 96, 97, 98, 99, 100, 101] (by decide +kernel) (by decide +kernel)
set_option maxRecDepth 20000 in
theorem gX6_best_X6_isSmaller : GoodIn wsX6_best (va_wsS RX6 187 yX6_isSmaller wsX6_isSmaller) := goodIn_app (goodIn_of _ (by decide +kernel)) ggX6_best_X6_isSmaller
theorem dX6_best_0 : decode cX6_best 0 = .ok (.iload_n 1, 1) := by decide +kernel
theorem dX6_best_1 : decode cX6_best 1 = .ok (.iconst 1, 1) := by decide +kernel
theorem dX6_best_2 : decode cX6_best 2 = .ok (.invokestatic 58, 3) := by decide +kernel
theorem dX6_best_5 : decode cX6_best 5 = .ok (.ifCond .ne 5, 3) := by decide +kernel
theorem dX6_best_8 : decode cX6_best 8 = .ok (.iconst (-1), 1) := by decide +kernel
theorem dX6_best_9 : decode cX6_best 9 = .ok (.ireturn, 1) := by decide +kernel
theorem dX6_best_10 : decode cX6_best 10 = .ok (.aload_n 0, 1) := by decide +kernel
theorem dX6_best_11 : decode cX6_best 11 = .ok (.getfield 26, 3) := by decide +kernel
theorem dX6_best_14 : decode cX6_best 14 = .ok (.getfield 111, 3) := by decide +kernel
theorem dX6_best_17 : decode cX6_best 17 = .ok (.istore_n 2, 1) := by decide +kernel
theorem dX6_best_18 : decode cX6_best 18 = .ok (.aload_n 0, 1) := by decide +kernel
theorem dX6_best_19 : decode cX6_best 19 = .ok (.iload_n 2, 1) := by decide +kernel
theorem dX6_best_20 : decode cX6_best 20 = .ok (.invokevirtual 184, 3) := by decide +kernel
theorem dX6_best_23 : decode cX6_best 23 = .ok (.istore_n 3, 1) := by decide +kernel
theorem dX6_best_24 : decode cX6_best 24 = .ok (.iconst 0, 1) := by decide +kernel
theorem dX6_best_25 : decode cX6_best 25 = .ok (.istore 4, 2) := by decide +kernel
theorem dX6_best_27 : decode cX6_best 27 = .ok (.iload 4, 2) := by decide +kernel
theorem dX6_best_29 : decode cX6_best 29 = .ok (.aload_n 0, 1) := by decide +kernel
theorem dX6_best_30 : decode cX6_best 30 = .ok (.invokevirtual 178, 3) := by decide +kernel
theorem dX6_best_33 : decode cX6_best 33 = .ok (.if_icmp .gt 53, 3) := by decide +kernel
theorem dX6_best_36 : decode cX6_best 36 = .ok (.aload_n 0, 1) := by decide +kernel
theorem dX6_best_37 : decode cX6_best 37 = .ok (.iload 4, 2) := by decide +kernel
theorem dX6_best_39 : decode cX6_best 39 = .ok (.invokevirtual 181, 3) := by decide +kernel
theorem dX6_best_42 : decode cX6_best 42 = .ok (.ifCond .eq 38, 3) := by decide +kernel
theorem dX6_best_45 : decode cX6_best 45 = .ok (.aload_n 0, 1) := by decide +kernel
theorem dX6_best_46 : decode cX6_best 46 = .ok (.iload 4, 2) := by decide +kernel
theorem dX6_best_48 : decode cX6_best 48 = .ok (.invokevirtual 184, 3) := by decide +kernel
theorem dX6_best_51 : decode cX6_best 51 = .ok (.istore 5, 2) := by decide +kernel
theorem dX6_best_53 : decode cX6_best 53 = .ok (.iload 5, 2) := by decide +kernel
theorem dX6_best_55 : decode cX6_best 55 = .ok (.iload_n 3, 1) := by decide +kernel
theorem dX6_best_56 : decode cX6_best 56 = .ok (.if_icmp .lt 18, 3) := by decide +kernel
theorem dX6_best_59 : decode cX6_best 59 = .ok (.iload 5, 2) := by decide +kernel
theorem dX6_best_61 : decode cX6_best 61 = .ok (.iload_n 3, 1) := by decide +kernel
theorem dX6_best_62 : decode cX6_best 62 = .ok (.if_icmp .ne 18, 3) := by decide +kernel
theorem dX6_best_65 : decode cX6_best 65 = .ok (.iload 4, 2) := by decide +kernel
theorem dX6_best_67 : decode cX6_best 67 = .ok (.iload_n 2, 1) := by decide +kernel
theorem dX6_best_68 : decode cX6_best 68 = .ok (.invokestatic 187, 3) := by decide +kernel
theorem dX6_best_71 : decode cX6_best 71 = .ok (.ifCond .eq 9, 3) := by decide +kernel
theorem dX6_best_74 : decode cX6_best 74 = .ok (.iload 4, 2) := by decide +kernel
theorem dX6_best_76 : decode cX6_best 76 = .ok (.istore_n 2, 1) := by decide +kernel
theorem dX6_best_77 : decode cX6_best 77 = .ok (.iload 5, 2) := by decide +kernel
theorem dX6_best_79 : decode cX6_best 79 = .ok (.istore_n 3, 1) := by decide +kernel
theorem dX6_best_80 : decode cX6_best 80 = .ok (.iinc 4 1, 3) := by decide +kernel
theorem dX6_best_83 : decode cX6_best 83 = .ok (.goto (-56), 3) := by decide +kernel
theorem dX6_best_86 : decode cX6_best 86 = .ok (.iload_n 1, 1) := by decide +kernel
theorem dX6_best_87 : decode cX6_best 87 = .ok (.ifCond .ne 7, 3) := by decide +kernel
theorem dX6_best_90 : decode cX6_best 90 = .ok (.iload_n 2, 1) := by decide +kernel
theorem dX6_best_91 : decode cX6_best 91 = .ok (.goto 4, 3) := by decide +kernel
theorem dX6_best_94 : decode cX6_best 94 = .ok (.iload_n 3, 1) := by decide +kernel
theorem dX6_best_95 : decode cX6_best 95 = .ok (.ireturn, 1) := by decide +kernel
set_option maxRecDepth 20000 in
theorem ggX6_save_X6_isOne : GoodIn wsX6_save wsX6_isOne := goodIn_r _ [8, 3, 9, 105, 106, 107, 108, 109, 110, 111, 112, 113, 114, 115, 116, 117, 118, 119, 120, 121, 122, 123, 124] (by decide +kernel) (by decide +kernel)
set_option maxRecDepth 20000 in
theorem gX6_save_X6_isOne : GoodIn wsX6_save (wsV RX6 114 RX6 yX6_isOne wsX6_isOne) := goodIn_app (goodIn_of _ (by decide +kernel)) ggX6_save_X6_isOne
set_option maxRecDepth 20000 in
theorem ggX6_save_X6_allIncidents : GoodIn wsX6_save wsX6_allIncidents := goodIn_r _ [13, 14, 15, 105, 106, 107, 108, 109, 110, 111, 112, 113, 125, 126, 127, 128, 129, 130, 131, 132] (by decide +kernel) (by decide +kernel)
set_option maxRecDepth 20000 in
theorem gX6_save_X6_allIncidents : GoodIn wsX6_save (wsV RX6 178 RX6 yX6_allIncidents wsX6_allIncidents) := goodIn_app (goodIn_of _ (by decide +kernel)) ggX6_save_X6_allIncidents
