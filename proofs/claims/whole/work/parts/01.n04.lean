theorem dX2_append_16 : decode cX2_append 16 = .ok (.aload_n 0, 1) := by decide +kernel
theorem dX2_append_17 : decode cX2_append 17 = .ok (.getfield 21, 3) := by decide +kernel
theorem dX2_append_20 : decode cX2_append 20 = .ok (.iload_n 1, 1) := by decide +kernel
theorem dX2_append_21 : decode cX2_append 21 = .ok (.iastore, 1) := by decide +kernel
theorem dX2_append_22 : decode cX2_append 22 = .ok (.aload_n 0, 1) := by decide +kernel
theorem dX2_append_23 : decode cX2_append 23 = .ok (.getfield 15, 3) := by decide +kernel
theorem dX2_append_26 : decode cX2_append 26 = .ok (.aload_n 0, 1) := by decide +kernel
theorem dX2_append_27 : decode cX2_append 27 = .ok (.getfield 21, 3) := by decide +kernel
theorem dX2_append_30 : decode cX2_append 30 = .ok (.iload_n 2, 1) := by decide +kernel
theorem dX2_append_31 : decode cX2_append 31 = .ok (.iastore, 1) := by decide +kernel
theorem dX2_append_32 : decode cX2_append 32 = .ok (.aload_n 0, 1) := by decide +kernel
theorem dX2_append_33 : decode cX2_append 33 = .ok (.getfield 18, 3) := by decide +kernel
theorem dX2_append_36 : decode cX2_append 36 = .ok (.aload_n 0, 1) := by decide +kernel
theorem dX2_append_37 : decode cX2_append 37 = .ok (.getfield 21, 3) := by decide +kernel
theorem dX2_append_40 : decode cX2_append 40 = .ok (.iload_n 3, 1) := by decide +kernel
theorem dX2_append_41 : decode cX2_append 41 = .ok (.ifCond .eq 7, 3) := by decide +kernel
theorem dX2_append_44 : decode cX2_append 44 = .ok (.iconst 1, 1) := by decide +kernel
theorem dX2_append_45 : decode cX2_append 45 = .ok (.goto 4, 3) := by decide +kernel
theorem dX2_append_48 : decode cX2_append 48 = .ok (.iconst 0, 1) := by decide +kernel
theorem dX2_append_49 : decode cX2_append 49 = .ok (.iastore, 1) := by decide +kernel
theorem dX2_append_50 : decode cX2_append 50 = .ok (.aload_n 0, 1) := by decide +kernel
theorem dX2_append_51 : decode cX2_append 51 = .ok (.dup, 1) := by decide +kernel
theorem dX2_append_52 : decode cX2_append 52 = .ok (.getfield 21, 3) := by decide +kernel
theorem dX2_append_55 : decode cX2_append 55 = .ok (.iconst 1, 1) := by decide +kernel
theorem dX2_append_56 : decode cX2_append 56 = .ok (.iadd, 1) := by decide +kernel
theorem dX2_append_57 : decode cX2_append 57 = .ok (.putfield 21, 3) := by decide +kernel
theorem dX2_append_60 : decode cX2_append 60 = .ok (.aload_n 0, 1) := by decide +kernel
theorem dX2_append_61 : decode cX2_append 61 = .ok (.getfield 21, 3) := by decide +kernel
theorem dX2_append_64 : decode cX2_append 64 = .ok (.ireturn, 1) := by decide +kernel
theorem dX2_agree_0 : decode cX2_agree 0 = .ok (.iconst 0, 1) := by decide +kernel
theorem dX2_agree_1 : decode cX2_agree 1 = .ok (.istore_n 3, 1) := by decide +kernel
theorem dX2_agree_2 : decode cX2_agree 2 = .ok (.iload_n 3, 1) := by decide +kernel
theorem dX2_agree_3 : decode cX2_agree 3 = .ok (.aload_n 0, 1) := by decide +kernel
theorem dX2_agree_4 : decode cX2_agree 4 = .ok (.getfield 21, 3) := by decide +kernel
theorem dX2_agree_7 : decode cX2_agree 7 = .ok (.if_icmp .ge 40, 3) := by decide +kernel
theorem dX2_agree_10 : decode cX2_agree 10 = .ok (.aload_n 0, 1) := by decide +kernel
theorem dX2_agree_11 : decode cX2_agree 11 = .ok (.getfield 15, 3) := by decide +kernel
theorem dX2_agree_14 : decode cX2_agree 14 = .ok (.iload_n 3, 1) := by decide +kernel
theorem dX2_agree_15 : decode cX2_agree 15 = .ok (.iaload, 1) := by decide +kernel
theorem dX2_agree_16 : decode cX2_agree 16 = .ok (.iload_n 1, 1) := by decide +kernel
theorem dX2_agree_17 : decode cX2_agree 17 = .ok (.if_icmp .ne 24, 3) := by decide +kernel
theorem dX2_agree_20 : decode cX2_agree 20 = .ok (.iload_n 2, 1) := by decide +kernel
theorem dX2_agree_21 : decode cX2_agree 21 = .ok (.aload_n 0, 1) := by decide +kernel
theorem dX2_agree_22 : decode cX2_agree 22 = .ok (.getfield 9, 3) := by decide +kernel
theorem dX2_agree_25 : decode cX2_agree 25 = .ok (.iload_n 3, 1) := by decide +kernel
theorem dX2_agree_26 : decode cX2_agree 26 = .ok (.iaload, 1) := by decide +kernel
theorem dX2_agree_27 : decode cX2_agree 27 = .ok (.ishr, 1) := by decide +kernel
theorem dX2_agree_28 : decode cX2_agree 28 = .ok (.iconst 1, 1) := by decide +kernel
theorem dX2_agree_29 : decode cX2_agree 29 = .ok (.iand, 1) := by decide +kernel
theorem dX2_agree_30 : decode cX2_agree 30 = .ok (.aload_n 0, 1) := by decide +kernel
theorem dX2_agree_31 : decode cX2_agree 31 = .ok (.getfield 18, 3) := by decide +kernel
theorem dX2_agree_34 : decode cX2_agree 34 = .ok (.iload_n 3, 1) := by decide +kernel
theorem dX2_agree_35 : decode cX2_agree 35 = .ok (.iaload, 1) := by decide +kernel
theorem dX2_agree_36 : decode cX2_agree 36 = .ok (.if_icmp .eq 5, 3) := by decide +kernel
theorem dX2_agree_39 : decode cX2_agree 39 = .ok (.iconst 0, 1) := by decide +kernel
theorem dX2_agree_40 : decode cX2_agree 40 = .ok (.ireturn, 1) := by decide +kernel
theorem dX2_agree_41 : decode cX2_agree 41 = .ok (.iinc 3 1, 3) := by decide +kernel
theorem dX2_agree_44 : decode cX2_agree 44 = .ok (.goto (-42), 3) := by decide +kernel
theorem dX2_agree_47 : decode cX2_agree 47 = .ok (.iconst 1, 1) := by decide +kernel
theorem dX2_agree_48 : decode cX2_agree 48 = .ok (.ireturn, 1) := by decide +kernel
theorem dX2_copyFrom_0 : decode cX2_copyFrom 0 = .ok (.aload_n 0, 1) := by decide +kernel
theorem dX2_copyFrom_1 : decode cX2_copyFrom 1 = .ok (.aload_n 1, 1) := by decide +kernel
theorem dX2_copyFrom_2 : decode cX2_copyFrom 2 = .ok (.getfield 21, 3) := by decide +kernel
theorem dX2_copyFrom_5 : decode cX2_copyFrom 5 = .ok (.putfield 21, 3) := by decide +kernel
theorem dX2_copyFrom_8 : decode cX2_copyFrom 8 = .ok (.aload_n 1, 1) := by decide +kernel
theorem dX2_copyFrom_9 : decode cX2_copyFrom 9 = .ok (.getfield 9, 3) := by decide +kernel
theorem dX2_copyFrom_12 : decode cX2_copyFrom 12 = .ok (.iconst 0, 1) := by decide +kernel
theorem dX2_copyFrom_13 : decode cX2_copyFrom 13 = .ok (.aload_n 0, 1) := by decide +kernel
theorem dX2_copyFrom_14 : decode cX2_copyFrom 14 = .ok (.getfield 9, 3) := by decide +kernel
theorem dX2_copyFrom_17 : decode cX2_copyFrom 17 = .ok (.iconst 0, 1) := by decide +kernel
theorem dX2_copyFrom_18 : decode cX2_copyFrom 18 = .ok (.bipush 6, 2) := by decide +kernel
theorem dX2_copyFrom_20 : decode cX2_copyFrom 20 = .ok (.invokestatic 25, 3) := by decide +kernel
theorem dX2_copyFrom_23 : decode cX2_copyFrom 23 = .ok (.aload_n 1, 1) := by decide +kernel
theorem dX2_copyFrom_24 : decode cX2_copyFrom 24 = .ok (.getfield 15, 3) := by decide +kernel
theorem dX2_copyFrom_27 : decode cX2_copyFrom 27 = .ok (.iconst 0, 1) := by decide +kernel
theorem dX2_copyFrom_28 : decode cX2_copyFrom 28 = .ok (.aload_n 0, 1) := by decide +kernel
theorem dX2_copyFrom_29 : decode cX2_copyFrom 29 = .ok (.getfield 15, 3) := by decide +kernel
theorem dX2_copyFrom_32 : decode cX2_copyFrom 32 = .ok (.iconst 0, 1) := by decide +kernel
theorem dX2_copyFrom_33 : decode cX2_copyFrom 33 = .ok (.bipush 6, 2) := by decide +kernel
theorem dX2_copyFrom_35 : decode cX2_copyFrom 35 = .ok (.invokestatic 25, 3) := by decide +kernel
theorem dX2_copyFrom_38 : decode cX2_copyFrom 38 = .ok (.aload_n 1, 1) := by decide +kernel
theorem dX2_copyFrom_39 : decode cX2_copyFrom 39 = .ok (.getfield 18, 3) := by decide +kernel
theorem dX2_copyFrom_42 : decode cX2_copyFrom 42 = .ok (.iconst 0, 1) := by decide +kernel
theorem dX2_copyFrom_43 : decode cX2_copyFrom 43 = .ok (.aload_n 0, 1) := by decide +kernel
theorem dX2_copyFrom_44 : decode cX2_copyFrom 44 = .ok (.getfield 18, 3) := by decide +kernel
theorem dX2_copyFrom_47 : decode cX2_copyFrom 47 = .ok (.iconst 0, 1) := by decide +kernel
theorem dX2_copyFrom_48 : decode cX2_copyFrom 48 = .ok (.bipush 6, 2) := by decide +kernel
theorem dX2_copyFrom_50 : decode cX2_copyFrom 50 = .ok (.invokestatic 25, 3) := by decide +kernel
theorem dX2_copyFrom_53 : decode cX2_copyFrom 53 = .ok (.return_, 1) := by decide +kernel
set_option maxRecDepth 20000 in
theorem ggX3_init_X5_init : GoodIn wsX3_init wsX5_init := goodIn_r _ [17, 18, 2, 3, 14, 19, 20, 21, 22, 23, 24, 35, 36, 37, 38, 39, 40, 41, 42] (by decide +kernel) (by decide +kernel)
set_option maxRecDepth 20000 in
theorem gX3_init_X5_init_n11 : GoodIn wsX3_init (wsX5_init) := ggX3_init_X5_init
set_option maxRecDepth 20000 in
theorem ggX3_init_X1_init : GoodIn wsX3_init wsX1_init := goodIn_r _ [26, 27, 2, 3, 14, 28, 29, 30, 31, 32, 33, 34, 55, 56, 57, 58, 59, 60, 61, 62, 63, 64, 65] (by decide +kernel) (by decide +kernel)
set_option maxRecDepth 20000 in
theorem gX3_init_X1_init_n20 : GoodIn wsX3_init (wsX1_init) := ggX3_init_X1_init
theorem dX3_init_0 : decode cX3_init 0 = .ok (.aload_n 0, 1) := by decide +kernel
theorem dX3_init_1 : decode cX3_init 1 = .ok (.invokespecial 3, 3) := by decide +kernel
theorem dX3_init_4 : decode cX3_init 4 = .ok (.aload_n 0, 1) := by decide +kernel
theorem dX3_init_5 : decode cX3_init 5 = .ok (.new 9, 3) := by decide +kernel
theorem dX3_init_8 : decode cX3_init 8 = .ok (.dup, 1) := by decide +kernel
theorem dX3_init_9 : decode cX3_init 9 = .ok (.invokespecial 11, 3) := by decide +kernel
theorem dX3_init_12 : decode cX3_init 12 = .ok (.putfield 12, 3) := by decide +kernel
theorem dX3_init_15 : decode cX3_init 15 = .ok (.aload_n 0, 1) := by decide +kernel
theorem dX3_init_16 : decode cX3_init 16 = .ok (.new 18, 3) := by decide +kernel
theorem dX3_init_19 : decode cX3_init 19 = .ok (.dup, 1) := by decide +kernel
theorem dX3_init_20 : decode cX3_init 20 = .ok (.invokespecial 20, 3) := by decide +kernel
theorem dX3_init_23 : decode cX3_init 23 = .ok (.putfield 21, 3) := by decide +kernel
theorem dX3_init_26 : decode cX3_init 26 = .ok (.aload_n 0, 1) := by decide +kernel
theorem dX3_init_27 : decode cX3_init 27 = .ok (.sipush 160, 3) := by decide +kernel
theorem dX3_init_30 : decode cX3_init 30 = .ok (.newarray .byte, 2) := by decide +kernel
theorem dX3_init_32 : decode cX3_init 32 = .ok (.putfield 25, 3) := by decide +kernel
theorem dX3_init_35 : decode cX3_init 35 = .ok (.aload_n 0, 1) := by decide +kernel
theorem dX3_init_36 : decode cX3_init 36 = .ok (.iconst 4, 1) := by decide +kernel
theorem dX3_init_37 : decode cX3_init 37 = .ok (.newarray .int, 2) := by decide +kernel
theorem dX3_init_39 : decode cX3_init 39 = .ok (.putfield 29, 3) := by decide +kernel
theorem dX3_init_42 : decode cX3_init 42 = .ok (.return_, 1) := by decide +kernel
theorem dX3_append_0 : decode cX3_append 0 = .ok (.aload_n 0, 1) := by decide +kernel
theorem dX3_append_1 : decode cX3_append 1 = .ok (.getfield 33, 3) := by decide +kernel
theorem dX3_append_4 : decode cX3_append 4 = .ok (.sipush 160, 3) := by decide +kernel
theorem dX3_append_7 : decode cX3_append 7 = .ok (.if_icmp .lt 6, 3) := by decide +kernel
theorem dX3_append_10 : decode cX3_append 10 = .ok (.bipush (-3), 2) := by decide +kernel
theorem dX3_append_12 : decode cX3_append 12 = .ok (.ireturn, 1) := by decide +kernel
theorem dX3_append_13 : decode cX3_append 13 = .ok (.aload_n 0, 1) := by decide +kernel
theorem dX3_append_14 : decode cX3_append 14 = .ok (.getfield 25, 3) := by decide +kernel
theorem dX3_append_17 : decode cX3_append 17 = .ok (.aload_n 0, 1) := by decide +kernel
theorem dX3_append_18 : decode cX3_append 18 = .ok (.getfield 33, 3) := by decide +kernel
theorem dX3_append_21 : decode cX3_append 21 = .ok (.iload_n 1, 1) := by decide +kernel
theorem dX3_append_22 : decode cX3_append 22 = .ok (.i2b, 1) := by decide +kernel
theorem dX3_append_23 : decode cX3_append 23 = .ok (.bastore, 1) := by decide +kernel
theorem dX3_append_24 : decode cX3_append 24 = .ok (.aload_n 0, 1) := by decide +kernel
theorem dX3_append_25 : decode cX3_append 25 = .ok (.dup, 1) := by decide +kernel
theorem dX3_append_26 : decode cX3_append 26 = .ok (.getfield 33, 3) := by decide +kernel
theorem dX3_append_29 : decode cX3_append 29 = .ok (.iconst 1, 1) := by decide +kernel
theorem dX3_append_30 : decode cX3_append 30 = .ok (.iadd, 1) := by decide +kernel
theorem dX3_append_31 : decode cX3_append 31 = .ok (.putfield 33, 3) := by decide +kernel
theorem dX3_append_34 : decode cX3_append 34 = .ok (.aload_n 0, 1) := by decide +kernel
theorem dX3_append_35 : decode cX3_append 35 = .ok (.getfield 33, 3) := by decide +kernel
theorem dX3_append_38 : decode cX3_append 38 = .ok (.ireturn, 1) := by decide +kernel
set_option maxRecDepth 20000 in
theorem ggX3_readTape_X3_begin : GoodIn wsX3_readTape wsX3_begin := goodIn_r _ [12, 3, 13, 14, 4, 5, 15, 16, 1, 17, 18, 19, 144, 145, 146, 147, 148, 149, 150, 151, 152, 153, 154, 155, 167, 168, 169, 170, 171, 172, 173, 174, 156, 157, 158, 159, 160, 161, 162, 163, 164, 165, 166] (by decide +kernel) (by decide +kernel)
set_option maxRecDepth 20000 in
theorem gX3_readTape_X3_begin : GoodIn wsX3_readTape (wsV RX3 37 RX3 yX3_begin wsX3_begin) := goodIn_app (goodIn_of _ (by decide +kernel)) ggX3_readTape_X3_begin
set_option maxRecDepth 20000 in
theorem ggX3_readTape_X3_nextToken : GoodIn wsX3_readTape wsX3_nextToken := goodIn_r _ [23, 17, 6, 24, 25, 2, 26, 27, 28, 11, 29, 30, 31, 32, 33, 34, 35, 36, 37, 1, 7, 144, 145, 146, 147, 148, 149, 150, 151, 152, 153, 154, 155] (by decide +kernel) (by decide +kernel)
set_option maxRecDepth 20000 in
theorem gX3_readTape_X3_nextToken : GoodIn wsX3_readTape (wsV RX3 40 RX3 yX3_nextToken wsX3_nextToken) := goodIn_app (goodIn_of _ (by decide +kernel)) ggX3_readTape_X3_nextToken
set_option maxRecDepth 20000 in
theorem ggX3_readTape_X3_readLine : GoodIn wsX3_readTape wsX3_readLine := goodIn_r _ [41, 2, 42, 1, 43, 44, 45, 46, 47, 11, 48, 49, 50, 51, 52, 17, 25, 24, 53, 54, 55, 56, 57, 58, 59, 60, 61, 62, 63, 64, 65, 66, 67, 68, 69, 70, 71, 72, 73, 74, 75, 76, 77, 78, 79, 80, 81, 82, 83, 84, 85, 86, 87, 88, 89, 90, 91, 92, 93, 94, 95, 96, 97, 98, 99, 100, 101, 34, 35, 36, 37, 7, 102, 103, 104, 105, 18, 19, 3, 13, 14, 4, 5, 106, 107, 108, 109, 110, 111, 112, 113, 20, 21, 22, 23, 6, 26, 27, 28, 29, 30, 31, 32, 33, 114, 115, 116, 117, 15, 16, 118, 119, 120, 121, 122, 123, 124, 125, 126, 127, 128, 129, 130, 131, 132, 133, 134, 144, 145, 146, 147, 148, 149, 150, 151, 152, 153, 154, 155, 167, 168, 169, 170, 171, 172, 173, 174, 156, 157, 158, 159, 160, 161, 162, 163, 164, 165, 166] (by decide +kernel) (by decide +kernel)
set_option maxRecDepth 20000 in
theorem gX3_readTape_X3_readLine : GoodIn wsX3_readTape (wsV RX3 49 RX3 yX3_readLine wsX3_readLine) := goodIn_app (goodIn_of _ (by decide +kernel)) ggX3_readTape_X3_readLine
set_option maxRecDepth 20000 in
theorem ggX3_readTape_X5_knowsAllOf : GoodIn wsX3_readTape wsX5_knowsAllOf := goodIn_r _ [139, 140, 141, 142, 143, 167, 168, 169, 170, 171, 172, 173, 174] (by decide +kernel) (by decide +kernel)
set_option maxRecDepth 20000 in
theorem gX3_readTape_X5_knowsAllOf : GoodIn wsX3_readTape (wsV RX3 55 RX5 yX5_knowsAllOf wsX5_knowsAllOf) := goodIn_app (goodIn_of _ (by decide +kernel)) ggX3_readTape_X5_knowsAllOf
theorem dX3_readTape_0 : decode cX3_readTape 0 = .ok (.aload_n 0, 1) := by decide +kernel
theorem dX3_readTape_1 : decode cX3_readTape 1 = .ok (.invokevirtual 37, 3) := by decide +kernel
theorem dX3_readTape_4 : decode cX3_readTape 4 = .ok (.iconst 0, 1) := by decide +kernel
theorem dX3_readTape_5 : decode cX3_readTape 5 = .ok (.istore_n 1, 1) := by decide +kernel
theorem dX3_readTape_6 : decode cX3_readTape 6 = .ok (.iconst 0, 1) := by decide +kernel
theorem dX3_readTape_7 : decode cX3_readTape 7 = .ok (.istore_n 2, 1) := by decide +kernel
theorem dX3_readTape_8 : decode cX3_readTape 8 = .ok (.iload_n 2, 1) := by decide +kernel
theorem dX3_readTape_9 : decode cX3_readTape 9 = .ok (.sipush 160, 3) := by decide +kernel
theorem dX3_readTape_12 : decode cX3_readTape 12 = .ok (.if_icmp .gt 53, 3) := by decide +kernel
theorem dX3_readTape_15 : decode cX3_readTape 15 = .ok (.aload_n 0, 1) := by decide +kernel
theorem dX3_readTape_16 : decode cX3_readTape 16 = .ok (.invokevirtual 40, 3) := by decide +kernel
theorem dX3_readTape_19 : decode cX3_readTape 19 = .ok (.aload_n 0, 1) := by decide +kernel
theorem dX3_readTape_20 : decode cX3_readTape 20 = .ok (.getfield 43, 3) := by decide +kernel
theorem dX3_readTape_23 : decode cX3_readTape 23 = .ok (.ifCond .ne 18, 3) := by decide +kernel
theorem dX3_readTape_26 : decode cX3_readTape 26 = .ok (.aload_n 0, 1) := by decide +kernel
theorem dX3_readTape_27 : decode cX3_readTape 27 = .ok (.getfield 46, 3) := by decide +kernel
theorem dX3_readTape_30 : decode cX3_readTape 30 = .ok (.iconst 3, 1) := by decide +kernel
theorem dX3_readTape_31 : decode cX3_readTape 31 = .ok (.if_icmp .eq 10, 3) := by decide +kernel
theorem dX3_readTape_34 : decode cX3_readTape 34 = .ok (.aload_n 0, 1) := by decide +kernel
theorem dX3_readTape_35 : decode cX3_readTape 35 = .ok (.invokevirtual 49, 3) := by decide +kernel
theorem dX3_readTape_38 : decode cX3_readTape 38 = .ok (.iinc 1 1, 3) := by decide +kernel
theorem dX3_readTape_41 : decode cX3_readTape 41 = .ok (.aload_n 0, 1) := by decide +kernel
theorem dX3_readTape_42 : decode cX3_readTape 42 = .ok (.getfield 43, 3) := by decide +kernel
theorem dX3_readTape_45 : decode cX3_readTape 45 = .ok (.ifCond .ne 20, 3) := by decide +kernel
theorem dX3_readTape_48 : decode cX3_readTape 48 = .ok (.aload_n 0, 1) := by decide +kernel
theorem dX3_readTape_49 : decode cX3_readTape 49 = .ok (.getfield 46, 3) := by decide +kernel
theorem dX3_readTape_52 : decode cX3_readTape 52 = .ok (.iconst 3, 1) := by decide +kernel
theorem dX3_readTape_53 : decode cX3_readTape 53 = .ok (.if_icmp .ne 6, 3) := by decide +kernel
theorem dX3_readTape_56 : decode cX3_readTape 56 = .ok (.goto 9, 3) := by decide +kernel
theorem dX3_readTape_59 : decode cX3_readTape 59 = .ok (.iinc 2 1, 3) := by decide +kernel
theorem dX3_readTape_62 : decode cX3_readTape 62 = .ok (.goto (-54), 3) := by decide +kernel
theorem dX3_readTape_65 : decode cX3_readTape 65 = .ok (.aload_n 0, 1) := by decide +kernel
theorem dX3_readTape_66 : decode cX3_readTape 66 = .ok (.getfield 43, 3) := by decide +kernel
theorem dX3_readTape_69 : decode cX3_readTape 69 = .ok (.ifCond .ne 34, 3) := by decide +kernel
theorem dX3_readTape_72 : decode cX3_readTape 72 = .ok (.aload_n 0, 1) := by decide +kernel
theorem dX3_readTape_73 : decode cX3_readTape 73 = .ok (.getfield 12, 3) := by decide +kernel
theorem dX3_readTape_76 : decode cX3_readTape 76 = .ok (.aload_n 0, 1) := by decide +kernel
theorem dX3_readTape_77 : decode cX3_readTape 77 = .ok (.getfield 21, 3) := by decide +kernel
theorem dX3_readTape_80 : decode cX3_readTape 80 = .ok (.getfield 52, 3) := by decide +kernel
theorem dX3_readTape_83 : decode cX3_readTape 83 = .ok (.invokevirtual 55, 3) := by decide +kernel
theorem dX3_readTape_86 : decode cX3_readTape 86 = .ok (.ifCond .ne 17, 3) := by decide +kernel
theorem dX3_readTape_89 : decode cX3_readTape 89 = .ok (.aload_n 0, 1) := by decide +kernel
theorem dX3_readTape_90 : decode cX3_readTape 90 = .ok (.bipush 6, 2) := by decide +kernel
theorem dX3_readTape_92 : decode cX3_readTape 92 = .ok (.putfield 43, 3) := by decide +kernel
theorem dX3_readTape_95 : decode cX3_readTape 95 = .ok (.aload_n 0, 1) := by decide +kernel
theorem dX3_readTape_96 : decode cX3_readTape 96 = .ok (.aload_n 0, 1) := by decide +kernel
theorem dX3_readTape_97 : decode cX3_readTape 97 = .ok (.getfield 33, 3) := by decide +kernel
theorem dX3_readTape_100 : decode cX3_readTape 100 = .ok (.putfield 59, 3) := by decide +kernel
theorem dX3_readTape_103 : decode cX3_readTape 103 = .ok (.aload_n 0, 1) := by decide +kernel
theorem dX3_readTape_104 : decode cX3_readTape 104 = .ok (.iconst 0, 1) := by decide +kernel
theorem dX3_readTape_105 : decode cX3_readTape 105 = .ok (.putfield 33, 3) := by decide +kernel
theorem dX3_readTape_108 : decode cX3_readTape 108 = .ok (.aload_n 0, 1) := by decide +kernel
theorem dX3_readTape_109 : decode cX3_readTape 109 = .ok (.getfield 43, 3) := by decide +kernel
theorem dX3_readTape_112 : decode cX3_readTape 112 = .ok (.ifCond .ne 7, 3) := by decide +kernel
theorem dX3_readTape_115 : decode cX3_readTape 115 = .ok (.iload_n 1, 1) := by decide +kernel
theorem dX3_readTape_116 : decode cX3_readTape 116 = .ok (.goto 10, 3) := by decide +kernel
theorem dX3_readTape_119 : decode cX3_readTape 119 = .ok (.bipush (-10), 2) := by decide +kernel
theorem dX3_readTape_121 : decode cX3_readTape 121 = .ok (.aload_n 0, 1) := by decide +kernel
theorem dX3_readTape_122 : decode cX3_readTape 122 = .ok (.getfield 59, 3) := by decide +kernel
theorem dX3_readTape_125 : decode cX3_readTape 125 = .ok (.isub, 1) := by decide +kernel
theorem dX3_readTape_126 : decode cX3_readTape 126 = .ok (.ireturn, 1) := by decide +kernel
theorem dX3_begin_0 : decode cX3_begin 0 = .ok (.aload_n 0, 1) := by decide +kernel
theorem dX3_begin_1 : decode cX3_begin 1 = .ok (.getfield 12, 3) := by decide +kernel
theorem dX3_begin_4 : decode cX3_begin 4 = .ok (.iconst 0, 1) := by decide +kernel
theorem dX3_begin_5 : decode cX3_begin 5 = .ok (.putfield 62, 3) := by decide +kernel
theorem dX3_begin_8 : decode cX3_begin 8 = .ok (.aload_n 0, 1) := by decide +kernel
theorem dX3_begin_9 : decode cX3_begin 9 = .ok (.getfield 12, 3) := by decide +kernel
theorem dX3_begin_12 : decode cX3_begin 12 = .ok (.iconst 0, 1) := by decide +kernel
theorem dX3_begin_13 : decode cX3_begin 13 = .ok (.putfield 65, 3) := by decide +kernel
theorem dX3_begin_16 : decode cX3_begin 16 = .ok (.aload_n 0, 1) := by decide +kernel
theorem dX3_begin_17 : decode cX3_begin 17 = .ok (.getfield 21, 3) := by decide +kernel
theorem dX3_begin_20 : decode cX3_begin 20 = .ok (.iconst 0, 1) := by decide +kernel
theorem dX3_begin_21 : decode cX3_begin 21 = .ok (.putfield 52, 3) := by decide +kernel
theorem dX3_begin_24 : decode cX3_begin 24 = .ok (.aload_n 0, 1) := by decide +kernel
theorem dX3_begin_25 : decode cX3_begin 25 = .ok (.getfield 21, 3) := by decide +kernel
theorem dX3_begin_28 : decode cX3_begin 28 = .ok (.iconst 1, 1) := by decide +kernel
theorem dX3_begin_29 : decode cX3_begin 29 = .ok (.putfield 68, 3) := by decide +kernel
theorem dX3_begin_32 : decode cX3_begin 32 = .ok (.aload_n 0, 1) := by decide +kernel
theorem dX3_begin_33 : decode cX3_begin 33 = .ok (.getfield 21, 3) := by decide +kernel
theorem dX3_begin_36 : decode cX3_begin 36 = .ok (.bipush 20, 2) := by decide +kernel
theorem dX3_begin_38 : decode cX3_begin 38 = .ok (.putfield 71, 3) := by decide +kernel
theorem dX3_begin_41 : decode cX3_begin 41 = .ok (.aload_n 0, 1) := by decide +kernel
theorem dX3_begin_42 : decode cX3_begin 42 = .ok (.iconst 0, 1) := by decide +kernel
theorem dX3_begin_43 : decode cX3_begin 43 = .ok (.putfield 43, 3) := by decide +kernel
theorem dX3_begin_46 : decode cX3_begin 46 = .ok (.aload_n 0, 1) := by decide +kernel
theorem dX3_begin_47 : decode cX3_begin 47 = .ok (.iconst 0, 1) := by decide +kernel
theorem dX3_begin_48 : decode cX3_begin 48 = .ok (.putfield 74, 3) := by decide +kernel
theorem dX3_begin_51 : decode cX3_begin 51 = .ok (.aload_n 0, 1) := by decide +kernel
theorem dX3_begin_52 : decode cX3_begin 52 = .ok (.iconst 0, 1) := by decide +kernel
theorem dX3_begin_53 : decode cX3_begin 53 = .ok (.putfield 77, 3) := by decide +kernel
theorem dX3_begin_56 : decode cX3_begin 56 = .ok (.aload_n 0, 1) := by decide +kernel
theorem dX3_begin_57 : decode cX3_begin 57 = .ok (.iconst 0, 1) := by decide +kernel
theorem dX3_begin_58 : decode cX3_begin 58 = .ok (.putfield 81, 3) := by decide +kernel
theorem dX3_begin_61 : decode cX3_begin 61 = .ok (.return_, 1) := by decide +kernel
theorem dX3_refuse_0 : decode cX3_refuse 0 = .ok (.aload_n 0, 1) := by decide +kernel
theorem dX3_refuse_1 : decode cX3_refuse 1 = .ok (.iload_n 1, 1) := by decide +kernel
theorem dX3_refuse_2 : decode cX3_refuse 2 = .ok (.putfield 43, 3) := by decide +kernel
theorem dX3_refuse_5 : decode cX3_refuse 5 = .ok (.aload_n 0, 1) := by decide +kernel
theorem dX3_refuse_6 : decode cX3_refuse 6 = .ok (.aload_n 0, 1) := by decide +kernel
theorem dX3_refuse_7 : decode cX3_refuse 7 = .ok (.getfield 84, 3) := by decide +kernel
theorem dX3_refuse_10 : decode cX3_refuse 10 = .ok (.putfield 59, 3) := by decide +kernel
theorem dX3_refuse_13 : decode cX3_refuse 13 = .ok (.return_, 1) := by decide +kernel
set_option maxRecDepth 20000 in
theorem ggX3_nextToken_X3_isLetter : GoodIn wsX3_nextToken wsX3_isLetter := goodIn_r _ [10, 3, 21, 22, 23, 24, 25, 26, 27, 28, 29, 30, 31, 32] (by decide +kernel) (by decide +kernel)
set_option maxRecDepth 20000 in
theorem gX3_nextToken_X3_isLetter : GoodIn wsX3_nextToken (wsV RX3 87 RX3 yX3_isLetter wsX3_isLetter) := goodIn_app (goodIn_of _ (by decide +kernel)) ggX3_nextToken_X3_isLetter
set_option maxRecDepth 20000 in
theorem ggX3_nextToken_X3_isFigure : GoodIn wsX3_nextToken wsX3_isFigure := goodIn_r _ [14, 3, 21, 22, 23, 24, 25, 26, 27, 28, 29, 30, 31, 32] (by decide +kernel) (by decide +kernel)
set_option maxRecDepth 20000 in
theorem gX3_nextToken_X3_isFigure : GoodIn wsX3_nextToken (wsV RX3 90 RX3 yX3_isFigure wsX3_isFigure) := goodIn_app (goodIn_of _ (by decide +kernel)) ggX3_nextToken_X3_isFigure
set_option maxRecDepth 20000 in
theorem ggX3_nextToken_X3_refuse : GoodIn wsX3_nextToken wsX3_refuse := goodIn_r _ [18, 19, 4, 20, 21, 22, 23, 24, 25, 26, 27, 28, 29, 30, 31, 32] (by decide +kernel) (by decide +kernel)
set_option maxRecDepth 20000 in
theorem gX3_nextToken_X3_refuse : GoodIn wsX3_nextToken (wsV RX3 93 RX3 yX3_refuse wsX3_refuse) := goodIn_app (goodIn_of _ (by decide +kernel)) ggX3_nextToken_X3_refuse
theorem dX3_nextToken_0 : decode cX3_nextToken 0 = .ok (.aload_n 0, 1) := by decide +kernel
theorem dX3_nextToken_1 : decode cX3_nextToken 1 = .ok (.getfield 74, 3) := by decide +kernel
theorem dX3_nextToken_4 : decode cX3_nextToken 4 = .ok (.aload_n 0, 1) := by decide +kernel
theorem dX3_nextToken_5 : decode cX3_nextToken 5 = .ok (.getfield 33, 3) := by decide +kernel
theorem dX3_nextToken_8 : decode cX3_nextToken 8 = .ok (.if_icmp .ge 30, 3) := by decide +kernel
theorem dX3_nextToken_11 : decode cX3_nextToken 11 = .ok (.aload_n 0, 1) := by decide +kernel
theorem dX3_nextToken_12 : decode cX3_nextToken 12 = .ok (.getfield 25, 3) := by decide +kernel
theorem dX3_nextToken_15 : decode cX3_nextToken 15 = .ok (.aload_n 0, 1) := by decide +kernel
theorem dX3_nextToken_16 : decode cX3_nextToken 16 = .ok (.getfield 74, 3) := by decide +kernel
theorem dX3_nextToken_19 : decode cX3_nextToken 19 = .ok (.baload, 1) := by decide +kernel
theorem dX3_nextToken_20 : decode cX3_nextToken 20 = .ok (.bipush 32, 2) := by decide +kernel
theorem dX3_nextToken_22 : decode cX3_nextToken 22 = .ok (.if_icmp .ne 16, 3) := by decide +kernel
theorem dX3_nextToken_25 : decode cX3_nextToken 25 = .ok (.aload_n 0, 1) := by decide +kernel
theorem dX3_nextToken_26 : decode cX3_nextToken 26 = .ok (.dup, 1) := by decide +kernel
theorem dX3_nextToken_27 : decode cX3_nextToken 27 = .ok (.getfield 74, 3) := by decide +kernel
theorem dX3_nextToken_30 : decode cX3_nextToken 30 = .ok (.iconst 1, 1) := by decide +kernel
theorem dX3_nextToken_31 : decode cX3_nextToken 31 = .ok (.iadd, 1) := by decide +kernel
theorem dX3_nextToken_32 : decode cX3_nextToken 32 = .ok (.putfield 74, 3) := by decide +kernel
theorem dX3_nextToken_35 : decode cX3_nextToken 35 = .ok (.goto (-35), 3) := by decide +kernel
theorem dX3_nextToken_38 : decode cX3_nextToken 38 = .ok (.aload_n 0, 1) := by decide +kernel
theorem dX3_nextToken_39 : decode cX3_nextToken 39 = .ok (.aload_n 0, 1) := by decide +kernel
theorem dX3_nextToken_40 : decode cX3_nextToken 40 = .ok (.getfield 74, 3) := by decide +kernel
theorem dX3_nextToken_43 : decode cX3_nextToken 43 = .ok (.putfield 84, 3) := by decide +kernel
theorem dX3_nextToken_46 : decode cX3_nextToken 46 = .ok (.aload_n 0, 1) := by decide +kernel
theorem dX3_nextToken_47 : decode cX3_nextToken 47 = .ok (.getfield 74, 3) := by decide +kernel
theorem dX3_nextToken_50 : decode cX3_nextToken 50 = .ok (.aload_n 0, 1) := by decide +kernel
theorem dX3_nextToken_51 : decode cX3_nextToken 51 = .ok (.getfield 33, 3) := by decide +kernel
theorem dX3_nextToken_54 : decode cX3_nextToken 54 = .ok (.if_icmp .lt 11, 3) := by decide +kernel
theorem dX3_nextToken_57 : decode cX3_nextToken 57 = .ok (.aload_n 0, 1) := by decide +kernel
theorem dX3_nextToken_58 : decode cX3_nextToken 58 = .ok (.iconst 3, 1) := by decide +kernel
theorem dX3_nextToken_59 : decode cX3_nextToken 59 = .ok (.putfield 46, 3) := by decide +kernel
theorem dX3_nextToken_62 : decode cX3_nextToken 62 = .ok (.goto 163, 3) := by decide +kernel
theorem dX3_nextToken_65 : decode cX3_nextToken 65 = .ok (.aload_n 0, 1) := by decide +kernel
theorem dX3_nextToken_66 : decode cX3_nextToken 66 = .ok (.aload_n 0, 1) := by decide +kernel
theorem dX3_nextToken_67 : decode cX3_nextToken 67 = .ok (.getfield 74, 3) := by decide +kernel
theorem dX3_nextToken_70 : decode cX3_nextToken 70 = .ok (.invokevirtual 87, 3) := by decide +kernel
theorem dX3_nextToken_73 : decode cX3_nextToken 73 = .ok (.ifCond .eq 43, 3) := by decide +kernel
theorem dX3_nextToken_76 : decode cX3_nextToken 76 = .ok (.aload_n 0, 1) := by decide +kernel
theorem dX3_nextToken_77 : decode cX3_nextToken 77 = .ok (.iconst 0, 1) := by decide +kernel
theorem dX3_nextToken_78 : decode cX3_nextToken 78 = .ok (.putfield 46, 3) := by decide +kernel
theorem dX3_nextToken_81 : decode cX3_nextToken 81 = .ok (.aload_n 0, 1) := by decide +kernel
theorem dX3_nextToken_82 : decode cX3_nextToken 82 = .ok (.getfield 74, 3) := by decide +kernel
theorem dX3_nextToken_85 : decode cX3_nextToken 85 = .ok (.aload_n 0, 1) := by decide +kernel
theorem dX3_nextToken_86 : decode cX3_nextToken 86 = .ok (.getfield 33, 3) := by decide +kernel
theorem dX3_nextToken_89 : decode cX3_nextToken 89 = .ok (.if_icmp .ge 136, 3) := by decide +kernel
theorem dX3_nextToken_92 : decode cX3_nextToken 92 = .ok (.aload_n 0, 1) := by decide +kernel
theorem dX3_nextToken_93 : decode cX3_nextToken 93 = .ok (.aload_n 0, 1) := by decide +kernel
theorem dX3_nextToken_94 : decode cX3_nextToken 94 = .ok (.getfield 74, 3) := by decide +kernel
theorem dX3_nextToken_97 : decode cX3_nextToken 97 = .ok (.invokevirtual 87, 3) := by decide +kernel
theorem dX3_nextToken_100 : decode cX3_nextToken 100 = .ok (.ifCond .eq 125, 3) := by decide +kernel
theorem dX3_nextToken_103 : decode cX3_nextToken 103 = .ok (.aload_n 0, 1) := by decide +kernel
theorem dX3_nextToken_104 : decode cX3_nextToken 104 = .ok (.dup, 1) := by decide +kernel
theorem dX3_nextToken_105 : decode cX3_nextToken 105 = .ok (.getfield 74, 3) := by decide +kernel
theorem dX3_nextToken_108 : decode cX3_nextToken 108 = .ok (.iconst 1, 1) := by decide +kernel
theorem dX3_nextToken_109 : decode cX3_nextToken 109 = .ok (.iadd, 1) := by decide +kernel
theorem dX3_nextToken_110 : decode cX3_nextToken 110 = .ok (.putfield 74, 3) := by decide +kernel
theorem dX3_nextToken_113 : decode cX3_nextToken 113 = .ok (.goto (-32), 3) := by decide +kernel
theorem dX3_nextToken_116 : decode cX3_nextToken 116 = .ok (.aload_n 0, 1) := by decide +kernel
theorem dX3_nextToken_117 : decode cX3_nextToken 117 = .ok (.aload_n 0, 1) := by decide +kernel
theorem dX3_nextToken_118 : decode cX3_nextToken 118 = .ok (.getfield 74, 3) := by decide +kernel
theorem dX3_nextToken_121 : decode cX3_nextToken 121 = .ok (.invokevirtual 90, 3) := by decide +kernel
theorem dX3_nextToken_124 : decode cX3_nextToken 124 = .ok (.ifCond .eq 64, 3) := by decide +kernel
theorem dX3_nextToken_127 : decode cX3_nextToken 127 = .ok (.aload_n 0, 1) := by decide +kernel
theorem dX3_nextToken_128 : decode cX3_nextToken 128 = .ok (.iconst 1, 1) := by decide +kernel
theorem dX3_nextToken_129 : decode cX3_nextToken 129 = .ok (.putfield 46, 3) := by decide +kernel
theorem dX3_nextToken_132 : decode cX3_nextToken 132 = .ok (.aload_n 0, 1) := by decide +kernel
theorem dX3_nextToken_133 : decode cX3_nextToken 133 = .ok (.getfield 74, 3) := by decide +kernel
theorem dX3_nextToken_136 : decode cX3_nextToken 136 = .ok (.aload_n 0, 1) := by decide +kernel
theorem dX3_nextToken_137 : decode cX3_nextToken 137 = .ok (.getfield 33, 3) := by decide +kernel
theorem dX3_nextToken_140 : decode cX3_nextToken 140 = .ok (.if_icmp .ge 27, 3) := by decide +kernel
theorem dX3_nextToken_143 : decode cX3_nextToken 143 = .ok (.aload_n 0, 1) := by decide +kernel
theorem dX3_nextToken_144 : decode cX3_nextToken 144 = .ok (.aload_n 0, 1) := by decide +kernel
theorem dX3_nextToken_145 : decode cX3_nextToken 145 = .ok (.getfield 74, 3) := by decide +kernel
theorem dX3_nextToken_148 : decode cX3_nextToken 148 = .ok (.invokevirtual 90, 3) := by decide +kernel
theorem dX3_nextToken_151 : decode cX3_nextToken 151 = .ok (.ifCond .eq 16, 3) := by decide +kernel
theorem dX3_nextToken_154 : decode cX3_nextToken 154 = .ok (.aload_n 0, 1) := by decide +kernel
theorem dX3_nextToken_155 : decode cX3_nextToken 155 = .ok (.dup, 1) := by decide +kernel
theorem dX3_nextToken_156 : decode cX3_nextToken 156 = .ok (.getfield 74, 3) := by decide +kernel
theorem dX3_nextToken_159 : decode cX3_nextToken 159 = .ok (.iconst 1, 1) := by decide +kernel
theorem dX3_nextToken_160 : decode cX3_nextToken 160 = .ok (.iadd, 1) := by decide +kernel
theorem dX3_nextToken_161 : decode cX3_nextToken 161 = .ok (.putfield 74, 3) := by decide +kernel
theorem dX3_nextToken_164 : decode cX3_nextToken 164 = .ok (.goto (-32), 3) := by decide +kernel
theorem dX3_nextToken_167 : decode cX3_nextToken 167 = .ok (.aload_n 0, 1) := by decide +kernel
theorem dX3_nextToken_168 : decode cX3_nextToken 168 = .ok (.getfield 74, 3) := by decide +kernel
theorem dX3_nextToken_171 : decode cX3_nextToken 171 = .ok (.aload_n 0, 1) := by decide +kernel
theorem dX3_nextToken_172 : decode cX3_nextToken 172 = .ok (.getfield 84, 3) := by decide +kernel
theorem dX3_nextToken_175 : decode cX3_nextToken 175 = .ok (.isub, 1) := by decide +kernel
theorem dX3_nextToken_176 : decode cX3_nextToken 176 = .ok (.iconst 2, 1) := by decide +kernel
theorem dX3_nextToken_177 : decode cX3_nextToken 177 = .ok (.if_icmp .le 48, 3) := by decide +kernel
theorem dX3_nextToken_180 : decode cX3_nextToken 180 = .ok (.aload_n 0, 1) := by decide +kernel
theorem dX3_nextToken_181 : decode cX3_nextToken 181 = .ok (.iconst 1, 1) := by decide +kernel
theorem dX3_nextToken_182 : decode cX3_nextToken 182 = .ok (.invokevirtual 93, 3) := by decide +kernel
theorem dX3_nextToken_185 : decode cX3_nextToken 185 = .ok (.goto 40, 3) := by decide +kernel
theorem dX3_nextToken_188 : decode cX3_nextToken 188 = .ok (.aload_n 0, 1) := by decide +kernel
theorem dX3_nextToken_189 : decode cX3_nextToken 189 = .ok (.getfield 25, 3) := by decide +kernel
theorem dX3_nextToken_192 : decode cX3_nextToken 192 = .ok (.aload_n 0, 1) := by decide +kernel
theorem dX3_nextToken_193 : decode cX3_nextToken 193 = .ok (.getfield 74, 3) := by decide +kernel
theorem dX3_nextToken_196 : decode cX3_nextToken 196 = .ok (.baload, 1) := by decide +kernel
theorem dX3_nextToken_197 : decode cX3_nextToken 197 = .ok (.bipush 59, 2) := by decide +kernel
theorem dX3_nextToken_199 : decode cX3_nextToken 199 = .ok (.if_icmp .ne 21, 3) := by decide +kernel
theorem dX3_nextToken_202 : decode cX3_nextToken 202 = .ok (.aload_n 0, 1) := by decide +kernel
theorem dX3_nextToken_203 : decode cX3_nextToken 203 = .ok (.iconst 2, 1) := by decide +kernel
theorem dX3_nextToken_204 : decode cX3_nextToken 204 = .ok (.putfield 46, 3) := by decide +kernel
theorem dX3_nextToken_207 : decode cX3_nextToken 207 = .ok (.aload_n 0, 1) := by decide +kernel
theorem dX3_nextToken_208 : decode cX3_nextToken 208 = .ok (.dup, 1) := by decide +kernel
theorem dX3_nextToken_209 : decode cX3_nextToken 209 = .ok (.getfield 74, 3) := by decide +kernel
theorem dX3_nextToken_212 : decode cX3_nextToken 212 = .ok (.iconst 1, 1) := by decide +kernel
theorem dX3_nextToken_213 : decode cX3_nextToken 213 = .ok (.iadd, 1) := by decide +kernel
theorem dX3_nextToken_214 : decode cX3_nextToken 214 = .ok (.putfield 74, 3) := by decide +kernel
theorem dX3_nextToken_217 : decode cX3_nextToken 217 = .ok (.goto 8, 3) := by decide +kernel
theorem dX3_nextToken_220 : decode cX3_nextToken 220 = .ok (.aload_n 0, 1) := by decide +kernel
theorem dX3_nextToken_221 : decode cX3_nextToken 221 = .ok (.iconst 1, 1) := by decide +kernel
theorem dX3_nextToken_222 : decode cX3_nextToken 222 = .ok (.invokevirtual 93, 3) := by decide +kernel
theorem dX3_nextToken_225 : decode cX3_nextToken 225 = .ok (.return_, 1) := by decide +kernel
theorem dX3_isLetter_0 : decode cX3_isLetter 0 = .ok (.aload_n 0, 1) := by decide +kernel
theorem dX3_isLetter_1 : decode cX3_isLetter 1 = .ok (.getfield 25, 3) := by decide +kernel
theorem dX3_isLetter_4 : decode cX3_isLetter 4 = .ok (.iload_n 1, 1) := by decide +kernel
theorem dX3_isLetter_5 : decode cX3_isLetter 5 = .ok (.baload, 1) := by decide +kernel
theorem dX3_isLetter_6 : decode cX3_isLetter 6 = .ok (.bipush 97, 2) := by decide +kernel
theorem dX3_isLetter_8 : decode cX3_isLetter 8 = .ok (.if_icmp .lt 18, 3) := by decide +kernel
theorem dX3_isLetter_11 : decode cX3_isLetter 11 = .ok (.aload_n 0, 1) := by decide +kernel
theorem dX3_isLetter_12 : decode cX3_isLetter 12 = .ok (.getfield 25, 3) := by decide +kernel
theorem dX3_isLetter_15 : decode cX3_isLetter 15 = .ok (.iload_n 1, 1) := by decide +kernel
theorem dX3_isLetter_16 : decode cX3_isLetter 16 = .ok (.baload, 1) := by decide +kernel
theorem dX3_isLetter_17 : decode cX3_isLetter 17 = .ok (.bipush 122, 2) := by decide +kernel
theorem dX3_isLetter_19 : decode cX3_isLetter 19 = .ok (.if_icmp .gt 7, 3) := by decide +kernel
theorem dX3_isLetter_22 : decode cX3_isLetter 22 = .ok (.iconst 1, 1) := by decide +kernel
theorem dX3_isLetter_23 : decode cX3_isLetter 23 = .ok (.goto 4, 3) := by decide +kernel
theorem dX3_isLetter_26 : decode cX3_isLetter 26 = .ok (.iconst 0, 1) := by decide +kernel
theorem dX3_isLetter_27 : decode cX3_isLetter 27 = .ok (.ireturn, 1) := by decide +kernel
theorem dX3_isFigure_0 : decode cX3_isFigure 0 = .ok (.aload_n 0, 1) := by decide +kernel
theorem dX3_isFigure_1 : decode cX3_isFigure 1 = .ok (.getfield 25, 3) := by decide +kernel
theorem dX3_isFigure_4 : decode cX3_isFigure 4 = .ok (.iload_n 1, 1) := by decide +kernel
theorem dX3_isFigure_5 : decode cX3_isFigure 5 = .ok (.baload, 1) := by decide +kernel
theorem dX3_isFigure_6 : decode cX3_isFigure 6 = .ok (.bipush 48, 2) := by decide +kernel
theorem dX3_isFigure_8 : decode cX3_isFigure 8 = .ok (.if_icmp .lt 18, 3) := by decide +kernel
theorem dX3_isFigure_11 : decode cX3_isFigure 11 = .ok (.aload_n 0, 1) := by decide +kernel
theorem dX3_isFigure_12 : decode cX3_isFigure 12 = .ok (.getfield 25, 3) := by decide +kernel
theorem dX3_isFigure_15 : decode cX3_isFigure 15 = .ok (.iload_n 1, 1) := by decide +kernel
theorem dX3_isFigure_16 : decode cX3_isFigure 16 = .ok (.baload, 1) := by decide +kernel
theorem dX3_isFigure_17 : decode cX3_isFigure 17 = .ok (.bipush 57, 2) := by decide +kernel
theorem dX3_isFigure_19 : decode cX3_isFigure 19 = .ok (.if_icmp .gt 7, 3) := by decide +kernel
theorem dX3_isFigure_22 : decode cX3_isFigure 22 = .ok (.iconst 1, 1) := by decide +kernel
theorem dX3_isFigure_23 : decode cX3_isFigure 23 = .ok (.goto 4, 3) := by decide +kernel
theorem dX3_isFigure_26 : decode cX3_isFigure 26 = .ok (.iconst 0, 1) := by decide +kernel
theorem dX3_isFigure_27 : decode cX3_isFigure 27 = .ok (.ireturn, 1) := by decide +kernel
set_option maxRecDepth 20000 in
theorem ggX3_readLine_X3_wordRead : GoodIn wsX3_readLine wsX3_wordRead := goodIn_r _ [10, 11, 12, 13, 9, 14, 15, 16, 17, 18, 19, 20, 21, 22, 23, 24, 25, 26, 27, 28, 29, 30, 31, 32, 33, 34, 35, 36, 37, 38, 39, 40, 41, 42, 43, 44, 45, 46, 47, 48, 49, 50, 51, 52, 53, 54, 55, 56, 57, 58, 59, 60, 61, 62, 63, 64, 65, 66, 127, 128, 129, 130, 131, 132, 133, 134, 135, 136, 137, 138] (by decide +kernel) (by decide +kernel)
set_option maxRecDepth 20000 in
theorem gX3_readLine_X3_wordRead : GoodIn wsX3_readLine (wsV RX3 97 RX3 yX3_wordRead wsX3_wordRead) := goodIn_app (goodIn_of _ (by decide +kernel)) ggX3_readLine_X3_wordRead
set_option maxRecDepth 20000 in
theorem ggX3_readLine_X3_refuse : GoodIn wsX3_readLine wsX3_refuse := goodIn_r _ [70, 3, 16, 71, 127, 128, 129, 130, 131, 132, 133, 134, 135, 136, 137, 138] (by decide +kernel) (by decide +kernel)
set_option maxRecDepth 20000 in
theorem gX3_readLine_X3_refuse : GoodIn wsX3_readLine (wsV RX3 93 RX3 yX3_refuse wsX3_refuse) := goodIn_app (goodIn_of _ (by decide +kernel)) ggX3_readLine_X3_refuse
set_option maxRecDepth 20000 in
theorem ggX3_readLine_X3_faultOfWord : GoodIn wsX3_readLine wsX3_faultOfWord := goodIn_r _ [75, 76, 77, 78, 79, 80, 81, 82, 127, 128, 129, 130, 131, 132, 133, 134, 135, 136, 137, 138, 139, 140, 141, 142, 143, 144, 145, 146, 147, 148, 149, 150, 151, 152, 153, 154, 155, 156, 157] (by decide +kernel) (by decide +kernel)
set_option maxRecDepth 20000 in
theorem gX3_readLine_X3_faultOfWord : GoodIn wsX3_readLine (wsV RX3 101 RX3 yX3_faultOfWord wsX3_faultOfWord) := goodIn_app (goodIn_of _ (by decide +kernel)) ggX3_readLine_X3_faultOfWord
set_option maxRecDepth 20000 in
theorem ggX3_readLine_X3_readNumber : GoodIn wsX3_readLine wsX3_readNumber := goodIn_r _ [86, 3, 16, 15, 17, 87, 88, 89, 9, 90, 1, 91, 92, 93, 94, 95, 96, 97, 98, 99, 100, 101, 102, 103, 67, 68, 69, 70, 71, 127, 128, 129, 130, 131, 132, 133, 134, 135, 136, 137, 138] (by decide +kernel) (by decide +kernel)
set_option maxRecDepth 20000 in
theorem gX3_readLine_X3_readNumber : GoodIn wsX3_readLine (wsV RX3 111 RX3 yX3_readNumber wsX3_readNumber) := goodIn_app (goodIn_of _ (by decide +kernel)) ggX3_readLine_X3_readNumber
set_option maxRecDepth 20000 in
theorem ggX3_readLine_X3_expect : GoodIn wsX3_readLine wsX3_expect := goodIn_r _ [90, 3, 1, 91, 92, 93, 9, 94, 15, 95, 17, 16, 96, 97, 98, 99, 100, 101, 102, 103, 67, 68, 69, 70, 71, 127, 128, 129, 130, 131, 132, 133, 134, 135, 136, 137, 138] (by decide +kernel) (by decide +kernel)
set_option maxRecDepth 20000 in
theorem gX3_readLine_X3_expect : GoodIn wsX3_readLine (wsV RX3 114 RX3 yX3_expect wsX3_expect) := goodIn_app (goodIn_of _ (by decide +kernel)) ggX3_readLine_X3_expect
set_option maxRecDepth 20000 in
theorem ggX3_readLine_X3_tell : GoodIn wsX3_readLine wsX3_tell := goodIn_r _ [107, 81, 4, 108, 76, 109, 77, 110, 82, 111, 112, 113, 114, 9, 115, 78, 79, 116, 117, 118, 119, 120, 121, 122, 123, 80, 124, 125, 126, 127, 128, 129, 130, 131, 132, 133, 134, 135, 136, 137, 138, 147, 148, 149, 150, 151, 152, 153, 154, 155, 156, 157, 139, 140, 141, 142, 143, 144, 145, 146] (by decide +kernel) (by decide +kernel)
set_option maxRecDepth 20000 in
theorem gX3_readLine_X3_tell : GoodIn wsX3_readLine (wsV RX3 117 RX3 yX3_tell wsX3_tell) := goodIn_app (goodIn_of _ (by decide +kernel)) ggX3_readLine_X3_tell
theorem dX3_readLine_0 : decode cX3_readLine 0 = .ok (.aload_n 0, 1) := by decide +kernel
theorem dX3_readLine_1 : decode cX3_readLine 1 = .ok (.getfield 46, 3) := by decide +kernel
theorem dX3_readLine_4 : decode cX3_readLine 4 = .ok (.ifCond .ne 10, 3) := by decide +kernel
theorem dX3_readLine_7 : decode cX3_readLine 7 = .ok (.aload_n 0, 1) := by decide +kernel
theorem dX3_readLine_8 : decode cX3_readLine 8 = .ok (.invokevirtual 97, 3) := by decide +kernel
theorem dX3_readLine_11 : decode cX3_readLine 11 = .ok (.goto 4, 3) := by decide +kernel
theorem dX3_readLine_14 : decode cX3_readLine 14 = .ok (.iconst (-1), 1) := by decide +kernel
theorem dX3_readLine_15 : decode cX3_readLine 15 = .ok (.istore_n 1, 1) := by decide +kernel
theorem dX3_readLine_16 : decode cX3_readLine 16 = .ok (.iload_n 1, 1) := by decide +kernel
theorem dX3_readLine_17 : decode cX3_readLine 17 = .ok (.iconst (-1), 1) := by decide +kernel
theorem dX3_readLine_18 : decode cX3_readLine 18 = .ok (.if_icmp .ne 9, 3) := by decide +kernel
theorem dX3_readLine_21 : decode cX3_readLine 21 = .ok (.aload_n 0, 1) := by decide +kernel
theorem dX3_readLine_22 : decode cX3_readLine 22 = .ok (.iconst 2, 1) := by decide +kernel
theorem dX3_readLine_23 : decode cX3_readLine 23 = .ok (.invokevirtual 93, 3) := by decide +kernel
theorem dX3_readLine_26 : decode cX3_readLine 26 = .ok (.return_, 1) := by decide +kernel
theorem dX3_readLine_27 : decode cX3_readLine 27 = .ok (.aload_n 0, 1) := by decide +kernel
theorem dX3_readLine_28 : decode cX3_readLine 28 = .ok (.iload_n 1, 1) := by decide +kernel
theorem dX3_readLine_29 : decode cX3_readLine 29 = .ok (.invokevirtual 101, 3) := by decide +kernel
theorem dX3_readLine_32 : decode cX3_readLine 32 = .ok (.istore_n 2, 1) := by decide +kernel
theorem dX3_readLine_33 : decode cX3_readLine 33 = .ok (.iload_n 2, 1) := by decide +kernel
theorem dX3_readLine_34 : decode cX3_readLine 34 = .ok (.ifCond .eq 9, 3) := by decide +kernel
theorem dX3_readLine_37 : decode cX3_readLine 37 = .ok (.aload_n 0, 1) := by decide +kernel
theorem dX3_readLine_38 : decode cX3_readLine 38 = .ok (.iload_n 2, 1) := by decide +kernel
theorem dX3_readLine_39 : decode cX3_readLine 39 = .ok (.invokevirtual 93, 3) := by decide +kernel
theorem dX3_readLine_42 : decode cX3_readLine 42 = .ok (.return_, 1) := by decide +kernel
theorem dX3_readLine_43 : decode cX3_readLine 43 = .ok (.iconst 0, 1) := by decide +kernel
theorem dX3_readLine_44 : decode cX3_readLine 44 = .ok (.istore_n 3, 1) := by decide +kernel
theorem dX3_readLine_45 : decode cX3_readLine 45 = .ok (.iload_n 3, 1) := by decide +kernel
theorem dX3_readLine_46 : decode cX3_readLine 46 = .ok (.getstatic 105, 3) := by decide +kernel
theorem dX3_readLine_49 : decode cX3_readLine 49 = .ok (.iload_n 1, 1) := by decide +kernel
theorem dX3_readLine_50 : decode cX3_readLine 50 = .ok (.iaload, 1) := by decide +kernel
theorem dX3_readLine_51 : decode cX3_readLine 51 = .ok (.if_icmp .ge 35, 3) := by decide +kernel
theorem dX3_readLine_54 : decode cX3_readLine 54 = .ok (.aload_n 0, 1) := by decide +kernel
theorem dX3_readLine_55 : decode cX3_readLine 55 = .ok (.getfield 43, 3) := by decide +kernel
theorem dX3_readLine_58 : decode cX3_readLine 58 = .ok (.ifCond .ne 28, 3) := by decide +kernel
theorem dX3_readLine_61 : decode cX3_readLine 61 = .ok (.aload_n 0, 1) := by decide +kernel
theorem dX3_readLine_62 : decode cX3_readLine 62 = .ok (.getfield 29, 3) := by decide +kernel
theorem dX3_readLine_65 : decode cX3_readLine 65 = .ok (.iload_n 3, 1) := by decide +kernel
theorem dX3_readLine_66 : decode cX3_readLine 66 = .ok (.aload_n 0, 1) := by decide +kernel
theorem dX3_readLine_67 : decode cX3_readLine 67 = .ok (.getstatic 108, 3) := by decide +kernel
theorem dX3_readLine_70 : decode cX3_readLine 70 = .ok (.iload_n 1, 1) := by decide +kernel
theorem dX3_readLine_71 : decode cX3_readLine 71 = .ok (.iconst 4, 1) := by decide +kernel
theorem dX3_readLine_72 : decode cX3_readLine 72 = .ok (.imul, 1) := by decide +kernel
theorem dX3_readLine_73 : decode cX3_readLine 73 = .ok (.iload_n 3, 1) := by decide +kernel
theorem dX3_readLine_74 : decode cX3_readLine 74 = .ok (.iadd, 1) := by decide +kernel
theorem dX3_readLine_75 : decode cX3_readLine 75 = .ok (.iaload, 1) := by decide +kernel
theorem dX3_readLine_76 : decode cX3_readLine 76 = .ok (.invokevirtual 111, 3) := by decide +kernel
theorem dX3_readLine_79 : decode cX3_readLine 79 = .ok (.iastore, 1) := by decide +kernel
theorem dX3_readLine_80 : decode cX3_readLine 80 = .ok (.iinc 3 1, 3) := by decide +kernel
theorem dX3_readLine_83 : decode cX3_readLine 83 = .ok (.goto (-38), 3) := by decide +kernel
theorem dX3_readLine_86 : decode cX3_readLine 86 = .ok (.aload_n 0, 1) := by decide +kernel
theorem dX3_readLine_87 : decode cX3_readLine 87 = .ok (.getfield 43, 3) := by decide +kernel
theorem dX3_readLine_90 : decode cX3_readLine 90 = .ok (.ifCond .ne 8, 3) := by decide +kernel
theorem dX3_readLine_93 : decode cX3_readLine 93 = .ok (.aload_n 0, 1) := by decide +kernel
theorem dX3_readLine_94 : decode cX3_readLine 94 = .ok (.iconst 2, 1) := by decide +kernel
theorem dX3_readLine_95 : decode cX3_readLine 95 = .ok (.invokevirtual 114, 3) := by decide +kernel
theorem dX3_readLine_98 : decode cX3_readLine 98 = .ok (.aload_n 0, 1) := by decide +kernel
theorem dX3_readLine_99 : decode cX3_readLine 99 = .ok (.getfield 43, 3) := by decide +kernel
theorem dX3_readLine_102 : decode cX3_readLine 102 = .ok (.ifCond .ne 8, 3) := by decide +kernel
theorem dX3_readLine_105 : decode cX3_readLine 105 = .ok (.aload_n 0, 1) := by decide +kernel
theorem dX3_readLine_106 : decode cX3_readLine 106 = .ok (.iload_n 1, 1) := by decide +kernel
theorem dX3_readLine_107 : decode cX3_readLine 107 = .ok (.invokevirtual 117, 3) := by decide +kernel
theorem dX3_readLine_110 : decode cX3_readLine 110 = .ok (.return_, 1) := by decide +kernel
set_option maxRecDepth 20000 in
theorem ggX3_expect_X3_nextToken : GoodIn wsX3_expect wsX3_nextToken := goodIn_r _ [7, 8, 9, 10, 11, 2, 12, 13, 14, 6, 15, 16, 17, 18, 19, 20, 21, 22, 23, 1, 24, 25, 26, 27, 28, 29, 30, 31, 32, 33, 34, 35, 36] (by decide +kernel) (by decide +kernel)
set_option maxRecDepth 20000 in
theorem gX3_expect_X3_nextToken : GoodIn wsX3_expect (wsV RX3 40 RX3 yX3_nextToken wsX3_nextToken) := goodIn_app (goodIn_of _ (by decide +kernel)) ggX3_expect_X3_nextToken
set_option maxRecDepth 20000 in
theorem ggX3_expect_X3_refuse : GoodIn wsX3_expect wsX3_refuse := goodIn_r _ [23, 1, 11, 24, 25, 26, 27, 28, 29, 30, 31, 32, 33, 34, 35, 36] (by decide +kernel) (by decide +kernel)
set_option maxRecDepth 20000 in
theorem gX3_expect_X3_refuse : GoodIn wsX3_expect (wsV RX3 93 RX3 yX3_refuse wsX3_refuse) := goodIn_app (goodIn_of _ (by decide +kernel)) ggX3_expect_X3_refuse
theorem dX3_expect_0 : decode cX3_expect 0 = .ok (.aload_n 0, 1) := by decide +kernel
theorem dX3_expect_1 : decode cX3_expect 1 = .ok (.invokevirtual 40, 3) := by decide +kernel
theorem dX3_expect_4 : decode cX3_expect 4 = .ok (.aload_n 0, 1) := by decide +kernel
theorem dX3_expect_5 : decode cX3_expect 5 = .ok (.getfield 43, 3) := by decide +kernel
theorem dX3_expect_8 : decode cX3_expect 8 = .ok (.ifCond .ne 16, 3) := by decide +kernel
theorem dX3_expect_11 : decode cX3_expect 11 = .ok (.aload_n 0, 1) := by decide +kernel
theorem dX3_expect_12 : decode cX3_expect 12 = .ok (.getfield 46, 3) := by decide +kernel
theorem dX3_expect_15 : decode cX3_expect 15 = .ok (.iload_n 1, 1) := by decide +kernel
theorem dX3_expect_16 : decode cX3_expect 16 = .ok (.if_icmp .eq 8, 3) := by decide +kernel
theorem dX3_expect_19 : decode cX3_expect 19 = .ok (.aload_n 0, 1) := by decide +kernel
theorem dX3_expect_20 : decode cX3_expect 20 = .ok (.iconst 2, 1) := by decide +kernel
theorem dX3_expect_21 : decode cX3_expect 21 = .ok (.invokevirtual 93, 3) := by decide +kernel
theorem dX3_expect_24 : decode cX3_expect 24 = .ok (.return_, 1) := by decide +kernel
set_option maxRecDepth 20000 in
theorem ggX3_readNumber_X3_expect : GoodIn wsX3_readNumber wsX3_expect := goodIn_r _ [9, 1, 10, 11, 12, 13, 8, 14, 3, 15, 4, 2, 16, 17, 18, 19, 20, 21, 22, 23, 24, 25, 26, 27, 28, 29, 30, 31, 32, 33, 34, 35, 36, 37, 38, 39, 40] (by decide +kernel) (by decide +kernel)
set_option maxRecDepth 20000 in
theorem gX3_readNumber_X3_expect : GoodIn wsX3_readNumber (wsV RX3 114 RX3 yX3_expect wsX3_expect) := goodIn_app (goodIn_of _ (by decide +kernel)) ggX3_readNumber_X3_expect
set_option maxRecDepth 20000 in
theorem ggX3_readNumber_X3_refuse : GoodIn wsX3_readNumber wsX3_refuse := goodIn_r _ [27, 1, 2, 28, 29, 30, 31, 32, 33, 34, 35, 36, 37, 38, 39, 40] (by decide +kernel) (by decide +kernel)
set_option maxRecDepth 20000 in
theorem gX3_readNumber_X3_refuse : GoodIn wsX3_readNumber (wsV RX3 93 RX3 yX3_refuse wsX3_refuse) := goodIn_app (goodIn_of _ (by decide +kernel)) ggX3_readNumber_X3_refuse
theorem dX3_readNumber_0 : decode cX3_readNumber 0 = .ok (.aload_n 0, 1) := by decide +kernel
theorem dX3_readNumber_1 : decode cX3_readNumber 1 = .ok (.iconst 1, 1) := by decide +kernel
theorem dX3_readNumber_2 : decode cX3_readNumber 2 = .ok (.invokevirtual 114, 3) := by decide +kernel
theorem dX3_readNumber_5 : decode cX3_readNumber 5 = .ok (.aload_n 0, 1) := by decide +kernel
theorem dX3_readNumber_6 : decode cX3_readNumber 6 = .ok (.getfield 43, 3) := by decide +kernel
theorem dX3_readNumber_9 : decode cX3_readNumber 9 = .ok (.ifCond .eq 5, 3) := by decide +kernel
theorem dX3_readNumber_12 : decode cX3_readNumber 12 = .ok (.iconst 0, 1) := by decide +kernel
theorem dX3_readNumber_13 : decode cX3_readNumber 13 = .ok (.ireturn, 1) := by decide +kernel
theorem dX3_readNumber_14 : decode cX3_readNumber 14 = .ok (.iconst 0, 1) := by decide +kernel
theorem dX3_readNumber_15 : decode cX3_readNumber 15 = .ok (.istore_n 2, 1) := by decide +kernel
theorem dX3_readNumber_16 : decode cX3_readNumber 16 = .ok (.aload_n 0, 1) := by decide +kernel
theorem dX3_readNumber_17 : decode cX3_readNumber 17 = .ok (.getfield 84, 3) := by decide +kernel
theorem dX3_readNumber_20 : decode cX3_readNumber 20 = .ok (.istore_n 3, 1) := by decide +kernel
theorem dX3_readNumber_21 : decode cX3_readNumber 21 = .ok (.iload_n 3, 1) := by decide +kernel
theorem dX3_readNumber_22 : decode cX3_readNumber 22 = .ok (.aload_n 0, 1) := by decide +kernel
theorem dX3_readNumber_23 : decode cX3_readNumber 23 = .ok (.getfield 74, 3) := by decide +kernel
theorem dX3_readNumber_26 : decode cX3_readNumber 26 = .ok (.if_icmp .ge 24, 3) := by decide +kernel
theorem dX3_readNumber_29 : decode cX3_readNumber 29 = .ok (.iload_n 2, 1) := by decide +kernel
theorem dX3_readNumber_30 : decode cX3_readNumber 30 = .ok (.bipush 10, 2) := by decide +kernel
theorem dX3_readNumber_32 : decode cX3_readNumber 32 = .ok (.imul, 1) := by decide +kernel
theorem dX3_readNumber_33 : decode cX3_readNumber 33 = .ok (.aload_n 0, 1) := by decide +kernel
theorem dX3_readNumber_34 : decode cX3_readNumber 34 = .ok (.getfield 25, 3) := by decide +kernel
theorem dX3_readNumber_37 : decode cX3_readNumber 37 = .ok (.iload_n 3, 1) := by decide +kernel
theorem dX3_readNumber_38 : decode cX3_readNumber 38 = .ok (.baload, 1) := by decide +kernel
theorem dX3_readNumber_39 : decode cX3_readNumber 39 = .ok (.iadd, 1) := by decide +kernel
theorem dX3_readNumber_40 : decode cX3_readNumber 40 = .ok (.bipush 48, 2) := by decide +kernel
theorem dX3_readNumber_42 : decode cX3_readNumber 42 = .ok (.isub, 1) := by decide +kernel
theorem dX3_readNumber_43 : decode cX3_readNumber 43 = .ok (.istore_n 2, 1) := by decide +kernel
theorem dX3_readNumber_44 : decode cX3_readNumber 44 = .ok (.iinc 3 1, 3) := by decide +kernel
theorem dX3_readNumber_47 : decode cX3_readNumber 47 = .ok (.goto (-26), 3) := by decide +kernel
theorem dX3_readNumber_50 : decode cX3_readNumber 50 = .ok (.iload_n 2, 1) := by decide +kernel
theorem dX3_readNumber_51 : decode cX3_readNumber 51 = .ok (.iload_n 1, 1) := by decide +kernel
theorem dX3_readNumber_52 : decode cX3_readNumber 52 = .ok (.if_icmp .le 8, 3) := by decide +kernel
theorem dX3_readNumber_55 : decode cX3_readNumber 55 = .ok (.aload_n 0, 1) := by decide +kernel
theorem dX3_readNumber_56 : decode cX3_readNumber 56 = .ok (.iconst 3, 1) := by decide +kernel
theorem dX3_readNumber_57 : decode cX3_readNumber 57 = .ok (.invokevirtual 93, 3) := by decide +kernel
theorem dX3_readNumber_60 : decode cX3_readNumber 60 = .ok (.iload_n 2, 1) := by decide +kernel
theorem dX3_readNumber_61 : decode cX3_readNumber 61 = .ok (.ireturn, 1) := by decide +kernel
set_option maxRecDepth 20000 in
theorem ggX3_wordRead_X3_isWord : GoodIn wsX3_wordRead wsX3_isWord := goodIn_r _ [5, 6, 7, 8, 9, 10, 11, 12, 13, 14, 15, 16, 17, 18, 19, 20, 21, 22, 23, 24, 25, 26, 27, 28, 29, 30, 31, 32, 33, 34, 35, 36, 37, 38, 39, 40, 41, 42, 43, 44, 45, 46, 47, 48, 49, 50, 51, 52, 53, 54, 55, 56, 57, 58, 59, 60, 61, 62, 63, 64, 65, 66, 67, 68, 69] (by decide +kernel) (by decide +kernel)
set_option maxRecDepth 20000 in
theorem gX3_wordRead_X3_isWord : GoodIn wsX3_wordRead (wsV RX3 122 RX3 yX3_isWord wsX3_isWord) := goodIn_app (goodIn_of _ (by decide +kernel)) ggX3_wordRead_X3_isWord
theorem dX3_wordRead_0 : decode cX3_wordRead 0 = .ok (.aload_n 0, 1) := by decide +kernel
theorem dX3_wordRead_1 : decode cX3_wordRead 1 = .ok (.ldc 120, 2) := by decide +kernel
theorem dX3_wordRead_3 : decode cX3_wordRead 3 = .ok (.invokevirtual 122, 3) := by decide +kernel
theorem dX3_wordRead_6 : decode cX3_wordRead 6 = .ok (.ifCond .eq 5, 3) := by decide +kernel
theorem dX3_wordRead_9 : decode cX3_wordRead 9 = .ok (.iconst 0, 1) := by decide +kernel
theorem dX3_wordRead_10 : decode cX3_wordRead 10 = .ok (.ireturn, 1) := by decide +kernel
theorem dX3_wordRead_11 : decode cX3_wordRead 11 = .ok (.aload_n 0, 1) := by decide +kernel
theorem dX3_wordRead_12 : decode cX3_wordRead 12 = .ok (.ldc 126, 2) := by decide +kernel
theorem dX3_wordRead_14 : decode cX3_wordRead 14 = .ok (.invokevirtual 122, 3) := by decide +kernel
theorem dX3_wordRead_17 : decode cX3_wordRead 17 = .ok (.ifCond .eq 5, 3) := by decide +kernel
theorem dX3_wordRead_20 : decode cX3_wordRead 20 = .ok (.iconst 1, 1) := by decide +kernel
theorem dX3_wordRead_21 : decode cX3_wordRead 21 = .ok (.ireturn, 1) := by decide +kernel
theorem dX3_wordRead_22 : decode cX3_wordRead 22 = .ok (.aload_n 0, 1) := by decide +kernel
theorem dX3_wordRead_23 : decode cX3_wordRead 23 = .ok (.ldc 128, 2) := by decide +kernel
theorem dX3_wordRead_25 : decode cX3_wordRead 25 = .ok (.invokevirtual 122, 3) := by decide +kernel
theorem dX3_wordRead_28 : decode cX3_wordRead 28 = .ok (.ifCond .eq 5, 3) := by decide +kernel
theorem dX3_wordRead_31 : decode cX3_wordRead 31 = .ok (.iconst 2, 1) := by decide +kernel
theorem dX3_wordRead_32 : decode cX3_wordRead 32 = .ok (.ireturn, 1) := by decide +kernel
theorem dX3_wordRead_33 : decode cX3_wordRead 33 = .ok (.aload_n 0, 1) := by decide +kernel
theorem dX3_wordRead_34 : decode cX3_wordRead 34 = .ok (.ldc 130, 2) := by decide +kernel
theorem dX3_wordRead_36 : decode cX3_wordRead 36 = .ok (.invokevirtual 122, 3) := by decide +kernel
theorem dX3_wordRead_39 : decode cX3_wordRead 39 = .ok (.ifCond .eq 5, 3) := by decide +kernel
theorem dX3_wordRead_42 : decode cX3_wordRead 42 = .ok (.iconst 3, 1) := by decide +kernel
theorem dX3_wordRead_43 : decode cX3_wordRead 43 = .ok (.ireturn, 1) := by decide +kernel
theorem dX3_wordRead_44 : decode cX3_wordRead 44 = .ok (.aload_n 0, 1) := by decide +kernel
theorem dX3_wordRead_45 : decode cX3_wordRead 45 = .ok (.ldc 132, 2) := by decide +kernel
theorem dX3_wordRead_47 : decode cX3_wordRead 47 = .ok (.invokevirtual 122, 3) := by decide +kernel
theorem dX3_wordRead_50 : decode cX3_wordRead 50 = .ok (.ifCond .eq 5, 3) := by decide +kernel
theorem dX3_wordRead_53 : decode cX3_wordRead 53 = .ok (.iconst 4, 1) := by decide +kernel
theorem dX3_wordRead_54 : decode cX3_wordRead 54 = .ok (.ireturn, 1) := by decide +kernel
theorem dX3_wordRead_55 : decode cX3_wordRead 55 = .ok (.aload_n 0, 1) := by decide +kernel
theorem dX3_wordRead_56 : decode cX3_wordRead 56 = .ok (.ldc 134, 2) := by decide +kernel
theorem dX3_wordRead_58 : decode cX3_wordRead 58 = .ok (.invokevirtual 122, 3) := by decide +kernel
theorem dX3_wordRead_61 : decode cX3_wordRead 61 = .ok (.ifCond .eq 5, 3) := by decide +kernel
theorem dX3_wordRead_64 : decode cX3_wordRead 64 = .ok (.iconst 5, 1) := by decide +kernel
theorem dX3_wordRead_65 : decode cX3_wordRead 65 = .ok (.ireturn, 1) := by decide +kernel
theorem dX3_wordRead_66 : decode cX3_wordRead 66 = .ok (.aload_n 0, 1) := by decide +kernel
theorem dX3_wordRead_67 : decode cX3_wordRead 67 = .ok (.ldc 136, 2) := by decide +kernel
theorem dX3_wordRead_69 : decode cX3_wordRead 69 = .ok (.invokevirtual 122, 3) := by decide +kernel
theorem dX3_wordRead_72 : decode cX3_wordRead 72 = .ok (.ifCond .eq 6, 3) := by decide +kernel
theorem dX3_wordRead_75 : decode cX3_wordRead 75 = .ok (.bipush 6, 2) := by decide +kernel
theorem dX3_wordRead_77 : decode cX3_wordRead 77 = .ok (.ireturn, 1) := by decide +kernel
theorem dX3_wordRead_78 : decode cX3_wordRead 78 = .ok (.aload_n 0, 1) := by decide +kernel
theorem dX3_wordRead_79 : decode cX3_wordRead 79 = .ok (.ldc 137, 2) := by decide +kernel
theorem dX3_wordRead_81 : decode cX3_wordRead 81 = .ok (.invokevirtual 122, 3) := by decide +kernel
theorem dX3_wordRead_84 : decode cX3_wordRead 84 = .ok (.ifCond .eq 8, 3) := by decide +kernel
theorem dX3_wordRead_87 : decode cX3_wordRead 87 = .ok (.bipush 7, 2) := by decide +kernel
theorem dX3_wordRead_89 : decode cX3_wordRead 89 = .ok (.goto 4, 3) := by decide +kernel
theorem dX3_wordRead_92 : decode cX3_wordRead 92 = .ok (.iconst (-1), 1) := by decide +kernel
theorem dX3_wordRead_93 : decode cX3_wordRead 93 = .ok (.ireturn, 1) := by decide +kernel
set_option maxRecDepth 20000 in
theorem ggX3_isWord_J0_length_8abf5 : GoodIn wsX3_isWord wsJ0_length_8abf5 := goodIn_r _ [8, 9, 10, 11, 12, 7, 13, 14, 15] (by decide +kernel) (by decide +kernel)
set_option maxRecDepth 20000 in
theorem gX3_isWord_J0_length_8abf5 : GoodIn wsX3_isWord (wsV RX3 138 RJ0 yJ0_length_8abf5 wsJ0_length_8abf5) := goodIn_app (goodIn_of _ (by decide +kernel)) ggX3_isWord_J0_length_8abf5
set_option maxRecDepth 20000 in
theorem ggX3_isWord_J0_charAt_5068e : GoodIn wsX3_isWord wsJ0_charAt_5068e := goodIn_r _ [19, 9, 20, 21, 22, 7, 23, 14, 15, 24, 25, 26, 27, 28, 29, 30, 31, 32, 33, 34, 35, 36, 37, 38, 39, 40, 41, 42, 43, 44, 45, 46, 47, 48, 49, 50, 51, 52] (by decide +kernel) (by decide +kernel)
set_option maxRecDepth 20000 in
theorem gX3_isWord_J0_charAt_5068e : GoodIn wsX3_isWord (wsV RX3 142 RJ0 yJ0_charAt_5068e wsJ0_charAt_5068e) := goodIn_app (goodIn_of _ (by decide +kernel)) ggX3_isWord_J0_charAt_5068e
theorem dX3_isWord_0 : decode cX3_isWord 0 = .ok (.aload_n 1, 1) := by decide +kernel
theorem dX3_isWord_1 : decode cX3_isWord 1 = .ok (.invokevirtual 138, 3) := by decide +kernel
theorem dX3_isWord_4 : decode cX3_isWord 4 = .ok (.aload_n 0, 1) := by decide +kernel
theorem dX3_isWord_5 : decode cX3_isWord 5 = .ok (.getfield 74, 3) := by decide +kernel
theorem dX3_isWord_8 : decode cX3_isWord 8 = .ok (.aload_n 0, 1) := by decide +kernel
theorem dX3_isWord_9 : decode cX3_isWord 9 = .ok (.getfield 84, 3) := by decide +kernel
theorem dX3_isWord_12 : decode cX3_isWord 12 = .ok (.isub, 1) := by decide +kernel
theorem dX3_isWord_13 : decode cX3_isWord 13 = .ok (.if_icmp .eq 5, 3) := by decide +kernel
theorem dX3_isWord_16 : decode cX3_isWord 16 = .ok (.iconst 0, 1) := by decide +kernel
theorem dX3_isWord_17 : decode cX3_isWord 17 = .ok (.ireturn, 1) := by decide +kernel
theorem dX3_isWord_18 : decode cX3_isWord 18 = .ok (.iconst 0, 1) := by decide +kernel
theorem dX3_isWord_19 : decode cX3_isWord 19 = .ok (.istore_n 2, 1) := by decide +kernel
theorem dX3_isWord_20 : decode cX3_isWord 20 = .ok (.iload_n 2, 1) := by decide +kernel
theorem dX3_isWord_21 : decode cX3_isWord 21 = .ok (.aload_n 1, 1) := by decide +kernel
theorem dX3_isWord_22 : decode cX3_isWord 22 = .ok (.invokevirtual 138, 3) := by decide +kernel
theorem dX3_isWord_25 : decode cX3_isWord 25 = .ok (.if_icmp .ge 30, 3) := by decide +kernel
theorem dX3_isWord_28 : decode cX3_isWord 28 = .ok (.aload_n 0, 1) := by decide +kernel
theorem dX3_isWord_29 : decode cX3_isWord 29 = .ok (.getfield 25, 3) := by decide +kernel
theorem dX3_isWord_32 : decode cX3_isWord 32 = .ok (.aload_n 0, 1) := by decide +kernel
theorem dX3_isWord_33 : decode cX3_isWord 33 = .ok (.getfield 84, 3) := by decide +kernel
theorem dX3_isWord_36 : decode cX3_isWord 36 = .ok (.iload_n 2, 1) := by decide +kernel
theorem dX3_isWord_37 : decode cX3_isWord 37 = .ok (.iadd, 1) := by decide +kernel
theorem dX3_isWord_38 : decode cX3_isWord 38 = .ok (.baload, 1) := by decide +kernel
theorem dX3_isWord_39 : decode cX3_isWord 39 = .ok (.aload_n 1, 1) := by decide +kernel
theorem dX3_isWord_40 : decode cX3_isWord 40 = .ok (.iload_n 2, 1) := by decide +kernel
theorem dX3_isWord_41 : decode cX3_isWord 41 = .ok (.invokevirtual 142, 3) := by decide +kernel
theorem dX3_isWord_44 : decode cX3_isWord 44 = .ok (.if_icmp .eq 5, 3) := by decide +kernel
theorem dX3_isWord_47 : decode cX3_isWord 47 = .ok (.iconst 0, 1) := by decide +kernel
theorem dX3_isWord_48 : decode cX3_isWord 48 = .ok (.ireturn, 1) := by decide +kernel
theorem dX3_isWord_49 : decode cX3_isWord 49 = .ok (.iinc 2 1, 3) := by decide +kernel
theorem dX3_isWord_52 : decode cX3_isWord 52 = .ok (.goto (-32), 3) := by decide +kernel
theorem dX3_isWord_55 : decode cX3_isWord 55 = .ok (.iconst 1, 1) := by decide +kernel
theorem dX3_isWord_56 : decode cX3_isWord 56 = .ok (.ireturn, 1) := by decide +kernel
theorem dX3_faultOfWord_0 : decode cX3_faultOfWord 0 = .ok (.iload_n 1, 1) := by decide +kernel
theorem dX3_faultOfWord_1 : decode cX3_faultOfWord 1 = .ok (.tableswitch 93 4 7 #[57, 75, 31, 44], 31) := by decide +kernel
theorem dX3_faultOfWord_32 : decode cX3_faultOfWord 32 = .ok (.aload_n 0, 1) := by decide +kernel
theorem dX3_faultOfWord_33 : decode cX3_faultOfWord 33 = .ok (.getfield 77, 3) := by decide +kernel
theorem dX3_faultOfWord_36 : decode cX3_faultOfWord 36 = .ok (.ifCond .eq 7, 3) := by decide +kernel
theorem dX3_faultOfWord_39 : decode cX3_faultOfWord 39 = .ok (.iconst 4, 1) := by decide +kernel
theorem dX3_faultOfWord_40 : decode cX3_faultOfWord 40 = .ok (.goto 4, 3) := by decide +kernel
theorem dX3_faultOfWord_43 : decode cX3_faultOfWord 43 = .ok (.iconst 0, 1) := by decide +kernel
theorem dX3_faultOfWord_44 : decode cX3_faultOfWord 44 = .ok (.ireturn, 1) := by decide +kernel
theorem dX3_faultOfWord_45 : decode cX3_faultOfWord 45 = .ok (.aload_n 0, 1) := by decide +kernel
theorem dX3_faultOfWord_46 : decode cX3_faultOfWord 46 = .ok (.getfield 81, 3) := by decide +kernel
theorem dX3_faultOfWord_49 : decode cX3_faultOfWord 49 = .ok (.ifCond .eq 7, 3) := by decide +kernel
theorem dX3_faultOfWord_52 : decode cX3_faultOfWord 52 = .ok (.iconst 4, 1) := by decide +kernel
theorem dX3_faultOfWord_53 : decode cX3_faultOfWord 53 = .ok (.goto 4, 3) := by decide +kernel
theorem dX3_faultOfWord_56 : decode cX3_faultOfWord 56 = .ok (.iconst 0, 1) := by decide +kernel
theorem dX3_faultOfWord_57 : decode cX3_faultOfWord 57 = .ok (.ireturn, 1) := by decide +kernel
theorem dX3_faultOfWord_58 : decode cX3_faultOfWord 58 = .ok (.aload_n 0, 1) := by decide +kernel
theorem dX3_faultOfWord_59 : decode cX3_faultOfWord 59 = .ok (.getfield 12, 3) := by decide +kernel
theorem dX3_faultOfWord_62 : decode cX3_faultOfWord 62 = .ok (.getfield 62, 3) := by decide +kernel
theorem dX3_faultOfWord_65 : decode cX3_faultOfWord 65 = .ok (.bipush 6, 2) := by decide +kernel
theorem dX3_faultOfWord_67 : decode cX3_faultOfWord 67 = .ok (.if_icmp .lt 7, 3) := by decide +kernel
theorem dX3_faultOfWord_70 : decode cX3_faultOfWord 70 = .ok (.iconst 5, 1) := by decide +kernel
theorem dX3_faultOfWord_71 : decode cX3_faultOfWord 71 = .ok (.goto 4, 3) := by decide +kernel
theorem dX3_faultOfWord_74 : decode cX3_faultOfWord 74 = .ok (.iconst 0, 1) := by decide +kernel
theorem dX3_faultOfWord_75 : decode cX3_faultOfWord 75 = .ok (.ireturn, 1) := by decide +kernel
theorem dX3_faultOfWord_76 : decode cX3_faultOfWord 76 = .ok (.aload_n 0, 1) := by decide +kernel
theorem dX3_faultOfWord_77 : decode cX3_faultOfWord 77 = .ok (.getfield 12, 3) := by decide +kernel
theorem dX3_faultOfWord_80 : decode cX3_faultOfWord 80 = .ok (.getfield 65, 3) := by decide +kernel
theorem dX3_faultOfWord_83 : decode cX3_faultOfWord 83 = .ok (.bipush 6, 2) := by decide +kernel
theorem dX3_faultOfWord_85 : decode cX3_faultOfWord 85 = .ok (.if_icmp .lt 7, 3) := by decide +kernel
theorem dX3_faultOfWord_88 : decode cX3_faultOfWord 88 = .ok (.iconst 5, 1) := by decide +kernel
theorem dX3_faultOfWord_89 : decode cX3_faultOfWord 89 = .ok (.goto 4, 3) := by decide +kernel
theorem dX3_faultOfWord_92 : decode cX3_faultOfWord 92 = .ok (.iconst 0, 1) := by decide +kernel
theorem dX3_faultOfWord_93 : decode cX3_faultOfWord 93 = .ok (.ireturn, 1) := by decide +kernel
theorem dX3_faultOfWord_94 : decode cX3_faultOfWord 94 = .ok (.aload_n 0, 1) := by decide +kernel
theorem dX3_faultOfWord_95 : decode cX3_faultOfWord 95 = .ok (.getfield 21, 3) := by decide +kernel
theorem dX3_faultOfWord_98 : decode cX3_faultOfWord 98 = .ok (.getfield 52, 3) := by decide +kernel
theorem dX3_faultOfWord_101 : decode cX3_faultOfWord 101 = .ok (.iconst 4, 1) := by decide +kernel
theorem dX3_faultOfWord_102 : decode cX3_faultOfWord 102 = .ok (.if_icmp .lt 7, 3) := by decide +kernel
theorem dX3_faultOfWord_105 : decode cX3_faultOfWord 105 = .ok (.iconst 5, 1) := by decide +kernel
theorem dX3_faultOfWord_106 : decode cX3_faultOfWord 106 = .ok (.goto 4, 3) := by decide +kernel
theorem dX3_faultOfWord_109 : decode cX3_faultOfWord 109 = .ok (.iconst 0, 1) := by decide +kernel
theorem dX3_faultOfWord_110 : decode cX3_faultOfWord 110 = .ok (.ireturn, 1) := by decide +kernel
set_option maxRecDepth 20000 in
theorem ggX3_tell_X3_tellTrip : GoodIn wsX3_tell wsX3_tellTrip := goodIn_r _ [14, 15, 16, 17, 2, 18, 19, 1, 20, 29, 30, 31, 32, 33, 34, 35, 36, 37, 38, 39, 40, 52, 53, 54, 55, 56, 57, 58, 59, 41, 42, 43, 44, 45, 46, 47, 48, 49, 50, 51] (by decide +kernel) (by decide +kernel)
set_option maxRecDepth 20000 in
theorem gX3_tell_X3_tellTrip : GoodIn wsX3_tell (wsV RX3 146 RX3 yX3_tellTrip wsX3_tellTrip) := goodIn_app (goodIn_of _ (by decide +kernel)) ggX3_tell_X3_tellTrip
set_option maxRecDepth 20000 in
theorem ggX3_tell_X3_tellAsked : GoodIn wsX3_tell wsX3_tellAsked := goodIn_r _ [24, 15, 25, 26, 2, 27, 28, 29, 30, 31, 32, 33, 34, 35, 36, 37, 38, 39, 40, 52, 53, 54, 55, 56, 57, 58, 59] (by decide +kernel) (by decide +kernel)
set_option maxRecDepth 20000 in
theorem gX3_tell_X3_tellAsked : GoodIn wsX3_tell (wsV RX3 149 RX3 yX3_tellAsked wsX3_tellAsked) := goodIn_app (goodIn_of _ (by decide +kernel)) ggX3_tell_X3_tellAsked
theorem dX3_tell_0 : decode cX3_tell 0 = .ok (.iload_n 1, 1) := by decide +kernel
theorem dX3_tell_1 : decode cX3_tell 1 = .ok (.tableswitch 87 4 7 #[31, 38, 45, 66], 31) := by decide +kernel
theorem dX3_tell_32 : decode cX3_tell 32 = .ok (.aload_n 0, 1) := by decide +kernel
theorem dX3_tell_33 : decode cX3_tell 33 = .ok (.invokevirtual 146, 3) := by decide +kernel
theorem dX3_tell_36 : decode cX3_tell 36 = .ok (.goto 102, 3) := by decide +kernel
theorem dX3_tell_39 : decode cX3_tell 39 = .ok (.aload_n 0, 1) := by decide +kernel
theorem dX3_tell_40 : decode cX3_tell 40 = .ok (.invokevirtual 149, 3) := by decide +kernel
theorem dX3_tell_43 : decode cX3_tell 43 = .ok (.goto 95, 3) := by decide +kernel
theorem dX3_tell_46 : decode cX3_tell 46 = .ok (.aload_n 0, 1) := by decide +kernel
theorem dX3_tell_47 : decode cX3_tell 47 = .ok (.getfield 21, 3) := by decide +kernel
theorem dX3_tell_50 : decode cX3_tell 50 = .ok (.aload_n 0, 1) := by decide +kernel
theorem dX3_tell_51 : decode cX3_tell 51 = .ok (.getfield 29, 3) := by decide +kernel
theorem dX3_tell_54 : decode cX3_tell 54 = .ok (.iconst 0, 1) := by decide +kernel
theorem dX3_tell_55 : decode cX3_tell 55 = .ok (.iaload, 1) := by decide +kernel
theorem dX3_tell_56 : decode cX3_tell 56 = .ok (.putfield 68, 3) := by decide +kernel
theorem dX3_tell_59 : decode cX3_tell 59 = .ok (.aload_n 0, 1) := by decide +kernel
theorem dX3_tell_60 : decode cX3_tell 60 = .ok (.iconst 1, 1) := by decide +kernel
theorem dX3_tell_61 : decode cX3_tell 61 = .ok (.putfield 77, 3) := by decide +kernel
theorem dX3_tell_64 : decode cX3_tell 64 = .ok (.goto 74, 3) := by decide +kernel
theorem dX3_tell_67 : decode cX3_tell 67 = .ok (.aload_n 0, 1) := by decide +kernel
theorem dX3_tell_68 : decode cX3_tell 68 = .ok (.getfield 21, 3) := by decide +kernel
theorem dX3_tell_71 : decode cX3_tell 71 = .ok (.aload_n 0, 1) := by decide +kernel
theorem dX3_tell_72 : decode cX3_tell 72 = .ok (.getfield 29, 3) := by decide +kernel
theorem dX3_tell_75 : decode cX3_tell 75 = .ok (.iconst 0, 1) := by decide +kernel
theorem dX3_tell_76 : decode cX3_tell 76 = .ok (.iaload, 1) := by decide +kernel
theorem dX3_tell_77 : decode cX3_tell 77 = .ok (.putfield 71, 3) := by decide +kernel
theorem dX3_tell_80 : decode cX3_tell 80 = .ok (.aload_n 0, 1) := by decide +kernel
theorem dX3_tell_81 : decode cX3_tell 81 = .ok (.iconst 1, 1) := by decide +kernel
theorem dX3_tell_82 : decode cX3_tell 82 = .ok (.putfield 81, 3) := by decide +kernel
theorem dX3_tell_85 : decode cX3_tell 85 = .ok (.goto 53, 3) := by decide +kernel
theorem dX3_tell_88 : decode cX3_tell 88 = .ok (.aload_n 0, 1) := by decide +kernel
theorem dX3_tell_89 : decode cX3_tell 89 = .ok (.getfield 21, 3) := by decide +kernel
theorem dX3_tell_92 : decode cX3_tell 92 = .ok (.getfield 152, 3) := by decide +kernel
theorem dX3_tell_95 : decode cX3_tell 95 = .ok (.aload_n 0, 1) := by decide +kernel
theorem dX3_tell_96 : decode cX3_tell 96 = .ok (.getfield 21, 3) := by decide +kernel
theorem dX3_tell_99 : decode cX3_tell 99 = .ok (.getfield 52, 3) := by decide +kernel
theorem dX3_tell_102 : decode cX3_tell 102 = .ok (.iload_n 1, 1) := by decide +kernel
theorem dX3_tell_103 : decode cX3_tell 103 = .ok (.iastore, 1) := by decide +kernel
theorem dX3_tell_104 : decode cX3_tell 104 = .ok (.aload_n 0, 1) := by decide +kernel
theorem dX3_tell_105 : decode cX3_tell 105 = .ok (.getfield 21, 3) := by decide +kernel
theorem dX3_tell_108 : decode cX3_tell 108 = .ok (.getfield 155, 3) := by decide +kernel
theorem dX3_tell_111 : decode cX3_tell 111 = .ok (.aload_n 0, 1) := by decide +kernel
theorem dX3_tell_112 : decode cX3_tell 112 = .ok (.getfield 21, 3) := by decide +kernel
theorem dX3_tell_115 : decode cX3_tell 115 = .ok (.getfield 52, 3) := by decide +kernel
theorem dX3_tell_118 : decode cX3_tell 118 = .ok (.aload_n 0, 1) := by decide +kernel
theorem dX3_tell_119 : decode cX3_tell 119 = .ok (.getfield 29, 3) := by decide +kernel
theorem dX3_tell_122 : decode cX3_tell 122 = .ok (.iconst 0, 1) := by decide +kernel
theorem dX3_tell_123 : decode cX3_tell 123 = .ok (.iaload, 1) := by decide +kernel
theorem dX3_tell_124 : decode cX3_tell 124 = .ok (.iastore, 1) := by decide +kernel
theorem dX3_tell_125 : decode cX3_tell 125 = .ok (.aload_n 0, 1) := by decide +kernel
theorem dX3_tell_126 : decode cX3_tell 126 = .ok (.getfield 21, 3) := by decide +kernel
theorem dX3_tell_129 : decode cX3_tell 129 = .ok (.dup, 1) := by decide +kernel
theorem dX3_tell_130 : decode cX3_tell 130 = .ok (.getfield 52, 3) := by decide +kernel
theorem dX3_tell_133 : decode cX3_tell 133 = .ok (.iconst 1, 1) := by decide +kernel
theorem dX3_tell_134 : decode cX3_tell 134 = .ok (.iadd, 1) := by decide +kernel
theorem dX3_tell_135 : decode cX3_tell 135 = .ok (.putfield 52, 3) := by decide +kernel
theorem dX3_tell_138 : decode cX3_tell 138 = .ok (.return_, 1) := by decide +kernel
theorem dX3_tellTrip_0 : decode cX3_tellTrip 0 = .ok (.aload_n 0, 1) := by decide +kernel
theorem dX3_tellTrip_1 : decode cX3_tellTrip 1 = .ok (.getfield 12, 3) := by decide +kernel
theorem dX3_tellTrip_4 : decode cX3_tellTrip 4 = .ok (.getfield 62, 3) := by decide +kernel
theorem dX3_tellTrip_7 : decode cX3_tellTrip 7 = .ok (.istore_n 1, 1) := by decide +kernel
theorem dX3_tellTrip_8 : decode cX3_tellTrip 8 = .ok (.aload_n 0, 1) := by decide +kernel
theorem dX3_tellTrip_9 : decode cX3_tellTrip 9 = .ok (.getfield 12, 3) := by decide +kernel
theorem dX3_tellTrip_12 : decode cX3_tellTrip 12 = .ok (.getfield 158, 3) := by decide +kernel
theorem dX3_tellTrip_15 : decode cX3_tellTrip 15 = .ok (.iload_n 1, 1) := by decide +kernel
theorem dX3_tellTrip_16 : decode cX3_tellTrip 16 = .ok (.aload_n 0, 1) := by decide +kernel
theorem dX3_tellTrip_17 : decode cX3_tellTrip 17 = .ok (.getfield 29, 3) := by decide +kernel
theorem dX3_tellTrip_20 : decode cX3_tellTrip 20 = .ok (.iconst 0, 1) := by decide +kernel
theorem dX3_tellTrip_21 : decode cX3_tellTrip 21 = .ok (.iaload, 1) := by decide +kernel
theorem dX3_tellTrip_22 : decode cX3_tellTrip 22 = .ok (.iastore, 1) := by decide +kernel
theorem dX3_tellTrip_23 : decode cX3_tellTrip 23 = .ok (.aload_n 0, 1) := by decide +kernel
theorem dX3_tellTrip_24 : decode cX3_tellTrip 24 = .ok (.getfield 12, 3) := by decide +kernel
theorem dX3_tellTrip_27 : decode cX3_tellTrip 27 = .ok (.getfield 161, 3) := by decide +kernel
theorem dX3_tellTrip_30 : decode cX3_tellTrip 30 = .ok (.iload_n 1, 1) := by decide +kernel
theorem dX3_tellTrip_31 : decode cX3_tellTrip 31 = .ok (.aload_n 0, 1) := by decide +kernel
theorem dX3_tellTrip_32 : decode cX3_tellTrip 32 = .ok (.getfield 29, 3) := by decide +kernel
theorem dX3_tellTrip_35 : decode cX3_tellTrip 35 = .ok (.iconst 1, 1) := by decide +kernel
theorem dX3_tellTrip_36 : decode cX3_tellTrip 36 = .ok (.iaload, 1) := by decide +kernel
theorem dX3_tellTrip_37 : decode cX3_tellTrip 37 = .ok (.iastore, 1) := by decide +kernel
theorem dX3_tellTrip_38 : decode cX3_tellTrip 38 = .ok (.aload_n 0, 1) := by decide +kernel
theorem dX3_tellTrip_39 : decode cX3_tellTrip 39 = .ok (.getfield 12, 3) := by decide +kernel
theorem dX3_tellTrip_42 : decode cX3_tellTrip 42 = .ok (.getfield 164, 3) := by decide +kernel
theorem dX3_tellTrip_45 : decode cX3_tellTrip 45 = .ok (.iload_n 1, 1) := by decide +kernel
theorem dX3_tellTrip_46 : decode cX3_tellTrip 46 = .ok (.aload_n 0, 1) := by decide +kernel
theorem dX3_tellTrip_47 : decode cX3_tellTrip 47 = .ok (.getfield 29, 3) := by decide +kernel
theorem dX3_tellTrip_50 : decode cX3_tellTrip 50 = .ok (.iconst 2, 1) := by decide +kernel
theorem dX3_tellTrip_51 : decode cX3_tellTrip 51 = .ok (.iaload, 1) := by decide +kernel
theorem dX3_tellTrip_52 : decode cX3_tellTrip 52 = .ok (.iastore, 1) := by decide +kernel
theorem dX3_tellTrip_53 : decode cX3_tellTrip 53 = .ok (.aload_n 0, 1) := by decide +kernel
theorem dX3_tellTrip_54 : decode cX3_tellTrip 54 = .ok (.getfield 21, 3) := by decide +kernel
theorem dX3_tellTrip_57 : decode cX3_tellTrip 57 = .ok (.getfield 167, 3) := by decide +kernel
theorem dX3_tellTrip_60 : decode cX3_tellTrip 60 = .ok (.iload_n 1, 1) := by decide +kernel
theorem dX3_tellTrip_61 : decode cX3_tellTrip 61 = .ok (.aload_n 0, 1) := by decide +kernel
theorem dX3_tellTrip_62 : decode cX3_tellTrip 62 = .ok (.getfield 29, 3) := by decide +kernel
theorem dX3_tellTrip_65 : decode cX3_tellTrip 65 = .ok (.iconst 3, 1) := by decide +kernel
theorem dX3_tellTrip_66 : decode cX3_tellTrip 66 = .ok (.iaload, 1) := by decide +kernel
theorem dX3_tellTrip_67 : decode cX3_tellTrip 67 = .ok (.iastore, 1) := by decide +kernel
theorem dX3_tellTrip_68 : decode cX3_tellTrip 68 = .ok (.aload_n 0, 1) := by decide +kernel
theorem dX3_tellTrip_69 : decode cX3_tellTrip 69 = .ok (.getfield 12, 3) := by decide +kernel
theorem dX3_tellTrip_72 : decode cX3_tellTrip 72 = .ok (.dup, 1) := by decide +kernel
theorem dX3_tellTrip_73 : decode cX3_tellTrip 73 = .ok (.getfield 62, 3) := by decide +kernel
theorem dX3_tellTrip_76 : decode cX3_tellTrip 76 = .ok (.iconst 1, 1) := by decide +kernel
theorem dX3_tellTrip_77 : decode cX3_tellTrip 77 = .ok (.iadd, 1) := by decide +kernel
theorem dX3_tellTrip_78 : decode cX3_tellTrip 78 = .ok (.putfield 62, 3) := by decide +kernel
theorem dX3_tellTrip_81 : decode cX3_tellTrip 81 = .ok (.return_, 1) := by decide +kernel
theorem dX3_tellAsked_0 : decode cX3_tellAsked 0 = .ok (.aload_n 0, 1) := by decide +kernel
theorem dX3_tellAsked_1 : decode cX3_tellAsked 1 = .ok (.getfield 12, 3) := by decide +kernel
theorem dX3_tellAsked_4 : decode cX3_tellAsked 4 = .ok (.getfield 65, 3) := by decide +kernel
theorem dX3_tellAsked_7 : decode cX3_tellAsked 7 = .ok (.istore_n 1, 1) := by decide +kernel
theorem dX3_tellAsked_8 : decode cX3_tellAsked 8 = .ok (.aload_n 0, 1) := by decide +kernel
theorem dX3_tellAsked_9 : decode cX3_tellAsked 9 = .ok (.getfield 12, 3) := by decide +kernel
theorem dX3_tellAsked_12 : decode cX3_tellAsked 12 = .ok (.getfield 170, 3) := by decide +kernel
theorem dX3_tellAsked_15 : decode cX3_tellAsked 15 = .ok (.iload_n 1, 1) := by decide +kernel
theorem dX3_tellAsked_16 : decode cX3_tellAsked 16 = .ok (.aload_n 0, 1) := by decide +kernel
theorem dX3_tellAsked_17 : decode cX3_tellAsked 17 = .ok (.getfield 29, 3) := by decide +kernel
theorem dX3_tellAsked_20 : decode cX3_tellAsked 20 = .ok (.iconst 0, 1) := by decide +kernel
theorem dX3_tellAsked_21 : decode cX3_tellAsked 21 = .ok (.iaload, 1) := by decide +kernel
theorem dX3_tellAsked_22 : decode cX3_tellAsked 22 = .ok (.iastore, 1) := by decide +kernel
theorem dX3_tellAsked_23 : decode cX3_tellAsked 23 = .ok (.aload_n 0, 1) := by decide +kernel
theorem dX3_tellAsked_24 : decode cX3_tellAsked 24 = .ok (.getfield 12, 3) := by decide +kernel
theorem dX3_tellAsked_27 : decode cX3_tellAsked 27 = .ok (.getfield 173, 3) := by decide +kernel
theorem dX3_tellAsked_30 : decode cX3_tellAsked 30 = .ok (.iload_n 1, 1) := by decide +kernel
theorem dX3_tellAsked_31 : decode cX3_tellAsked 31 = .ok (.aload_n 0, 1) := by decide +kernel
theorem dX3_tellAsked_32 : decode cX3_tellAsked 32 = .ok (.getfield 29, 3) := by decide +kernel
theorem dX3_tellAsked_35 : decode cX3_tellAsked 35 = .ok (.iconst 1, 1) := by decide +kernel
theorem dX3_tellAsked_36 : decode cX3_tellAsked 36 = .ok (.iaload, 1) := by decide +kernel
theorem dX3_tellAsked_37 : decode cX3_tellAsked 37 = .ok (.iastore, 1) := by decide +kernel
theorem dX3_tellAsked_38 : decode cX3_tellAsked 38 = .ok (.aload_n 0, 1) := by decide +kernel
theorem dX3_tellAsked_39 : decode cX3_tellAsked 39 = .ok (.getfield 12, 3) := by decide +kernel
theorem dX3_tellAsked_42 : decode cX3_tellAsked 42 = .ok (.getfield 176, 3) := by decide +kernel
theorem dX3_tellAsked_45 : decode cX3_tellAsked 45 = .ok (.iload_n 1, 1) := by decide +kernel
theorem dX3_tellAsked_46 : decode cX3_tellAsked 46 = .ok (.aload_n 0, 1) := by decide +kernel
theorem dX3_tellAsked_47 : decode cX3_tellAsked 47 = .ok (.getfield 29, 3) := by decide +kernel
theorem dX3_tellAsked_50 : decode cX3_tellAsked 50 = .ok (.iconst 2, 1) := by decide +kernel
theorem dX3_tellAsked_51 : decode cX3_tellAsked 51 = .ok (.iaload, 1) := by decide +kernel
theorem dX3_tellAsked_52 : decode cX3_tellAsked 52 = .ok (.iastore, 1) := by decide +kernel
theorem dX3_tellAsked_53 : decode cX3_tellAsked 53 = .ok (.aload_n 0, 1) := by decide +kernel
theorem dX3_tellAsked_54 : decode cX3_tellAsked 54 = .ok (.getfield 12, 3) := by decide +kernel
theorem dX3_tellAsked_57 : decode cX3_tellAsked 57 = .ok (.dup, 1) := by decide +kernel
theorem dX3_tellAsked_58 : decode cX3_tellAsked 58 = .ok (.getfield 65, 3) := by decide +kernel
theorem dX3_tellAsked_61 : decode cX3_tellAsked 61 = .ok (.iconst 1, 1) := by decide +kernel
theorem dX3_tellAsked_62 : decode cX3_tellAsked 62 = .ok (.iadd, 1) := by decide +kernel
theorem dX3_tellAsked_63 : decode cX3_tellAsked 63 = .ok (.putfield 65, 3) := by decide +kernel
theorem dX3_tellAsked_66 : decode cX3_tellAsked 66 = .ok (.return_, 1) := by decide +kernel
theorem dX4_init_0 : decode cX4_init 0 = .ok (.aload_n 0, 1) := by decide +kernel
theorem dX4_init_1 : decode cX4_init 1 = .ok (.invokespecial 3, 3) := by decide +kernel
theorem dX4_init_4 : decode cX4_init 4 = .ok (.aload_n 0, 1) := by decide +kernel
theorem dX4_init_5 : decode cX4_init 5 = .ok (.iconst (-1), 1) := by decide +kernel
theorem dX4_init_6 : decode cX4_init 6 = .ok (.putfield 11, 3) := by decide +kernel
theorem dX4_init_9 : decode cX4_init 9 = .ok (.aload_n 0, 1) := by decide +kernel
theorem dX4_init_10 : decode cX4_init 10 = .ok (.bipush 40, 2) := by decide +kernel
theorem dX4_init_12 : decode cX4_init 12 = .ok (.newarray .int, 2) := by decide +kernel
theorem dX4_init_14 : decode cX4_init 14 = .ok (.putfield 15, 3) := by decide +kernel
theorem dX4_init_17 : decode cX4_init 17 = .ok (.return_, 1) := by decide +kernel
set_option maxRecDepth 20000 in
theorem ggX4_renew_J7_fill_53178 : GoodIn wsX4_renew wsJ7_fill_53178 := goodIn_r _ [7] (by decide +kernel) (by decide +kernel)
set_option maxRecDepth 20000 in
theorem gX4_renew_J7_fill_53178 : GoodIn wsX4_renew (va_wsS RX4 22 yJ7_fill_53178 wsJ7_fill_53178) := goodIn_app (goodIn_of _ (by decide +kernel)) ggX4_renew_J7_fill_53178
theorem dX4_renew_0 : decode cX4_renew 0 = .ok (.aload_n 0, 1) := by decide +kernel
theorem dX4_renew_1 : decode cX4_renew 1 = .ok (.iload_n 1, 1) := by decide +kernel
theorem dX4_renew_2 : decode cX4_renew 2 = .ok (.putfield 11, 3) := by decide +kernel
theorem dX4_renew_5 : decode cX4_renew 5 = .ok (.aload_n 0, 1) := by decide +kernel
theorem dX4_renew_6 : decode cX4_renew 6 = .ok (.iload_n 2, 1) := by decide +kernel
theorem dX4_renew_7 : decode cX4_renew 7 = .ok (.putfield 19, 3) := by decide +kernel
theorem dX4_renew_10 : decode cX4_renew 10 = .ok (.aload_n 0, 1) := by decide +kernel
theorem dX4_renew_11 : decode cX4_renew 11 = .ok (.getfield 15, 3) := by decide +kernel
theorem dX4_renew_14 : decode cX4_renew 14 = .ok (.iconst 0, 1) := by decide +kernel
theorem dX4_renew_15 : decode cX4_renew 15 = .ok (.invokestatic 22, 3) := by decide +kernel
theorem dX4_renew_18 : decode cX4_renew 18 = .ok (.return_, 1) := by decide +kernel
theorem dX4_put_0 : decode cX4_put 0 = .ok (.aload_n 0, 1) := by decide +kernel
theorem dX4_put_1 : decode cX4_put 1 = .ok (.getfield 11, 3) := by decide +kernel
theorem dX4_put_4 : decode cX4_put 4 = .ok (.lookupswitch 50 #[(0, 28), (1, 39)], 28) := by decide +kernel
theorem dX4_put_32 : decode cX4_put 32 = .ok (.aload_n 0, 1) := by decide +kernel
theorem dX4_put_33 : decode cX4_put 33 = .ok (.getfield 15, 3) := by decide +kernel
theorem dX4_put_36 : decode cX4_put 36 = .ok (.iload_n 1, 1) := by decide +kernel
theorem dX4_put_37 : decode cX4_put 37 = .ok (.iload_n 2, 1) := by decide +kernel
theorem dX4_put_38 : decode cX4_put 38 = .ok (.i2b, 1) := by decide +kernel
theorem dX4_put_39 : decode cX4_put 39 = .ok (.iastore, 1) := by decide +kernel
theorem dX4_put_40 : decode cX4_put 40 = .ok (.goto 21, 3) := by decide +kernel
theorem dX4_put_43 : decode cX4_put 43 = .ok (.aload_n 0, 1) := by decide +kernel
theorem dX4_put_44 : decode cX4_put 44 = .ok (.getfield 15, 3) := by decide +kernel
theorem dX4_put_47 : decode cX4_put 47 = .ok (.iload_n 1, 1) := by decide +kernel
theorem dX4_put_48 : decode cX4_put 48 = .ok (.iload_n 2, 1) := by decide +kernel
theorem dX4_put_49 : decode cX4_put 49 = .ok (.i2s, 1) := by decide +kernel
theorem dX4_put_50 : decode cX4_put 50 = .ok (.iastore, 1) := by decide +kernel
theorem dX4_put_51 : decode cX4_put 51 = .ok (.goto 10, 3) := by decide +kernel
theorem dX4_put_54 : decode cX4_put 54 = .ok (.aload_n 0, 1) := by decide +kernel
theorem dX4_put_55 : decode cX4_put 55 = .ok (.getfield 15, 3) := by decide +kernel
theorem dX4_put_58 : decode cX4_put 58 = .ok (.iload_n 1, 1) := by decide +kernel
theorem dX4_put_59 : decode cX4_put 59 = .ok (.iload_n 2, 1) := by decide +kernel
theorem dX4_put_60 : decode cX4_put 60 = .ok (.iastore, 1) := by decide +kernel
theorem dX4_put_61 : decode cX4_put 61 = .ok (.return_, 1) := by decide +kernel
theorem dX4_faultAt_0 : decode cX4_faultAt 0 = .ok (.aload_n 0, 1) := by decide +kernel
theorem dX4_faultAt_1 : decode cX4_faultAt 1 = .ok (.getfield 11, 3) := by decide +kernel
theorem dX4_faultAt_4 : decode cX4_faultAt 4 = .ok (.iconst (-1), 1) := by decide +kernel
theorem dX4_faultAt_5 : decode cX4_faultAt 5 = .ok (.if_icmp .ne 5, 3) := by decide +kernel
theorem dX4_faultAt_8 : decode cX4_faultAt 8 = .ok (.iconst 1, 1) := by decide +kernel
theorem dX4_faultAt_9 : decode cX4_faultAt 9 = .ok (.ireturn, 1) := by decide +kernel
theorem dX4_faultAt_10 : decode cX4_faultAt 10 = .ok (.iload_n 1, 1) := by decide +kernel
theorem dX4_faultAt_11 : decode cX4_faultAt 11 = .ok (.aload_n 0, 1) := by decide +kernel
theorem dX4_faultAt_12 : decode cX4_faultAt 12 = .ok (.getfield 11, 3) := by decide +kernel
theorem dX4_faultAt_15 : decode cX4_faultAt 15 = .ok (.if_icmp .eq 5, 3) := by decide +kernel
theorem dX4_faultAt_18 : decode cX4_faultAt 18 = .ok (.iconst 3, 1) := by decide +kernel
theorem dX4_faultAt_19 : decode cX4_faultAt 19 = .ok (.ireturn, 1) := by decide +kernel
theorem dX4_faultAt_20 : decode cX4_faultAt 20 = .ok (.iload_n 2, 1) := by decide +kernel
theorem dX4_faultAt_21 : decode cX4_faultAt 21 = .ok (.ifCond .lt 11, 3) := by decide +kernel
theorem dX4_faultAt_24 : decode cX4_faultAt 24 = .ok (.iload_n 2, 1) := by decide +kernel
theorem dX4_faultAt_25 : decode cX4_faultAt 25 = .ok (.aload_n 0, 1) := by decide +kernel
theorem dX4_faultAt_26 : decode cX4_faultAt 26 = .ok (.getfield 19, 3) := by decide +kernel
theorem dX4_faultAt_29 : decode cX4_faultAt 29 = .ok (.if_icmp .lt 7, 3) := by decide +kernel
theorem dX4_faultAt_32 : decode cX4_faultAt 32 = .ok (.iconst 2, 1) := by decide +kernel
theorem dX4_faultAt_33 : decode cX4_faultAt 33 = .ok (.goto 4, 3) := by decide +kernel
theorem dX4_faultAt_36 : decode cX4_faultAt 36 = .ok (.iconst 0, 1) := by decide +kernel
theorem dX4_faultAt_37 : decode cX4_faultAt 37 = .ok (.ireturn, 1) := by decide +kernel
set_option maxRecDepth 20000 in
theorem ggX4_faultOfPair_X4_faultAt : GoodIn wsX4_faultOfPair wsX4_faultAt := goodIn_r _ [5, 6, 7, 8, 9, 10] (by decide +kernel) (by decide +kernel)
set_option maxRecDepth 20000 in
theorem gX4_faultOfPair_X4_faultAt : GoodIn wsX4_faultOfPair (wsV RX4 28 RX4 yX4_faultAt wsX4_faultAt) := goodIn_app (goodIn_of _ (by decide +kernel)) ggX4_faultOfPair_X4_faultAt
theorem dX4_faultOfPair_0 : decode cX4_faultOfPair 0 = .ok (.aload_n 0, 1) := by decide +kernel
theorem dX4_faultOfPair_1 : decode cX4_faultOfPair 1 = .ok (.iload_n 1, 1) := by decide +kernel
theorem dX4_faultOfPair_2 : decode cX4_faultOfPair 2 = .ok (.iload_n 2, 1) := by decide +kernel
theorem dX4_faultOfPair_3 : decode cX4_faultOfPair 3 = .ok (.invokevirtual 28, 3) := by decide +kernel
theorem dX4_faultOfPair_6 : decode cX4_faultOfPair 6 = .ok (.istore_n 3, 1) := by decide +kernel
theorem dX4_faultOfPair_7 : decode cX4_faultOfPair 7 = .ok (.iload_n 3, 1) := by decide +kernel
theorem dX4_faultOfPair_8 : decode cX4_faultOfPair 8 = .ok (.ifCond .eq 7, 3) := by decide +kernel
theorem dX4_faultOfPair_11 : decode cX4_faultOfPair 11 = .ok (.iload_n 3, 1) := by decide +kernel
theorem dX4_faultOfPair_12 : decode cX4_faultOfPair 12 = .ok (.goto 11, 3) := by decide +kernel
theorem dX4_faultOfPair_15 : decode cX4_faultOfPair 15 = .ok (.aload_n 0, 1) := by decide +kernel
theorem dX4_faultOfPair_16 : decode cX4_faultOfPair 16 = .ok (.iload_n 1, 1) := by decide +kernel
theorem dX4_faultOfPair_17 : decode cX4_faultOfPair 17 = .ok (.iload_n 2, 1) := by decide +kernel
theorem dX4_faultOfPair_18 : decode cX4_faultOfPair 18 = .ok (.iconst 1, 1) := by decide +kernel
theorem dX4_faultOfPair_19 : decode cX4_faultOfPair 19 = .ok (.iadd, 1) := by decide +kernel
theorem dX4_faultOfPair_20 : decode cX4_faultOfPair 20 = .ok (.invokevirtual 28, 3) := by decide +kernel
theorem dX4_faultOfPair_23 : decode cX4_faultOfPair 23 = .ok (.ireturn, 1) := by decide +kernel
theorem dX5_init_0 : decode cX5_init 0 = .ok (.aload_n 0, 1) := by decide +kernel
theorem dX5_init_1 : decode cX5_init 1 = .ok (.invokespecial 3, 3) := by decide +kernel
theorem dX5_init_4 : decode cX5_init 4 = .ok (.aload_n 0, 1) := by decide +kernel
theorem dX5_init_5 : decode cX5_init 5 = .ok (.bipush 6, 2) := by decide +kernel
theorem dX5_init_7 : decode cX5_init 7 = .ok (.newarray .int, 2) := by decide +kernel
theorem dX5_init_9 : decode cX5_init 9 = .ok (.putfield 9, 3) := by decide +kernel
theorem dX5_init_12 : decode cX5_init 12 = .ok (.aload_n 0, 1) := by decide +kernel
theorem dX5_init_13 : decode cX5_init 13 = .ok (.bipush 6, 2) := by decide +kernel
theorem dX5_init_15 : decode cX5_init 15 = .ok (.newarray .int, 2) := by decide +kernel
