theorem dX7_fault_0 : decode cX7_fault 0 = .ok (.aload_n 0, 1) := by decide +kernel
theorem dX7_fault_1 : decode cX7_fault 1 = .ok (.getfield 117, 3) := by decide +kernel
theorem dX7_fault_4 : decode cX7_fault 4 = .ok (.ireturn, 1) := by decide +kernel
set_option maxRecDepth 20000 in
theorem ggX7_isOne_X7_in : GoodIn wsX7_isOne wsX7_in := goodIn_r _ [5] (by decide +kernel) (by decide +kernel)
set_option maxRecDepth 20000 in
theorem gX7_isOne_X7_in : GoodIn wsX7_isOne (va_wsS RX7 110 yX7_in wsX7_in) := goodIn_app (goodIn_of _ (by decide +kernel)) ggX7_isOne_X7_in
theorem dX7_isOne_0 : decode cX7_isOne 0 = .ok (.iload_n 1, 1) := by decide +kernel
theorem dX7_isOne_1 : decode cX7_isOne 1 = .ok (.i2l, 1) := by decide +kernel
theorem dX7_isOne_2 : decode cX7_isOne 2 = .ok (.lconst 0, 1) := by decide +kernel
theorem dX7_isOne_3 : decode cX7_isOne 3 = .ok (.aload_n 0, 1) := by decide +kernel
theorem dX7_isOne_4 : decode cX7_isOne 4 = .ok (.getfield 99, 3) := by decide +kernel
theorem dX7_isOne_7 : decode cX7_isOne 7 = .ok (.iconst 1, 1) := by decide +kernel
theorem dX7_isOne_8 : decode cX7_isOne 8 = .ok (.isub, 1) := by decide +kernel
theorem dX7_isOne_9 : decode cX7_isOne 9 = .ok (.i2l, 1) := by decide +kernel
theorem dX7_isOne_10 : decode cX7_isOne 10 = .ok (.invokestatic 110, 3) := by decide +kernel
theorem dX7_isOne_13 : decode cX7_isOne 13 = .ok (.ireturn, 1) := by decide +kernel
set_option maxRecDepth 20000 in
theorem ggX7_isTrip_X7_in : GoodIn wsX7_isTrip wsX7_in := goodIn_r _ [5] (by decide +kernel) (by decide +kernel)
set_option maxRecDepth 20000 in
theorem gX7_isTrip_X7_in : GoodIn wsX7_isTrip (va_wsS RX7 110 yX7_in wsX7_in) := goodIn_app (goodIn_of _ (by decide +kernel)) ggX7_isTrip_X7_in
theorem dX7_isTrip_0 : decode cX7_isTrip 0 = .ok (.iload_n 1, 1) := by decide +kernel
theorem dX7_isTrip_1 : decode cX7_isTrip 1 = .ok (.i2l, 1) := by decide +kernel
theorem dX7_isTrip_2 : decode cX7_isTrip 2 = .ok (.lconst 0, 1) := by decide +kernel
theorem dX7_isTrip_3 : decode cX7_isTrip 3 = .ok (.aload_n 0, 1) := by decide +kernel
theorem dX7_isTrip_4 : decode cX7_isTrip 4 = .ok (.getfield 102, 3) := by decide +kernel
theorem dX7_isTrip_7 : decode cX7_isTrip 7 = .ok (.iconst 1, 1) := by decide +kernel
theorem dX7_isTrip_8 : decode cX7_isTrip 8 = .ok (.isub, 1) := by decide +kernel
theorem dX7_isTrip_9 : decode cX7_isTrip 9 = .ok (.i2l, 1) := by decide +kernel
theorem dX7_isTrip_10 : decode cX7_isTrip 10 = .ok (.invokestatic 110, 3) := by decide +kernel
theorem dX7_isTrip_13 : decode cX7_isTrip 13 = .ok (.ireturn, 1) := by decide +kernel
set_option maxRecDepth 20000 in
theorem ggX7_isPart_X7_in : GoodIn wsX7_isPart wsX7_in := goodIn_r _ [4] (by decide +kernel) (by decide +kernel)
set_option maxRecDepth 20000 in
theorem gX7_isPart_X7_in : GoodIn wsX7_isPart (va_wsS RX7 110 yX7_in wsX7_in) := goodIn_app (goodIn_of _ (by decide +kernel)) ggX7_isPart_X7_in
theorem dX7_isPart_0 : decode cX7_isPart 0 = .ok (.iload_n 0, 1) := by decide +kernel
theorem dX7_isPart_1 : decode cX7_isPart 1 = .ok (.i2l, 1) := by decide +kernel
theorem dX7_isPart_2 : decode cX7_isPart 2 = .ok (.lconst 0, 1) := by decide +kernel
theorem dX7_isPart_3 : decode cX7_isPart 3 = .ok (.lconst 1, 1) := by decide +kernel
theorem dX7_isPart_4 : decode cX7_isPart 4 = .ok (.invokestatic 110, 3) := by decide +kernel
theorem dX7_isPart_7 : decode cX7_isPart 7 = .ok (.ireturn, 1) := by decide +kernel
theorem dX7_starts_0 : decode cX7_starts 0 = .ok (.iconst 0, 1) := by decide +kernel
theorem dX7_starts_1 : decode cX7_starts 1 = .ok (.istore_n 1, 1) := by decide +kernel
theorem dX7_starts_2 : decode cX7_starts 2 = .ok (.iload_n 1, 1) := by decide +kernel
theorem dX7_starts_3 : decode cX7_starts 3 = .ok (.bipush 45, 2) := by decide +kernel
theorem dX7_starts_5 : decode cX7_starts 5 = .ok (.if_icmp .ge 21, 3) := by decide +kernel
theorem dX7_starts_8 : decode cX7_starts 8 = .ok (.aload_n 0, 1) := by decide +kernel
theorem dX7_starts_9 : decode cX7_starts 9 = .ok (.getfield 13, 3) := by decide +kernel
theorem dX7_starts_12 : decode cX7_starts 12 = .ok (.iload_n 1, 1) := by decide +kernel
theorem dX7_starts_13 : decode cX7_starts 13 = .ok (.aload_n 0, 1) := by decide +kernel
theorem dX7_starts_14 : decode cX7_starts 14 = .ok (.getfield 7, 3) := by decide +kernel
theorem dX7_starts_17 : decode cX7_starts 17 = .ok (.iload_n 1, 1) := by decide +kernel
theorem dX7_starts_18 : decode cX7_starts 18 = .ok (.iaload, 1) := by decide +kernel
theorem dX7_starts_19 : decode cX7_starts 19 = .ok (.iastore, 1) := by decide +kernel
theorem dX7_starts_20 : decode cX7_starts 20 = .ok (.iinc 1 1, 3) := by decide +kernel
theorem dX7_starts_23 : decode cX7_starts 23 = .ok (.goto (-21), 3) := by decide +kernel
theorem dX7_starts_26 : decode cX7_starts 26 = .ok (.return_, 1) := by decide +kernel
theorem dX7_of_0 : decode cX7_of 0 = .ok (.aload_n 0, 1) := by decide +kernel
theorem dX7_of_1 : decode cX7_of 1 = .ok (.getfield 13, 3) := by decide +kernel
theorem dX7_of_4 : decode cX7_of 4 = .ok (.iconst 4, 1) := by decide +kernel
theorem dX7_of_5 : decode cX7_of 5 = .ok (.iload_n 1, 1) := by decide +kernel
theorem dX7_of_6 : decode cX7_of 6 = .ok (.imul, 1) := by decide +kernel
theorem dX7_of_7 : decode cX7_of 7 = .ok (.iload_n 2, 1) := by decide +kernel
theorem dX7_of_8 : decode cX7_of 8 = .ok (.iadd, 1) := by decide +kernel
theorem dX7_of_9 : decode cX7_of 9 = .ok (.iaload, 1) := by decide +kernel
theorem dX7_of_10 : decode cX7_of 10 = .ok (.ireturn, 1) := by decide +kernel
theorem dX7_more_0 : decode cX7_more 0 = .ok (.aload_n 0, 1) := by decide +kernel
theorem dX7_more_1 : decode cX7_more 1 = .ok (.getfield 13, 3) := by decide +kernel
theorem dX7_more_4 : decode cX7_more 4 = .ok (.iconst 4, 1) := by decide +kernel
theorem dX7_more_5 : decode cX7_more 5 = .ok (.iload_n 1, 1) := by decide +kernel
theorem dX7_more_6 : decode cX7_more 6 = .ok (.imul, 1) := by decide +kernel
theorem dX7_more_7 : decode cX7_more 7 = .ok (.iload_n 2, 1) := by decide +kernel
theorem dX7_more_8 : decode cX7_more 8 = .ok (.iadd, 1) := by decide +kernel
theorem dX7_more_9 : decode cX7_more 9 = .ok (.iaload, 1) := by decide +kernel
theorem dX7_more_10 : decode cX7_more 10 = .ok (.iload_n 3, 1) := by decide +kernel
theorem dX7_more_11 : decode cX7_more 11 = .ok (.iadd, 1) := by decide +kernel
theorem dX7_more_12 : decode cX7_more 12 = .ok (.istore 4, 2) := by decide +kernel
theorem dX7_more_14 : decode cX7_more 14 = .ok (.aload_n 0, 1) := by decide +kernel
theorem dX7_more_15 : decode cX7_more 15 = .ok (.getfield 13, 3) := by decide +kernel
theorem dX7_more_18 : decode cX7_more 18 = .ok (.iconst 4, 1) := by decide +kernel
theorem dX7_more_19 : decode cX7_more 19 = .ok (.iload_n 1, 1) := by decide +kernel
theorem dX7_more_20 : decode cX7_more 20 = .ok (.imul, 1) := by decide +kernel
theorem dX7_more_21 : decode cX7_more 21 = .ok (.iload_n 2, 1) := by decide +kernel
theorem dX7_more_22 : decode cX7_more 22 = .ok (.iadd, 1) := by decide +kernel
theorem dX7_more_23 : decode cX7_more 23 = .ok (.iload 4, 2) := by decide +kernel
theorem dX7_more_25 : decode cX7_more 25 = .ok (.sipush 999, 3) := by decide +kernel
theorem dX7_more_28 : decode cX7_more 28 = .ok (.if_icmp .le 9, 3) := by decide +kernel
theorem dX7_more_31 : decode cX7_more 31 = .ok (.sipush 999, 3) := by decide +kernel
theorem dX7_more_34 : decode cX7_more 34 = .ok (.goto 5, 3) := by decide +kernel
theorem dX7_more_37 : decode cX7_more 37 = .ok (.iload 4, 2) := by decide +kernel
theorem dX7_more_39 : decode cX7_more 39 = .ok (.iastore, 1) := by decide +kernel
theorem dX7_more_40 : decode cX7_more 40 = .ok (.return_, 1) := by decide +kernel
set_option maxRecDepth 20000 in
theorem ggX7_blushOf_X7_of : GoodIn wsX7_blushOf wsX7_of := goodIn_r _ [8, 2, 9, 10, 11, 12, 13, 14, 15, 16, 17, 18, 19, 20, 21, 22, 23, 24, 25, 26, 27, 28, 29, 30, 31, 32, 33, 34, 35, 36, 37, 38, 39, 40, 41, 42, 43, 44, 45, 46, 47] (by decide +kernel) (by decide +kernel)
set_option maxRecDepth 20000 in
theorem gX7_blushOf_X7_of : GoodIn wsX7_blushOf (wsV RX7 182 RX7 yX7_of wsX7_of) := goodIn_app (goodIn_of _ (by decide +kernel)) ggX7_blushOf_X7_of
theorem dX7_blushOf_0 : decode cX7_blushOf 0 = .ok (.aload_n 0, 1) := by decide +kernel
theorem dX7_blushOf_1 : decode cX7_blushOf 1 = .ok (.getfield 26, 3) := by decide +kernel
theorem dX7_blushOf_4 : decode cX7_blushOf 4 = .ok (.iload_n 1, 1) := by decide +kernel
theorem dX7_blushOf_5 : decode cX7_blushOf 5 = .ok (.iaload, 1) := by decide +kernel
theorem dX7_blushOf_6 : decode cX7_blushOf 6 = .ok (.aload_n 0, 1) := by decide +kernel
theorem dX7_blushOf_7 : decode cX7_blushOf 7 = .ok (.getfield 13, 3) := by decide +kernel
theorem dX7_blushOf_10 : decode cX7_blushOf 10 = .ok (.bipush 16, 2) := by decide +kernel
theorem dX7_blushOf_12 : decode cX7_blushOf 12 = .ok (.iload_n 1, 1) := by decide +kernel
theorem dX7_blushOf_13 : decode cX7_blushOf 13 = .ok (.iadd, 1) := by decide +kernel
theorem dX7_blushOf_14 : decode cX7_blushOf 14 = .ok (.iaload, 1) := by decide +kernel
theorem dX7_blushOf_15 : decode cX7_blushOf 15 = .ok (.iadd, 1) := by decide +kernel
theorem dX7_blushOf_16 : decode cX7_blushOf 16 = .ok (.istore_n 2, 1) := by decide +kernel
theorem dX7_blushOf_17 : decode cX7_blushOf 17 = .ok (.aload_n 0, 1) := by decide +kernel
theorem dX7_blushOf_18 : decode cX7_blushOf 18 = .ok (.aload_n 0, 1) := by decide +kernel
theorem dX7_blushOf_19 : decode cX7_blushOf 19 = .ok (.getfield 20, 3) := by decide +kernel
theorem dX7_blushOf_22 : decode cX7_blushOf 22 = .ok (.iload_n 1, 1) := by decide +kernel
theorem dX7_blushOf_23 : decode cX7_blushOf 23 = .ok (.iaload, 1) := by decide +kernel
theorem dX7_blushOf_24 : decode cX7_blushOf 24 = .ok (.iconst 0, 1) := by decide +kernel
theorem dX7_blushOf_25 : decode cX7_blushOf 25 = .ok (.invokevirtual 182, 3) := by decide +kernel
theorem dX7_blushOf_28 : decode cX7_blushOf 28 = .ok (.istore_n 3, 1) := by decide +kernel
theorem dX7_blushOf_29 : decode cX7_blushOf 29 = .ok (.iload_n 3, 1) := by decide +kernel
theorem dX7_blushOf_30 : decode cX7_blushOf 30 = .ok (.iconst 1, 1) := by decide +kernel
theorem dX7_blushOf_31 : decode cX7_blushOf 31 = .ok (.if_icmp .ne 9, 3) := by decide +kernel
theorem dX7_blushOf_34 : decode cX7_blushOf 34 = .ok (.iconst 2, 1) := by decide +kernel
theorem dX7_blushOf_35 : decode cX7_blushOf 35 = .ok (.iload_n 2, 1) := by decide +kernel
theorem dX7_blushOf_36 : decode cX7_blushOf 36 = .ok (.imul, 1) := by decide +kernel
theorem dX7_blushOf_37 : decode cX7_blushOf 37 = .ok (.goto 15, 3) := by decide +kernel
theorem dX7_blushOf_40 : decode cX7_blushOf 40 = .ok (.iload_n 3, 1) := by decide +kernel
theorem dX7_blushOf_41 : decode cX7_blushOf 41 = .ok (.iconst 3, 1) := by decide +kernel
theorem dX7_blushOf_42 : decode cX7_blushOf 42 = .ok (.if_icmp .ne 9, 3) := by decide +kernel
theorem dX7_blushOf_45 : decode cX7_blushOf 45 = .ok (.iload_n 2, 1) := by decide +kernel
theorem dX7_blushOf_46 : decode cX7_blushOf 46 = .ok (.iconst 2, 1) := by decide +kernel
theorem dX7_blushOf_47 : decode cX7_blushOf 47 = .ok (.idiv, 1) := by decide +kernel
theorem dX7_blushOf_48 : decode cX7_blushOf 48 = .ok (.goto 4, 3) := by decide +kernel
theorem dX7_blushOf_51 : decode cX7_blushOf 51 = .ok (.iload_n 2, 1) := by decide +kernel
theorem dX7_blushOf_52 : decode cX7_blushOf 52 = .ok (.ireturn, 1) := by decide +kernel
theorem dX7_least_0 : decode cX7_least 0 = .ok (.iload_n 0, 1) := by decide +kernel
theorem dX7_least_1 : decode cX7_least 1 = .ok (.iload_n 1, 1) := by decide +kernel
theorem dX7_least_2 : decode cX7_least 2 = .ok (.if_icmp .ge 7, 3) := by decide +kernel
theorem dX7_least_5 : decode cX7_least 5 = .ok (.iload_n 0, 1) := by decide +kernel
theorem dX7_least_6 : decode cX7_least 6 = .ok (.goto 4, 3) := by decide +kernel
theorem dX7_least_9 : decode cX7_least 9 = .ok (.iload_n 1, 1) := by decide +kernel
theorem dX7_least_10 : decode cX7_least 10 = .ok (.ireturn, 1) := by decide +kernel
set_option maxRecDepth 20000 in
theorem ggX7_isAskedOf_X7_of : GoodIn wsX7_isAskedOf wsX7_of := goodIn_r _ [9, 3, 17, 18, 19, 20, 21, 22, 23, 24, 25, 26, 27, 28, 29, 30, 31, 32, 33, 34, 35, 36, 37, 38, 39, 40, 41, 42, 43, 44, 45, 46, 47, 48, 49, 50, 51, 52, 53, 54, 55] (by decide +kernel) (by decide +kernel)
set_option maxRecDepth 20000 in
theorem gX7_isAskedOf_X7_of : GoodIn wsX7_isAskedOf (wsV RX7 182 RX7 yX7_of wsX7_of) := goodIn_app (goodIn_of _ (by decide +kernel)) ggX7_isAskedOf_X7_of
set_option maxRecDepth 20000 in
theorem ggX7_isAskedOf_X7_least : GoodIn wsX7_isAskedOf wsX7_least := goodIn_r _ [12] (by decide +kernel) (by decide +kernel)
set_option maxRecDepth 20000 in
theorem gX7_isAskedOf_X7_least : GoodIn wsX7_isAskedOf (va_wsS RX7 185 yX7_least wsX7_least) := goodIn_app (goodIn_of _ (by decide +kernel)) ggX7_isAskedOf_X7_least
set_option maxRecDepth 20000 in
theorem ggX7_isAskedOf_X7_more : GoodIn wsX7_isAskedOf wsX7_more := goodIn_r _ [16, 3, 17, 18, 19, 20, 21, 22, 23, 24, 25, 26, 27, 28, 29, 30, 31, 32, 33, 34, 35, 36, 37, 38, 39, 40, 41, 42, 43, 44, 45, 46, 47, 48, 49, 50, 51, 52, 53, 54, 55] (by decide +kernel) (by decide +kernel)
set_option maxRecDepth 20000 in
theorem gX7_isAskedOf_X7_more : GoodIn wsX7_isAskedOf (wsV RX7 188 RX7 yX7_more wsX7_more) := goodIn_app (goodIn_of _ (by decide +kernel)) ggX7_isAskedOf_X7_more
theorem dX7_isAskedOf_0 : decode cX7_isAskedOf 0 = .ok (.aload_n 0, 1) := by decide +kernel
theorem dX7_isAskedOf_1 : decode cX7_isAskedOf 1 = .ok (.getfield 29, 3) := by decide +kernel
theorem dX7_isAskedOf_4 : decode cX7_isAskedOf 4 = .ok (.iload_n 1, 1) := by decide +kernel
theorem dX7_isAskedOf_5 : decode cX7_isAskedOf 5 = .ok (.iaload, 1) := by decide +kernel
theorem dX7_isAskedOf_6 : decode cX7_isAskedOf 6 = .ok (.istore_n 2, 1) := by decide +kernel
theorem dX7_isAskedOf_7 : decode cX7_isAskedOf 7 = .ok (.aload_n 0, 1) := by decide +kernel
theorem dX7_isAskedOf_8 : decode cX7_isAskedOf 8 = .ok (.iload_n 2, 1) := by decide +kernel
theorem dX7_isAskedOf_9 : decode cX7_isAskedOf 9 = .ok (.iconst 1, 1) := by decide +kernel
theorem dX7_isAskedOf_10 : decode cX7_isAskedOf 10 = .ok (.invokevirtual 182, 3) := by decide +kernel
theorem dX7_isAskedOf_13 : decode cX7_isAskedOf 13 = .ok (.aload_n 0, 1) := by decide +kernel
theorem dX7_isAskedOf_14 : decode cX7_isAskedOf 14 = .ok (.getfield 35, 3) := by decide +kernel
theorem dX7_isAskedOf_17 : decode cX7_isAskedOf 17 = .ok (.iload_n 1, 1) := by decide +kernel
theorem dX7_isAskedOf_18 : decode cX7_isAskedOf 18 = .ok (.iaload, 1) := by decide +kernel
theorem dX7_isAskedOf_19 : decode cX7_isAskedOf 19 = .ok (.invokestatic 185, 3) := by decide +kernel
theorem dX7_isAskedOf_22 : decode cX7_isAskedOf 22 = .ok (.istore_n 3, 1) := by decide +kernel
theorem dX7_isAskedOf_23 : decode cX7_isAskedOf 23 = .ok (.aload_n 0, 1) := by decide +kernel
theorem dX7_isAskedOf_24 : decode cX7_isAskedOf 24 = .ok (.getfield 35, 3) := by decide +kernel
theorem dX7_isAskedOf_27 : decode cX7_isAskedOf 27 = .ok (.iload_n 1, 1) := by decide +kernel
theorem dX7_isAskedOf_28 : decode cX7_isAskedOf 28 = .ok (.iaload, 1) := by decide +kernel
theorem dX7_isAskedOf_29 : decode cX7_isAskedOf 29 = .ok (.iload_n 3, 1) := by decide +kernel
theorem dX7_isAskedOf_30 : decode cX7_isAskedOf 30 = .ok (.isub, 1) := by decide +kernel
theorem dX7_isAskedOf_31 : decode cX7_isAskedOf 31 = .ok (.istore 4, 2) := by decide +kernel
theorem dX7_isAskedOf_33 : decode cX7_isAskedOf 33 = .ok (.iload 4, 2) := by decide +kernel
theorem dX7_isAskedOf_35 : decode cX7_isAskedOf 35 = .ok (.aload_n 0, 1) := by decide +kernel
theorem dX7_isAskedOf_36 : decode cX7_isAskedOf 36 = .ok (.iload_n 2, 1) := by decide +kernel
theorem dX7_isAskedOf_37 : decode cX7_isAskedOf 37 = .ok (.iconst 2, 1) := by decide +kernel
theorem dX7_isAskedOf_38 : decode cX7_isAskedOf 38 = .ok (.invokevirtual 182, 3) := by decide +kernel
theorem dX7_isAskedOf_41 : decode cX7_isAskedOf 41 = .ok (.aload_n 0, 1) := by decide +kernel
theorem dX7_isAskedOf_42 : decode cX7_isAskedOf 42 = .ok (.getfield 13, 3) := by decide +kernel
theorem dX7_isAskedOf_45 : decode cX7_isAskedOf 45 = .ok (.bipush 24, 2) := by decide +kernel
theorem dX7_isAskedOf_47 : decode cX7_isAskedOf 47 = .ok (.iaload, 1) := by decide +kernel
theorem dX7_isAskedOf_48 : decode cX7_isAskedOf 48 = .ok (.invokestatic 185, 3) := by decide +kernel
theorem dX7_isAskedOf_51 : decode cX7_isAskedOf 51 = .ok (.invokestatic 185, 3) := by decide +kernel
theorem dX7_isAskedOf_54 : decode cX7_isAskedOf 54 = .ok (.istore 5, 2) := by decide +kernel
theorem dX7_isAskedOf_56 : decode cX7_isAskedOf 56 = .ok (.iload 4, 2) := by decide +kernel
theorem dX7_isAskedOf_58 : decode cX7_isAskedOf 58 = .ok (.iload 5, 2) := by decide +kernel
theorem dX7_isAskedOf_60 : decode cX7_isAskedOf 60 = .ok (.isub, 1) := by decide +kernel
theorem dX7_isAskedOf_61 : decode cX7_isAskedOf 61 = .ok (.istore 4, 2) := by decide +kernel
theorem dX7_isAskedOf_63 : decode cX7_isAskedOf 63 = .ok (.aload_n 0, 1) := by decide +kernel
theorem dX7_isAskedOf_64 : decode cX7_isAskedOf 64 = .ok (.iload_n 2, 1) := by decide +kernel
theorem dX7_isAskedOf_65 : decode cX7_isAskedOf 65 = .ok (.iconst 0, 1) := by decide +kernel
theorem dX7_isAskedOf_66 : decode cX7_isAskedOf 66 = .ok (.invokevirtual 182, 3) := by decide +kernel
theorem dX7_isAskedOf_69 : decode cX7_isAskedOf 69 = .ok (.iconst 2, 1) := by decide +kernel
theorem dX7_isAskedOf_70 : decode cX7_isAskedOf 70 = .ok (.if_icmp .ne 21, 3) := by decide +kernel
theorem dX7_isAskedOf_73 : decode cX7_isAskedOf 73 = .ok (.iload 4, 2) := by decide +kernel
theorem dX7_isAskedOf_75 : decode cX7_isAskedOf 75 = .ok (.aload_n 0, 1) := by decide +kernel
theorem dX7_isAskedOf_76 : decode cX7_isAskedOf 76 = .ok (.getfield 13, 3) := by decide +kernel
theorem dX7_isAskedOf_79 : decode cX7_isAskedOf 79 = .ok (.bipush 24, 2) := by decide +kernel
theorem dX7_isAskedOf_81 : decode cX7_isAskedOf 81 = .ok (.iaload, 1) := by decide +kernel
theorem dX7_isAskedOf_82 : decode cX7_isAskedOf 82 = .ok (.iload 5, 2) := by decide +kernel
theorem dX7_isAskedOf_84 : decode cX7_isAskedOf 84 = .ok (.isub, 1) := by decide +kernel
theorem dX7_isAskedOf_85 : decode cX7_isAskedOf 85 = .ok (.invokestatic 185, 3) := by decide +kernel
theorem dX7_isAskedOf_88 : decode cX7_isAskedOf 88 = .ok (.goto 4, 3) := by decide +kernel
theorem dX7_isAskedOf_91 : decode cX7_isAskedOf 91 = .ok (.iconst 0, 1) := by decide +kernel
theorem dX7_isAskedOf_92 : decode cX7_isAskedOf 92 = .ok (.istore 6, 2) := by decide +kernel
theorem dX7_isAskedOf_94 : decode cX7_isAskedOf 94 = .ok (.iload 4, 2) := by decide +kernel
theorem dX7_isAskedOf_96 : decode cX7_isAskedOf 96 = .ok (.iload 6, 2) := by decide +kernel
theorem dX7_isAskedOf_98 : decode cX7_isAskedOf 98 = .ok (.if_icmp .le 25, 3) := by decide +kernel
theorem dX7_isAskedOf_101 : decode cX7_isAskedOf 101 = .ok (.aload_n 0, 1) := by decide +kernel
theorem dX7_isAskedOf_102 : decode cX7_isAskedOf 102 = .ok (.iload_n 2, 1) := by decide +kernel
theorem dX7_isAskedOf_103 : decode cX7_isAskedOf 103 = .ok (.iconst 3, 1) := by decide +kernel
theorem dX7_isAskedOf_104 : decode cX7_isAskedOf 104 = .ok (.iconst 1, 1) := by decide +kernel
theorem dX7_isAskedOf_105 : decode cX7_isAskedOf 105 = .ok (.invokevirtual 188, 3) := by decide +kernel
theorem dX7_isAskedOf_108 : decode cX7_isAskedOf 108 = .ok (.aload_n 0, 1) := by decide +kernel
theorem dX7_isAskedOf_109 : decode cX7_isAskedOf 109 = .ok (.dup, 1) := by decide +kernel
theorem dX7_isAskedOf_110 : decode cX7_isAskedOf 110 = .ok (.getfield 192, 3) := by decide +kernel
theorem dX7_isAskedOf_113 : decode cX7_isAskedOf 113 = .ok (.iconst 1, 1) := by decide +kernel
theorem dX7_isAskedOf_114 : decode cX7_isAskedOf 114 = .ok (.iload_n 2, 1) := by decide +kernel
theorem dX7_isAskedOf_115 : decode cX7_isAskedOf 115 = .ok (.ishl, 1) := by decide +kernel
theorem dX7_isAskedOf_116 : decode cX7_isAskedOf 116 = .ok (.ior, 1) := by decide +kernel
theorem dX7_isAskedOf_117 : decode cX7_isAskedOf 117 = .ok (.putfield 192, 3) := by decide +kernel
theorem dX7_isAskedOf_120 : decode cX7_isAskedOf 120 = .ok (.goto 35, 3) := by decide +kernel
theorem dX7_isAskedOf_123 : decode cX7_isAskedOf 123 = .ok (.aload_n 0, 1) := by decide +kernel
theorem dX7_isAskedOf_124 : decode cX7_isAskedOf 124 = .ok (.iload_n 2, 1) := by decide +kernel
theorem dX7_isAskedOf_125 : decode cX7_isAskedOf 125 = .ok (.iconst 1, 1) := by decide +kernel
theorem dX7_isAskedOf_126 : decode cX7_isAskedOf 126 = .ok (.iload_n 3, 1) := by decide +kernel
theorem dX7_isAskedOf_127 : decode cX7_isAskedOf 127 = .ok (.ineg, 1) := by decide +kernel
theorem dX7_isAskedOf_128 : decode cX7_isAskedOf 128 = .ok (.invokevirtual 188, 3) := by decide +kernel
theorem dX7_isAskedOf_131 : decode cX7_isAskedOf 131 = .ok (.aload_n 0, 1) := by decide +kernel
theorem dX7_isAskedOf_132 : decode cX7_isAskedOf 132 = .ok (.iload_n 2, 1) := by decide +kernel
theorem dX7_isAskedOf_133 : decode cX7_isAskedOf 133 = .ok (.iconst 2, 1) := by decide +kernel
theorem dX7_isAskedOf_134 : decode cX7_isAskedOf 134 = .ok (.iload 5, 2) := by decide +kernel
theorem dX7_isAskedOf_136 : decode cX7_isAskedOf 136 = .ok (.ineg, 1) := by decide +kernel
theorem dX7_isAskedOf_137 : decode cX7_isAskedOf 137 = .ok (.invokevirtual 188, 3) := by decide +kernel
theorem dX7_isAskedOf_140 : decode cX7_isAskedOf 140 = .ok (.aload_n 0, 1) := by decide +kernel
theorem dX7_isAskedOf_141 : decode cX7_isAskedOf 141 = .ok (.getfield 13, 3) := by decide +kernel
theorem dX7_isAskedOf_144 : decode cX7_isAskedOf 144 = .ok (.bipush 24, 2) := by decide +kernel
theorem dX7_isAskedOf_146 : decode cX7_isAskedOf 146 = .ok (.dup2, 1) := by decide +kernel
theorem dX7_isAskedOf_147 : decode cX7_isAskedOf 147 = .ok (.iaload, 1) := by decide +kernel
theorem dX7_isAskedOf_148 : decode cX7_isAskedOf 148 = .ok (.iload 5, 2) := by decide +kernel
theorem dX7_isAskedOf_150 : decode cX7_isAskedOf 150 = .ok (.iload 6, 2) := by decide +kernel
theorem dX7_isAskedOf_152 : decode cX7_isAskedOf 152 = .ok (.iadd, 1) := by decide +kernel
theorem dX7_isAskedOf_153 : decode cX7_isAskedOf 153 = .ok (.isub, 1) := by decide +kernel
theorem dX7_isAskedOf_154 : decode cX7_isAskedOf 154 = .ok (.iastore, 1) := by decide +kernel
theorem dX7_isAskedOf_155 : decode cX7_isAskedOf 155 = .ok (.return_, 1) := by decide +kernel
set_option maxRecDepth 20000 in
theorem ggX7_weekGoes_X7_blushOf : GoodIn wsX7_weekGoes wsX7_blushOf := goodIn_r _ [13, 14, 1, 5, 15, 16, 17, 12, 18, 32, 33, 34, 35, 36, 37, 38, 39, 40, 41, 42, 43, 44, 45, 46, 47, 48, 49, 50, 51, 52, 53, 54, 55, 56, 57, 58, 59, 60, 61, 62, 63, 64, 65, 66, 67, 68, 69, 70] (by decide +kernel) (by decide +kernel)
set_option maxRecDepth 20000 in
theorem gX7_weekGoes_X7_blushOf : GoodIn wsX7_weekGoes (wsV RX7 195 RX7 yX7_blushOf wsX7_blushOf) := goodIn_app (goodIn_of _ (by decide +kernel)) ggX7_weekGoes_X7_blushOf
set_option maxRecDepth 20000 in
theorem ggX7_weekGoes_X7_more : GoodIn wsX7_weekGoes wsX7_more := goodIn_r _ [22, 1, 32, 33, 34, 35, 36, 37, 38, 39, 40, 41, 42, 43, 44, 45, 46, 47, 48, 49, 50, 51, 52, 53, 54, 55, 56, 57, 58, 59, 60, 61, 62, 63, 64, 65, 66, 67, 68, 69, 70] (by decide +kernel) (by decide +kernel)
set_option maxRecDepth 20000 in
theorem gX7_weekGoes_X7_more : GoodIn wsX7_weekGoes (wsV RX7 188 RX7 yX7_more wsX7_more) := goodIn_app (goodIn_of _ (by decide +kernel)) ggX7_weekGoes_X7_more
set_option maxRecDepth 20000 in
theorem ggX7_weekGoes_X7_isAskedOf : GoodIn wsX7_weekGoes wsX7_isAskedOf := goodIn_r _ [26, 27, 28, 1, 2, 15, 16, 17, 12, 18, 29, 30, 31, 19, 20, 21, 22, 32, 33, 34, 35, 36, 37, 38, 39, 40, 41, 42, 43, 44, 45, 46, 47, 48, 49, 50, 51, 52, 53, 54, 55, 56, 57, 58, 59, 60, 61, 62, 63, 64, 65, 66, 67, 68, 69, 70] (by decide +kernel) (by decide +kernel)
set_option maxRecDepth 20000 in
theorem gX7_weekGoes_X7_isAskedOf : GoodIn wsX7_weekGoes (wsV RX7 198 RX7 yX7_isAskedOf wsX7_isAskedOf) := goodIn_app (goodIn_of _ (by decide +kernel)) ggX7_weekGoes_X7_isAskedOf
set_option maxRecDepth 20000 in
theorem ggX7_weekGoes_X7_of : GoodIn wsX7_weekGoes wsX7_of := goodIn_r _ [18, 1, 32, 33, 34, 35, 36, 37, 38, 39, 40, 41, 42, 43, 44, 45, 46, 47, 48, 49, 50, 51, 52, 53, 54, 55, 56, 57, 58, 59, 60, 61, 62, 63, 64, 65, 66, 67, 68, 69, 70] (by decide +kernel) (by decide +kernel)
set_option maxRecDepth 20000 in
theorem gX7_weekGoes_X7_of : GoodIn wsX7_weekGoes (wsV RX7 182 RX7 yX7_of wsX7_of) := goodIn_app (goodIn_of _ (by decide +kernel)) ggX7_weekGoes_X7_of
set_option maxRecDepth 20000 in
theorem ggX7_weekGoes_X7_least : GoodIn wsX7_weekGoes wsX7_least := goodIn_r _ [31] (by decide +kernel) (by decide +kernel)
set_option maxRecDepth 20000 in
theorem gX7_weekGoes_X7_least : GoodIn wsX7_weekGoes (va_wsS RX7 185 yX7_least wsX7_least) := goodIn_app (goodIn_of _ (by decide +kernel)) ggX7_weekGoes_X7_least
theorem dX7_weekGoes_0 : decode cX7_weekGoes 0 = .ok (.aload_n 0, 1) := by decide +kernel
theorem dX7_weekGoes_1 : decode cX7_weekGoes 1 = .ok (.getfield 13, 3) := by decide +kernel
theorem dX7_weekGoes_4 : decode cX7_weekGoes 4 = .ok (.bipush 25, 2) := by decide +kernel
theorem dX7_weekGoes_6 : decode cX7_weekGoes 6 = .ok (.iaload, 1) := by decide +kernel
theorem dX7_weekGoes_7 : decode cX7_weekGoes 7 = .ok (.istore_n 1, 1) := by decide +kernel
theorem dX7_weekGoes_8 : decode cX7_weekGoes 8 = .ok (.aload_n 0, 1) := by decide +kernel
theorem dX7_weekGoes_9 : decode cX7_weekGoes 9 = .ok (.iconst 0, 1) := by decide +kernel
theorem dX7_weekGoes_10 : decode cX7_weekGoes 10 = .ok (.putfield 192, 3) := by decide +kernel
theorem dX7_weekGoes_13 : decode cX7_weekGoes 13 = .ok (.iconst 0, 1) := by decide +kernel
theorem dX7_weekGoes_14 : decode cX7_weekGoes 14 = .ok (.istore_n 2, 1) := by decide +kernel
theorem dX7_weekGoes_15 : decode cX7_weekGoes 15 = .ok (.iload_n 2, 1) := by decide +kernel
theorem dX7_weekGoes_16 : decode cX7_weekGoes 16 = .ok (.aload_n 0, 1) := by decide +kernel
theorem dX7_weekGoes_17 : decode cX7_weekGoes 17 = .ok (.getfield 102, 3) := by decide +kernel
theorem dX7_weekGoes_20 : decode cX7_weekGoes 20 = .ok (.if_icmp .ge 54, 3) := by decide +kernel
theorem dX7_weekGoes_23 : decode cX7_weekGoes 23 = .ok (.aload_n 0, 1) := by decide +kernel
theorem dX7_weekGoes_24 : decode cX7_weekGoes 24 = .ok (.getfield 23, 3) := by decide +kernel
theorem dX7_weekGoes_27 : decode cX7_weekGoes 27 = .ok (.iload_n 2, 1) := by decide +kernel
theorem dX7_weekGoes_28 : decode cX7_weekGoes 28 = .ok (.iaload, 1) := by decide +kernel
theorem dX7_weekGoes_29 : decode cX7_weekGoes 29 = .ok (.iload_n 1, 1) := by decide +kernel
theorem dX7_weekGoes_30 : decode cX7_weekGoes 30 = .ok (.if_icmp .ne 38, 3) := by decide +kernel
theorem dX7_weekGoes_33 : decode cX7_weekGoes 33 = .ok (.aload_n 0, 1) := by decide +kernel
theorem dX7_weekGoes_34 : decode cX7_weekGoes 34 = .ok (.aload_n 0, 1) := by decide +kernel
theorem dX7_weekGoes_35 : decode cX7_weekGoes 35 = .ok (.getfield 20, 3) := by decide +kernel
theorem dX7_weekGoes_38 : decode cX7_weekGoes 38 = .ok (.iload_n 2, 1) := by decide +kernel
theorem dX7_weekGoes_39 : decode cX7_weekGoes 39 = .ok (.iaload, 1) := by decide +kernel
theorem dX7_weekGoes_40 : decode cX7_weekGoes 40 = .ok (.aload_n 0, 1) := by decide +kernel
theorem dX7_weekGoes_41 : decode cX7_weekGoes 41 = .ok (.getfield 13, 3) := by decide +kernel
theorem dX7_weekGoes_44 : decode cX7_weekGoes 44 = .ok (.bipush 22, 2) := by decide +kernel
theorem dX7_weekGoes_46 : decode cX7_weekGoes 46 = .ok (.iaload, 1) := by decide +kernel
theorem dX7_weekGoes_47 : decode cX7_weekGoes 47 = .ok (.iload_n 2, 1) := by decide +kernel
theorem dX7_weekGoes_48 : decode cX7_weekGoes 48 = .ok (.ishr, 1) := by decide +kernel
theorem dX7_weekGoes_49 : decode cX7_weekGoes 49 = .ok (.iconst 1, 1) := by decide +kernel
theorem dX7_weekGoes_50 : decode cX7_weekGoes 50 = .ok (.iand, 1) := by decide +kernel
theorem dX7_weekGoes_51 : decode cX7_weekGoes 51 = .ok (.iconst 1, 1) := by decide +kernel
theorem dX7_weekGoes_52 : decode cX7_weekGoes 52 = .ok (.if_icmp .ne 7, 3) := by decide +kernel
theorem dX7_weekGoes_55 : decode cX7_weekGoes 55 = .ok (.iconst 2, 1) := by decide +kernel
theorem dX7_weekGoes_56 : decode cX7_weekGoes 56 = .ok (.goto 4, 3) := by decide +kernel
theorem dX7_weekGoes_59 : decode cX7_weekGoes 59 = .ok (.iconst 1, 1) := by decide +kernel
theorem dX7_weekGoes_60 : decode cX7_weekGoes 60 = .ok (.aload_n 0, 1) := by decide +kernel
theorem dX7_weekGoes_61 : decode cX7_weekGoes 61 = .ok (.iload_n 2, 1) := by decide +kernel
theorem dX7_weekGoes_62 : decode cX7_weekGoes 62 = .ok (.invokevirtual 195, 3) := by decide +kernel
theorem dX7_weekGoes_65 : decode cX7_weekGoes 65 = .ok (.invokevirtual 188, 3) := by decide +kernel
theorem dX7_weekGoes_68 : decode cX7_weekGoes 68 = .ok (.iinc 2 1, 3) := by decide +kernel
theorem dX7_weekGoes_71 : decode cX7_weekGoes 71 = .ok (.goto (-56), 3) := by decide +kernel
theorem dX7_weekGoes_74 : decode cX7_weekGoes 74 = .ok (.iconst 0, 1) := by decide +kernel
theorem dX7_weekGoes_75 : decode cX7_weekGoes 75 = .ok (.istore_n 2, 1) := by decide +kernel
theorem dX7_weekGoes_76 : decode cX7_weekGoes 76 = .ok (.iload_n 2, 1) := by decide +kernel
theorem dX7_weekGoes_77 : decode cX7_weekGoes 77 = .ok (.aload_n 0, 1) := by decide +kernel
theorem dX7_weekGoes_78 : decode cX7_weekGoes 78 = .ok (.getfield 105, 3) := by decide +kernel
theorem dX7_weekGoes_81 : decode cX7_weekGoes 81 = .ok (.if_icmp .ge 24, 3) := by decide +kernel
theorem dX7_weekGoes_84 : decode cX7_weekGoes 84 = .ok (.aload_n 0, 1) := by decide +kernel
theorem dX7_weekGoes_85 : decode cX7_weekGoes 85 = .ok (.getfield 32, 3) := by decide +kernel
theorem dX7_weekGoes_88 : decode cX7_weekGoes 88 = .ok (.iload_n 2, 1) := by decide +kernel
theorem dX7_weekGoes_89 : decode cX7_weekGoes 89 = .ok (.iaload, 1) := by decide +kernel
theorem dX7_weekGoes_90 : decode cX7_weekGoes 90 = .ok (.iload_n 1, 1) := by decide +kernel
theorem dX7_weekGoes_91 : decode cX7_weekGoes 91 = .ok (.if_icmp .ne 8, 3) := by decide +kernel
theorem dX7_weekGoes_94 : decode cX7_weekGoes 94 = .ok (.aload_n 0, 1) := by decide +kernel
theorem dX7_weekGoes_95 : decode cX7_weekGoes 95 = .ok (.iload_n 2, 1) := by decide +kernel
theorem dX7_weekGoes_96 : decode cX7_weekGoes 96 = .ok (.invokevirtual 198, 3) := by decide +kernel
theorem dX7_weekGoes_99 : decode cX7_weekGoes 99 = .ok (.iinc 2 1, 3) := by decide +kernel
theorem dX7_weekGoes_102 : decode cX7_weekGoes 102 = .ok (.goto (-26), 3) := by decide +kernel
theorem dX7_weekGoes_105 : decode cX7_weekGoes 105 = .ok (.iconst 0, 1) := by decide +kernel
theorem dX7_weekGoes_106 : decode cX7_weekGoes 106 = .ok (.istore_n 2, 1) := by decide +kernel
theorem dX7_weekGoes_107 : decode cX7_weekGoes 107 = .ok (.iload_n 2, 1) := by decide +kernel
theorem dX7_weekGoes_108 : decode cX7_weekGoes 108 = .ok (.aload_n 0, 1) := by decide +kernel
theorem dX7_weekGoes_109 : decode cX7_weekGoes 109 = .ok (.getfield 99, 3) := by decide +kernel
theorem dX7_weekGoes_112 : decode cX7_weekGoes 112 = .ok (.if_icmp .ge 70, 3) := by decide +kernel
theorem dX7_weekGoes_115 : decode cX7_weekGoes 115 = .ok (.aload_n 0, 1) := by decide +kernel
theorem dX7_weekGoes_116 : decode cX7_weekGoes 116 = .ok (.iload_n 2, 1) := by decide +kernel
theorem dX7_weekGoes_117 : decode cX7_weekGoes 117 = .ok (.iconst 1, 1) := by decide +kernel
theorem dX7_weekGoes_118 : decode cX7_weekGoes 118 = .ok (.aload_n 0, 1) := by decide +kernel
theorem dX7_weekGoes_119 : decode cX7_weekGoes 119 = .ok (.iload_n 2, 1) := by decide +kernel
theorem dX7_weekGoes_120 : decode cX7_weekGoes 120 = .ok (.iconst 1, 1) := by decide +kernel
theorem dX7_weekGoes_121 : decode cX7_weekGoes 121 = .ok (.invokevirtual 182, 3) := by decide +kernel
theorem dX7_weekGoes_124 : decode cX7_weekGoes 124 = .ok (.bipush 10, 2) := by decide +kernel
theorem dX7_weekGoes_126 : decode cX7_weekGoes 126 = .ok (.iadd, 1) := by decide +kernel
theorem dX7_weekGoes_127 : decode cX7_weekGoes 127 = .ok (.iconst 1, 1) := by decide +kernel
theorem dX7_weekGoes_128 : decode cX7_weekGoes 128 = .ok (.isub, 1) := by decide +kernel
theorem dX7_weekGoes_129 : decode cX7_weekGoes 129 = .ok (.bipush 10, 2) := by decide +kernel
theorem dX7_weekGoes_131 : decode cX7_weekGoes 131 = .ok (.idiv, 1) := by decide +kernel
theorem dX7_weekGoes_132 : decode cX7_weekGoes 132 = .ok (.ineg, 1) := by decide +kernel
theorem dX7_weekGoes_133 : decode cX7_weekGoes 133 = .ok (.invokevirtual 188, 3) := by decide +kernel
theorem dX7_weekGoes_136 : decode cX7_weekGoes 136 = .ok (.aload_n 0, 1) := by decide +kernel
theorem dX7_weekGoes_137 : decode cX7_weekGoes 137 = .ok (.getfield 13, 3) := by decide +kernel
theorem dX7_weekGoes_140 : decode cX7_weekGoes 140 = .ok (.iconst 4, 1) := by decide +kernel
theorem dX7_weekGoes_141 : decode cX7_weekGoes 141 = .ok (.iload_n 2, 1) := by decide +kernel
theorem dX7_weekGoes_142 : decode cX7_weekGoes 142 = .ok (.imul, 1) := by decide +kernel
theorem dX7_weekGoes_143 : decode cX7_weekGoes 143 = .ok (.iconst 2, 1) := by decide +kernel
theorem dX7_weekGoes_144 : decode cX7_weekGoes 144 = .ok (.iadd, 1) := by decide +kernel
theorem dX7_weekGoes_145 : decode cX7_weekGoes 145 = .ok (.sipush 999, 3) := by decide +kernel
theorem dX7_weekGoes_148 : decode cX7_weekGoes 148 = .ok (.aload_n 0, 1) := by decide +kernel
theorem dX7_weekGoes_149 : decode cX7_weekGoes 149 = .ok (.iload_n 2, 1) := by decide +kernel
theorem dX7_weekGoes_150 : decode cX7_weekGoes 150 = .ok (.iconst 2, 1) := by decide +kernel
theorem dX7_weekGoes_151 : decode cX7_weekGoes 151 = .ok (.invokevirtual 182, 3) := by decide +kernel
theorem dX7_weekGoes_154 : decode cX7_weekGoes 154 = .ok (.aload_n 0, 1) := by decide +kernel
theorem dX7_weekGoes_155 : decode cX7_weekGoes 155 = .ok (.iload_n 2, 1) := by decide +kernel
theorem dX7_weekGoes_156 : decode cX7_weekGoes 156 = .ok (.iconst 2, 1) := by decide +kernel
theorem dX7_weekGoes_157 : decode cX7_weekGoes 157 = .ok (.invokevirtual 182, 3) := by decide +kernel
theorem dX7_weekGoes_160 : decode cX7_weekGoes 160 = .ok (.aload_n 0, 1) := by decide +kernel
theorem dX7_weekGoes_161 : decode cX7_weekGoes 161 = .ok (.getfield 13, 3) := by decide +kernel
theorem dX7_weekGoes_164 : decode cX7_weekGoes 164 = .ok (.bipush 23, 2) := by decide +kernel
theorem dX7_weekGoes_166 : decode cX7_weekGoes 166 = .ok (.iaload, 1) := by decide +kernel
theorem dX7_weekGoes_167 : decode cX7_weekGoes 167 = .ok (.imul, 1) := by decide +kernel
theorem dX7_weekGoes_168 : decode cX7_weekGoes 168 = .ok (.bipush 10, 2) := by decide +kernel
theorem dX7_weekGoes_170 : decode cX7_weekGoes 170 = .ok (.idiv, 1) := by decide +kernel
theorem dX7_weekGoes_171 : decode cX7_weekGoes 171 = .ok (.iadd, 1) := by decide +kernel
theorem dX7_weekGoes_172 : decode cX7_weekGoes 172 = .ok (.invokestatic 185, 3) := by decide +kernel
theorem dX7_weekGoes_175 : decode cX7_weekGoes 175 = .ok (.iastore, 1) := by decide +kernel
theorem dX7_weekGoes_176 : decode cX7_weekGoes 176 = .ok (.iinc 2 1, 3) := by decide +kernel
theorem dX7_weekGoes_179 : decode cX7_weekGoes 179 = .ok (.goto (-72), 3) := by decide +kernel
theorem dX7_weekGoes_182 : decode cX7_weekGoes 182 = .ok (.aload_n 0, 1) := by decide +kernel
theorem dX7_weekGoes_183 : decode cX7_weekGoes 183 = .ok (.getfield 13, 3) := by decide +kernel
theorem dX7_weekGoes_186 : decode cX7_weekGoes 186 = .ok (.bipush 24, 2) := by decide +kernel
theorem dX7_weekGoes_188 : decode cX7_weekGoes 188 = .ok (.aload_n 0, 1) := by decide +kernel
theorem dX7_weekGoes_189 : decode cX7_weekGoes 189 = .ok (.getfield 13, 3) := by decide +kernel
theorem dX7_weekGoes_192 : decode cX7_weekGoes 192 = .ok (.bipush 24, 2) := by decide +kernel
theorem dX7_weekGoes_194 : decode cX7_weekGoes 194 = .ok (.iaload, 1) := by decide +kernel
theorem dX7_weekGoes_195 : decode cX7_weekGoes 195 = .ok (.bipush 99, 2) := by decide +kernel
theorem dX7_weekGoes_197 : decode cX7_weekGoes 197 = .ok (.if_icmp .ge 15, 3) := by decide +kernel
theorem dX7_weekGoes_200 : decode cX7_weekGoes 200 = .ok (.aload_n 0, 1) := by decide +kernel
theorem dX7_weekGoes_201 : decode cX7_weekGoes 201 = .ok (.getfield 13, 3) := by decide +kernel
theorem dX7_weekGoes_204 : decode cX7_weekGoes 204 = .ok (.bipush 24, 2) := by decide +kernel
theorem dX7_weekGoes_206 : decode cX7_weekGoes 206 = .ok (.iaload, 1) := by decide +kernel
theorem dX7_weekGoes_207 : decode cX7_weekGoes 207 = .ok (.iconst 1, 1) := by decide +kernel
theorem dX7_weekGoes_208 : decode cX7_weekGoes 208 = .ok (.iadd, 1) := by decide +kernel
theorem dX7_weekGoes_209 : decode cX7_weekGoes 209 = .ok (.goto 10, 3) := by decide +kernel
theorem dX7_weekGoes_212 : decode cX7_weekGoes 212 = .ok (.aload_n 0, 1) := by decide +kernel
theorem dX7_weekGoes_213 : decode cX7_weekGoes 213 = .ok (.getfield 13, 3) := by decide +kernel
theorem dX7_weekGoes_216 : decode cX7_weekGoes 216 = .ok (.bipush 24, 2) := by decide +kernel
theorem dX7_weekGoes_218 : decode cX7_weekGoes 218 = .ok (.iaload, 1) := by decide +kernel
theorem dX7_weekGoes_219 : decode cX7_weekGoes 219 = .ok (.iastore, 1) := by decide +kernel
theorem dX7_weekGoes_220 : decode cX7_weekGoes 220 = .ok (.aload_n 0, 1) := by decide +kernel
theorem dX7_weekGoes_221 : decode cX7_weekGoes 221 = .ok (.getfield 13, 3) := by decide +kernel
theorem dX7_weekGoes_224 : decode cX7_weekGoes 224 = .ok (.bipush 25, 2) := by decide +kernel
theorem dX7_weekGoes_226 : decode cX7_weekGoes 226 = .ok (.dup2, 1) := by decide +kernel
theorem dX7_weekGoes_227 : decode cX7_weekGoes 227 = .ok (.iaload, 1) := by decide +kernel
theorem dX7_weekGoes_228 : decode cX7_weekGoes 228 = .ok (.iconst 1, 1) := by decide +kernel
theorem dX7_weekGoes_229 : decode cX7_weekGoes 229 = .ok (.iadd, 1) := by decide +kernel
theorem dX7_weekGoes_230 : decode cX7_weekGoes 230 = .ok (.iastore, 1) := by decide +kernel
theorem dX7_weekGoes_231 : decode cX7_weekGoes 231 = .ok (.return_, 1) := by decide +kernel
set_option maxRecDepth 20000 in
theorem ggX7_weeksGo_X7_weekGoes : GoodIn wsX7_weeksGo wsX7_weekGoes := goodIn_r _ [5, 6, 7, 8, 9, 10, 11, 12, 13, 14, 15, 16, 4, 17, 18, 19, 20, 21, 22, 23, 24, 25, 26, 27, 28, 29, 30, 31, 32, 33, 34, 35, 36, 37, 38, 39, 40, 41, 42, 43, 44, 45, 46, 47, 48, 49, 50, 51, 52, 53, 54, 55, 56, 57, 58, 59, 60, 61, 62, 63, 64, 65, 66, 67, 68, 69, 70, 71, 72, 73, 74] (by decide +kernel) (by decide +kernel)
set_option maxRecDepth 20000 in
theorem gX7_weeksGo_X7_weekGoes : GoodIn wsX7_weeksGo (wsV RX7 201 RX7 yX7_weekGoes wsX7_weekGoes) := goodIn_app (goodIn_of _ (by decide +kernel)) ggX7_weeksGo_X7_weekGoes
theorem dX7_weeksGo_0 : decode cX7_weeksGo 0 = .ok (.iconst 0, 1) := by decide +kernel
theorem dX7_weeksGo_1 : decode cX7_weeksGo 1 = .ok (.istore_n 2, 1) := by decide +kernel
theorem dX7_weeksGo_2 : decode cX7_weeksGo 2 = .ok (.iload_n 2, 1) := by decide +kernel
theorem dX7_weeksGo_3 : decode cX7_weeksGo 3 = .ok (.iload_n 1, 1) := by decide +kernel
theorem dX7_weeksGo_4 : decode cX7_weeksGo 4 = .ok (.if_icmp .ge 13, 3) := by decide +kernel
theorem dX7_weeksGo_7 : decode cX7_weeksGo 7 = .ok (.aload_n 0, 1) := by decide +kernel
theorem dX7_weeksGo_8 : decode cX7_weeksGo 8 = .ok (.invokevirtual 201, 3) := by decide +kernel
theorem dX7_weeksGo_11 : decode cX7_weeksGo 11 = .ok (.iinc 2 1, 3) := by decide +kernel
theorem dX7_weeksGo_14 : decode cX7_weeksGo 14 = .ok (.goto (-12), 3) := by decide +kernel
theorem dX7_weeksGo_17 : decode cX7_weeksGo 17 = .ok (.return_, 1) := by decide +kernel
theorem dX7_weeksLeft_0 : decode cX7_weeksLeft 0 = .ok (.aload_n 0, 1) := by decide +kernel
theorem dX7_weeksLeft_1 : decode cX7_weeksLeft 1 = .ok (.getfield 7, 3) := by decide +kernel
theorem dX7_weeksLeft_4 : decode cX7_weeksLeft 4 = .ok (.bipush 25, 2) := by decide +kernel
theorem dX7_weeksLeft_6 : decode cX7_weeksLeft 6 = .ok (.iaload, 1) := by decide +kernel
theorem dX7_weeksLeft_7 : decode cX7_weeksLeft 7 = .ok (.bipush 10, 2) := by decide +kernel
theorem dX7_weeksLeft_9 : decode cX7_weeksLeft 9 = .ok (.if_icmp .ge 16, 3) := by decide +kernel
theorem dX7_weeksLeft_12 : decode cX7_weeksLeft 12 = .ok (.bipush 10, 2) := by decide +kernel
theorem dX7_weeksLeft_14 : decode cX7_weeksLeft 14 = .ok (.aload_n 0, 1) := by decide +kernel
theorem dX7_weeksLeft_15 : decode cX7_weeksLeft 15 = .ok (.getfield 7, 3) := by decide +kernel
theorem dX7_weeksLeft_18 : decode cX7_weeksLeft 18 = .ok (.bipush 25, 2) := by decide +kernel
theorem dX7_weeksLeft_20 : decode cX7_weeksLeft 20 = .ok (.iaload, 1) := by decide +kernel
theorem dX7_weeksLeft_21 : decode cX7_weeksLeft 21 = .ok (.isub, 1) := by decide +kernel
theorem dX7_weeksLeft_22 : decode cX7_weeksLeft 22 = .ok (.goto 4, 3) := by decide +kernel
theorem dX7_weeksLeft_25 : decode cX7_weeksLeft 25 = .ok (.iconst 0, 1) := by decide +kernel
theorem dX7_weeksLeft_26 : decode cX7_weeksLeft 26 = .ok (.ireturn, 1) := by decide +kernel
set_option maxRecDepth 20000 in
theorem ggX7_brazenMore_X7_of : GoodIn wsX7_brazenMore wsX7_of := goodIn_r _ [7, 8, 9, 10, 11, 12, 13, 14, 15, 16, 17, 18, 19, 20, 21, 22, 23, 24, 25, 26, 27, 28, 29, 30, 31, 32, 33, 34, 35, 36, 37, 38, 39, 40, 41, 42, 43, 44, 45, 46, 47] (by decide +kernel) (by decide +kernel)
set_option maxRecDepth 20000 in
theorem gX7_brazenMore_X7_of : GoodIn wsX7_brazenMore (wsV RX7 182 RX7 yX7_of wsX7_of) := goodIn_app (goodIn_of _ (by decide +kernel)) ggX7_brazenMore_X7_of
theorem dX7_brazenMore_0 : decode cX7_brazenMore 0 = .ok (.iconst 0, 1) := by decide +kernel
theorem dX7_brazenMore_1 : decode cX7_brazenMore 1 = .ok (.istore_n 1, 1) := by decide +kernel
theorem dX7_brazenMore_2 : decode cX7_brazenMore 2 = .ok (.iconst 0, 1) := by decide +kernel
theorem dX7_brazenMore_3 : decode cX7_brazenMore 3 = .ok (.istore_n 2, 1) := by decide +kernel
theorem dX7_brazenMore_4 : decode cX7_brazenMore 4 = .ok (.iload_n 2, 1) := by decide +kernel
theorem dX7_brazenMore_5 : decode cX7_brazenMore 5 = .ok (.aload_n 0, 1) := by decide +kernel
theorem dX7_brazenMore_6 : decode cX7_brazenMore 6 = .ok (.getfield 99, 3) := by decide +kernel
theorem dX7_brazenMore_9 : decode cX7_brazenMore 9 = .ok (.if_icmp .ge 29, 3) := by decide +kernel
theorem dX7_brazenMore_12 : decode cX7_brazenMore 12 = .ok (.iload_n 1, 1) := by decide +kernel
theorem dX7_brazenMore_13 : decode cX7_brazenMore 13 = .ok (.aload_n 0, 1) := by decide +kernel
theorem dX7_brazenMore_14 : decode cX7_brazenMore 14 = .ok (.iload_n 2, 1) := by decide +kernel
theorem dX7_brazenMore_15 : decode cX7_brazenMore 15 = .ok (.iconst 3, 1) := by decide +kernel
theorem dX7_brazenMore_16 : decode cX7_brazenMore 16 = .ok (.invokevirtual 182, 3) := by decide +kernel
theorem dX7_brazenMore_19 : decode cX7_brazenMore 19 = .ok (.aload_n 0, 1) := by decide +kernel
theorem dX7_brazenMore_20 : decode cX7_brazenMore 20 = .ok (.getfield 7, 3) := by decide +kernel
theorem dX7_brazenMore_23 : decode cX7_brazenMore 23 = .ok (.iconst 4, 1) := by decide +kernel
theorem dX7_brazenMore_24 : decode cX7_brazenMore 24 = .ok (.iload_n 2, 1) := by decide +kernel
theorem dX7_brazenMore_25 : decode cX7_brazenMore 25 = .ok (.imul, 1) := by decide +kernel
theorem dX7_brazenMore_26 : decode cX7_brazenMore 26 = .ok (.iconst 3, 1) := by decide +kernel
theorem dX7_brazenMore_27 : decode cX7_brazenMore 27 = .ok (.iadd, 1) := by decide +kernel
theorem dX7_brazenMore_28 : decode cX7_brazenMore 28 = .ok (.iaload, 1) := by decide +kernel
theorem dX7_brazenMore_29 : decode cX7_brazenMore 29 = .ok (.isub, 1) := by decide +kernel
theorem dX7_brazenMore_30 : decode cX7_brazenMore 30 = .ok (.iadd, 1) := by decide +kernel
theorem dX7_brazenMore_31 : decode cX7_brazenMore 31 = .ok (.istore_n 1, 1) := by decide +kernel
theorem dX7_brazenMore_32 : decode cX7_brazenMore 32 = .ok (.iinc 2 1, 3) := by decide +kernel
theorem dX7_brazenMore_35 : decode cX7_brazenMore 35 = .ok (.goto (-31), 3) := by decide +kernel
theorem dX7_brazenMore_38 : decode cX7_brazenMore 38 = .ok (.iload_n 1, 1) := by decide +kernel
theorem dX7_brazenMore_39 : decode cX7_brazenMore 39 = .ok (.ireturn, 1) := by decide +kernel
set_option maxRecDepth 20000 in
theorem ggX7_brazenIn_X7_weeksGo : GoodIn wsX7_brazenIn wsX7_weeksGo := goodIn_r _ [5, 6, 7, 8, 4, 9, 10, 11, 12, 13, 14, 15, 16, 17, 18, 19, 20, 21, 22, 23, 24, 25, 26, 27, 28, 29, 30, 31, 32, 33, 34, 35, 36, 37, 38, 39, 45, 46, 47, 48, 49, 50, 51, 52, 53, 54, 55, 56, 57, 58, 59, 60, 61, 62, 63, 64, 65, 66, 67, 68, 69, 70, 71, 72, 73, 74, 75, 76, 77, 78, 79, 80, 81, 82, 83] (by decide +kernel) (by decide +kernel)
set_option maxRecDepth 20000 in
theorem gX7_brazenIn_X7_weeksGo : GoodIn wsX7_brazenIn (wsV RX7 204 RX7 yX7_weeksGo wsX7_weeksGo) := goodIn_app (goodIn_of _ (by decide +kernel)) ggX7_brazenIn_X7_weeksGo
set_option maxRecDepth 20000 in
theorem ggX7_brazenIn_X7_brazenMore : GoodIn wsX7_brazenIn wsX7_brazenMore := goodIn_r _ [43, 17, 44, 23, 24, 25, 4, 26, 10, 45, 46, 47, 48, 49, 50, 51, 52, 53, 54, 55, 56, 57, 58, 59, 60, 61, 62, 63, 64, 65, 66, 67, 68, 69, 70, 71, 72, 73, 74, 75, 76, 77, 78, 79, 80, 81, 82, 83] (by decide +kernel) (by decide +kernel)
set_option maxRecDepth 20000 in
theorem gX7_brazenIn_X7_brazenMore : GoodIn wsX7_brazenIn (wsV RX7 207 RX7 yX7_brazenMore wsX7_brazenMore) := goodIn_app (goodIn_of _ (by decide +kernel)) ggX7_brazenIn_X7_brazenMore
theorem dX7_brazenIn_0 : decode cX7_brazenIn 0 = .ok (.aload_n 0, 1) := by decide +kernel
theorem dX7_brazenIn_1 : decode cX7_brazenIn 1 = .ok (.iload_n 1, 1) := by decide +kernel
theorem dX7_brazenIn_2 : decode cX7_brazenIn 2 = .ok (.invokevirtual 204, 3) := by decide +kernel
theorem dX7_brazenIn_5 : decode cX7_brazenIn 5 = .ok (.aload_n 0, 1) := by decide +kernel
theorem dX7_brazenIn_6 : decode cX7_brazenIn 6 = .ok (.invokevirtual 207, 3) := by decide +kernel
theorem dX7_brazenIn_9 : decode cX7_brazenIn 9 = .ok (.ireturn, 1) := by decide +kernel
theorem dX7_rule_0 : decode cX7_rule 0 = .ok (.iload_n 1, 1) := by decide +kernel
theorem dX7_rule_1 : decode cX7_rule 1 = .ok (.tableswitch 90 0 6 #[43, 48, 53, 58, 66, 74, 82], 43) := by decide +kernel
theorem dX7_rule_44 : decode cX7_rule 44 = .ok (.aload_n 0, 1) := by decide +kernel
theorem dX7_rule_45 : decode cX7_rule 45 = .ok (.getfield 99, 3) := by decide +kernel
theorem dX7_rule_48 : decode cX7_rule 48 = .ok (.ireturn, 1) := by decide +kernel
theorem dX7_rule_49 : decode cX7_rule 49 = .ok (.aload_n 0, 1) := by decide +kernel
theorem dX7_rule_50 : decode cX7_rule 50 = .ok (.getfield 102, 3) := by decide +kernel
theorem dX7_rule_53 : decode cX7_rule 53 = .ok (.ireturn, 1) := by decide +kernel
theorem dX7_rule_54 : decode cX7_rule 54 = .ok (.aload_n 0, 1) := by decide +kernel
theorem dX7_rule_55 : decode cX7_rule 55 = .ok (.getfield 105, 3) := by decide +kernel
theorem dX7_rule_58 : decode cX7_rule 58 = .ok (.ireturn, 1) := by decide +kernel
theorem dX7_rule_59 : decode cX7_rule 59 = .ok (.aload_n 0, 1) := by decide +kernel
theorem dX7_rule_60 : decode cX7_rule 60 = .ok (.getfield 7, 3) := by decide +kernel
theorem dX7_rule_63 : decode cX7_rule 63 = .ok (.bipush 23, 2) := by decide +kernel
theorem dX7_rule_65 : decode cX7_rule 65 = .ok (.iaload, 1) := by decide +kernel
theorem dX7_rule_66 : decode cX7_rule 66 = .ok (.ireturn, 1) := by decide +kernel
theorem dX7_rule_67 : decode cX7_rule 67 = .ok (.aload_n 0, 1) := by decide +kernel
theorem dX7_rule_68 : decode cX7_rule 68 = .ok (.getfield 7, 3) := by decide +kernel
theorem dX7_rule_71 : decode cX7_rule 71 = .ok (.bipush 24, 2) := by decide +kernel
theorem dX7_rule_73 : decode cX7_rule 73 = .ok (.iaload, 1) := by decide +kernel
theorem dX7_rule_74 : decode cX7_rule 74 = .ok (.ireturn, 1) := by decide +kernel
theorem dX7_rule_75 : decode cX7_rule 75 = .ok (.aload_n 0, 1) := by decide +kernel
theorem dX7_rule_76 : decode cX7_rule 76 = .ok (.getfield 7, 3) := by decide +kernel
theorem dX7_rule_79 : decode cX7_rule 79 = .ok (.bipush 25, 2) := by decide +kernel
theorem dX7_rule_81 : decode cX7_rule 81 = .ok (.iaload, 1) := by decide +kernel
theorem dX7_rule_82 : decode cX7_rule 82 = .ok (.ireturn, 1) := by decide +kernel
theorem dX7_rule_83 : decode cX7_rule 83 = .ok (.aload_n 0, 1) := by decide +kernel
theorem dX7_rule_84 : decode cX7_rule 84 = .ok (.getfield 7, 3) := by decide +kernel
theorem dX7_rule_87 : decode cX7_rule 87 = .ok (.bipush 22, 2) := by decide +kernel
theorem dX7_rule_89 : decode cX7_rule 89 = .ok (.iaload, 1) := by decide +kernel
theorem dX7_rule_90 : decode cX7_rule 90 = .ok (.ireturn, 1) := by decide +kernel
theorem dX7_rule_91 : decode cX7_rule 91 = .ok (.iconst (-1), 1) := by decide +kernel
theorem dX7_rule_92 : decode cX7_rule 92 = .ok (.ireturn, 1) := by decide +kernel
set_option maxRecDepth 20000 in
theorem ggX7_one_X7_isOne : GoodIn wsX7_one wsX7_isOne := goodIn_r _ [7, 8, 9, 10, 6, 11, 12, 13, 14, 15, 16, 17, 18, 19, 20, 21, 22, 23, 24, 25, 26, 27, 28, 29, 30, 31, 32, 33, 34, 35, 36, 37, 38, 39, 40, 41, 42, 43, 44, 45, 46, 47, 48, 49, 50] (by decide +kernel) (by decide +kernel)
set_option maxRecDepth 20000 in
theorem gX7_one_X7_isOne : GoodIn wsX7_one (wsV RX7 210 RX7 yX7_isOne wsX7_isOne) := goodIn_app (goodIn_of _ (by decide +kernel)) ggX7_one_X7_isOne
set_option maxRecDepth 20000 in
theorem ggX7_one_X7_in : GoodIn wsX7_one wsX7_in := goodIn_r _ [11] (by decide +kernel) (by decide +kernel)
set_option maxRecDepth 20000 in
theorem gX7_one_X7_in : GoodIn wsX7_one (va_wsS RX7 110 yX7_in wsX7_in) := goodIn_app (goodIn_of _ (by decide +kernel)) ggX7_one_X7_in
theorem dX7_one_0 : decode cX7_one 0 = .ok (.aload_n 0, 1) := by decide +kernel
theorem dX7_one_1 : decode cX7_one 1 = .ok (.iload_n 1, 1) := by decide +kernel
theorem dX7_one_2 : decode cX7_one 2 = .ok (.invokevirtual 210, 3) := by decide +kernel
theorem dX7_one_5 : decode cX7_one 5 = .ok (.ifCond .eq 28, 3) := by decide +kernel
theorem dX7_one_8 : decode cX7_one 8 = .ok (.iload_n 2, 1) := by decide +kernel
theorem dX7_one_9 : decode cX7_one 9 = .ok (.i2l, 1) := by decide +kernel
theorem dX7_one_10 : decode cX7_one 10 = .ok (.lconst 0, 1) := by decide +kernel
theorem dX7_one_11 : decode cX7_one 11 = .ok (.ldc2_w 173, 3) := by decide +kernel
theorem dX7_one_14 : decode cX7_one 14 = .ok (.invokestatic 110, 3) := by decide +kernel
theorem dX7_one_17 : decode cX7_one 17 = .ok (.ifCond .eq 16, 3) := by decide +kernel
theorem dX7_one_20 : decode cX7_one 20 = .ok (.aload_n 0, 1) := by decide +kernel
theorem dX7_one_21 : decode cX7_one 21 = .ok (.getfield 7, 3) := by decide +kernel
theorem dX7_one_24 : decode cX7_one 24 = .ok (.iconst 4, 1) := by decide +kernel
theorem dX7_one_25 : decode cX7_one 25 = .ok (.iload_n 1, 1) := by decide +kernel
theorem dX7_one_26 : decode cX7_one 26 = .ok (.imul, 1) := by decide +kernel
theorem dX7_one_27 : decode cX7_one 27 = .ok (.iload_n 2, 1) := by decide +kernel
theorem dX7_one_28 : decode cX7_one 28 = .ok (.iadd, 1) := by decide +kernel
theorem dX7_one_29 : decode cX7_one 29 = .ok (.iaload, 1) := by decide +kernel
theorem dX7_one_30 : decode cX7_one 30 = .ok (.goto 4, 3) := by decide +kernel
theorem dX7_one_33 : decode cX7_one 33 = .ok (.iconst (-1), 1) := by decide +kernel
theorem dX7_one_34 : decode cX7_one 34 = .ok (.ireturn, 1) := by decide +kernel
set_option maxRecDepth 20000 in
theorem ggX7_trip_X7_isTrip : GoodIn wsX7_trip wsX7_isTrip := goodIn_r _ [9, 10, 11, 12, 8, 13, 27, 28, 29, 30, 31, 32, 33, 34, 35, 36, 37, 38, 39, 40, 41, 42, 43, 44, 45, 46, 47, 48, 49, 50, 51, 52, 53, 54, 55, 56, 57, 58, 59, 60, 61, 62, 63, 64, 65] (by decide +kernel) (by decide +kernel)
set_option maxRecDepth 20000 in
theorem gX7_trip_X7_isTrip : GoodIn wsX7_trip (wsV RX7 214 RX7 yX7_isTrip wsX7_isTrip) := goodIn_app (goodIn_of _ (by decide +kernel)) ggX7_trip_X7_isTrip
set_option maxRecDepth 20000 in
theorem ggX7_trip_X7_starts : GoodIn wsX7_trip wsX7_starts := goodIn_r _ [17, 18, 4, 27, 28, 29, 30, 31, 32, 33, 34, 35, 36, 37, 38, 39, 40, 41, 42, 43, 44, 45, 46, 47, 48, 49, 50, 51, 52, 53, 54, 55, 56, 57, 58, 59, 60, 61, 62, 63, 64, 65] (by decide +kernel) (by decide +kernel)
set_option maxRecDepth 20000 in
theorem gX7_trip_X7_starts : GoodIn wsX7_trip (wsV RX7 217 RX7 yX7_starts wsX7_starts) := goodIn_app (goodIn_of _ (by decide +kernel)) ggX7_trip_X7_starts
set_option maxRecDepth 20000 in
theorem ggX7_trip_X7_blushOf : GoodIn wsX7_trip wsX7_blushOf := goodIn_r _ [22, 3, 18, 1, 23, 24, 25, 8, 26, 27, 28, 29, 30, 31, 32, 33, 34, 35, 36, 37, 38, 39, 40, 41, 42, 43, 44, 45, 46, 47, 48, 49, 50, 51, 52, 53, 54, 55, 56, 57, 58, 59, 60, 61, 62, 63, 64, 65] (by decide +kernel) (by decide +kernel)
set_option maxRecDepth 20000 in
theorem gX7_trip_X7_blushOf : GoodIn wsX7_trip (wsV RX7 195 RX7 yX7_blushOf wsX7_blushOf) := goodIn_app (goodIn_of _ (by decide +kernel)) ggX7_trip_X7_blushOf
theorem dX7_trip_0 : decode cX7_trip 0 = .ok (.aload_n 0, 1) := by decide +kernel
theorem dX7_trip_1 : decode cX7_trip 1 = .ok (.iload_n 1, 1) := by decide +kernel
theorem dX7_trip_2 : decode cX7_trip 2 = .ok (.invokevirtual 214, 3) := by decide +kernel
theorem dX7_trip_5 : decode cX7_trip 5 = .ok (.ifCond .ne 5, 3) := by decide +kernel
theorem dX7_trip_8 : decode cX7_trip 8 = .ok (.iconst (-1), 1) := by decide +kernel
theorem dX7_trip_9 : decode cX7_trip 9 = .ok (.ireturn, 1) := by decide +kernel
theorem dX7_trip_10 : decode cX7_trip 10 = .ok (.aload_n 0, 1) := by decide +kernel
theorem dX7_trip_11 : decode cX7_trip 11 = .ok (.invokevirtual 217, 3) := by decide +kernel
theorem dX7_trip_14 : decode cX7_trip 14 = .ok (.iload_n 2, 1) := by decide +kernel
theorem dX7_trip_15 : decode cX7_trip 15 = .ok (.tableswitch 86 0 5 #[37, 44, 51, 58, 68, 80], 37) := by decide +kernel
theorem dX7_trip_52 : decode cX7_trip 52 = .ok (.aload_n 0, 1) := by decide +kernel
theorem dX7_trip_53 : decode cX7_trip 53 = .ok (.getfield 20, 3) := by decide +kernel
theorem dX7_trip_56 : decode cX7_trip 56 = .ok (.iload_n 1, 1) := by decide +kernel
theorem dX7_trip_57 : decode cX7_trip 57 = .ok (.iaload, 1) := by decide +kernel
theorem dX7_trip_58 : decode cX7_trip 58 = .ok (.ireturn, 1) := by decide +kernel
theorem dX7_trip_59 : decode cX7_trip 59 = .ok (.aload_n 0, 1) := by decide +kernel
theorem dX7_trip_60 : decode cX7_trip 60 = .ok (.getfield 23, 3) := by decide +kernel
theorem dX7_trip_63 : decode cX7_trip 63 = .ok (.iload_n 1, 1) := by decide +kernel
theorem dX7_trip_64 : decode cX7_trip 64 = .ok (.iaload, 1) := by decide +kernel
theorem dX7_trip_65 : decode cX7_trip 65 = .ok (.ireturn, 1) := by decide +kernel
theorem dX7_trip_66 : decode cX7_trip 66 = .ok (.aload_n 0, 1) := by decide +kernel
theorem dX7_trip_67 : decode cX7_trip 67 = .ok (.getfield 26, 3) := by decide +kernel
theorem dX7_trip_70 : decode cX7_trip 70 = .ok (.iload_n 1, 1) := by decide +kernel
theorem dX7_trip_71 : decode cX7_trip 71 = .ok (.iaload, 1) := by decide +kernel
theorem dX7_trip_72 : decode cX7_trip 72 = .ok (.ireturn, 1) := by decide +kernel
theorem dX7_trip_73 : decode cX7_trip 73 = .ok (.aload_n 0, 1) := by decide +kernel
theorem dX7_trip_74 : decode cX7_trip 74 = .ok (.getfield 7, 3) := by decide +kernel
theorem dX7_trip_77 : decode cX7_trip 77 = .ok (.bipush 16, 2) := by decide +kernel
theorem dX7_trip_79 : decode cX7_trip 79 = .ok (.iload_n 1, 1) := by decide +kernel
theorem dX7_trip_80 : decode cX7_trip 80 = .ok (.iadd, 1) := by decide +kernel
theorem dX7_trip_81 : decode cX7_trip 81 = .ok (.iaload, 1) := by decide +kernel
theorem dX7_trip_82 : decode cX7_trip 82 = .ok (.ireturn, 1) := by decide +kernel
theorem dX7_trip_83 : decode cX7_trip 83 = .ok (.aload_n 0, 1) := by decide +kernel
theorem dX7_trip_84 : decode cX7_trip 84 = .ok (.getfield 7, 3) := by decide +kernel
theorem dX7_trip_87 : decode cX7_trip 87 = .ok (.bipush 22, 2) := by decide +kernel
theorem dX7_trip_89 : decode cX7_trip 89 = .ok (.iaload, 1) := by decide +kernel
theorem dX7_trip_90 : decode cX7_trip 90 = .ok (.iload_n 1, 1) := by decide +kernel
theorem dX7_trip_91 : decode cX7_trip 91 = .ok (.ishr, 1) := by decide +kernel
theorem dX7_trip_92 : decode cX7_trip 92 = .ok (.iconst 1, 1) := by decide +kernel
theorem dX7_trip_93 : decode cX7_trip 93 = .ok (.iand, 1) := by decide +kernel
theorem dX7_trip_94 : decode cX7_trip 94 = .ok (.ireturn, 1) := by decide +kernel
theorem dX7_trip_95 : decode cX7_trip 95 = .ok (.aload_n 0, 1) := by decide +kernel
theorem dX7_trip_96 : decode cX7_trip 96 = .ok (.iload_n 1, 1) := by decide +kernel
theorem dX7_trip_97 : decode cX7_trip 97 = .ok (.invokevirtual 195, 3) := by decide +kernel
theorem dX7_trip_100 : decode cX7_trip 100 = .ok (.ireturn, 1) := by decide +kernel
theorem dX7_trip_101 : decode cX7_trip 101 = .ok (.iconst (-1), 1) := by decide +kernel
theorem dX7_trip_102 : decode cX7_trip 102 = .ok (.ireturn, 1) := by decide +kernel
set_option maxRecDepth 20000 in
theorem ggX7_asked_X7_in : GoodIn wsX7_asked wsX7_in := goodIn_r _ [9] (by decide +kernel) (by decide +kernel)
set_option maxRecDepth 20000 in
theorem gX7_asked_X7_in : GoodIn wsX7_asked (va_wsS RX7 110 yX7_in wsX7_in) := goodIn_app (goodIn_of _ (by decide +kernel)) ggX7_asked_X7_in
theorem dX7_asked_0 : decode cX7_asked 0 = .ok (.iload_n 1, 1) := by decide +kernel
theorem dX7_asked_1 : decode cX7_asked 1 = .ok (.i2l, 1) := by decide +kernel
theorem dX7_asked_2 : decode cX7_asked 2 = .ok (.lconst 0, 1) := by decide +kernel
theorem dX7_asked_3 : decode cX7_asked 3 = .ok (.aload_n 0, 1) := by decide +kernel
theorem dX7_asked_4 : decode cX7_asked 4 = .ok (.getfield 105, 3) := by decide +kernel
theorem dX7_asked_7 : decode cX7_asked 7 = .ok (.iconst 1, 1) := by decide +kernel
theorem dX7_asked_8 : decode cX7_asked 8 = .ok (.isub, 1) := by decide +kernel
theorem dX7_asked_9 : decode cX7_asked 9 = .ok (.i2l, 1) := by decide +kernel
theorem dX7_asked_10 : decode cX7_asked 10 = .ok (.invokestatic 110, 3) := by decide +kernel
theorem dX7_asked_13 : decode cX7_asked 13 = .ok (.ifCond .eq 15, 3) := by decide +kernel
theorem dX7_asked_16 : decode cX7_asked 16 = .ok (.iload_n 2, 1) := by decide +kernel
theorem dX7_asked_17 : decode cX7_asked 17 = .ok (.i2l, 1) := by decide +kernel
theorem dX7_asked_18 : decode cX7_asked 18 = .ok (.lconst 0, 1) := by decide +kernel
theorem dX7_asked_19 : decode cX7_asked 19 = .ok (.ldc2_w 220, 3) := by decide +kernel
theorem dX7_asked_22 : decode cX7_asked 22 = .ok (.invokestatic 110, 3) := by decide +kernel
theorem dX7_asked_25 : decode cX7_asked 25 = .ok (.ifCond .ne 5, 3) := by decide +kernel
theorem dX7_asked_28 : decode cX7_asked 28 = .ok (.iconst (-1), 1) := by decide +kernel
theorem dX7_asked_29 : decode cX7_asked 29 = .ok (.ireturn, 1) := by decide +kernel
theorem dX7_asked_30 : decode cX7_asked 30 = .ok (.iload_n 2, 1) := by decide +kernel
theorem dX7_asked_31 : decode cX7_asked 31 = .ok (.ifCond .ne 12, 3) := by decide +kernel
theorem dX7_asked_34 : decode cX7_asked 34 = .ok (.aload_n 0, 1) := by decide +kernel
theorem dX7_asked_35 : decode cX7_asked 35 = .ok (.getfield 29, 3) := by decide +kernel
theorem dX7_asked_38 : decode cX7_asked 38 = .ok (.iload_n 1, 1) := by decide +kernel
theorem dX7_asked_39 : decode cX7_asked 39 = .ok (.iaload, 1) := by decide +kernel
theorem dX7_asked_40 : decode cX7_asked 40 = .ok (.goto 23, 3) := by decide +kernel
theorem dX7_asked_43 : decode cX7_asked 43 = .ok (.iload_n 2, 1) := by decide +kernel
theorem dX7_asked_44 : decode cX7_asked 44 = .ok (.iconst 1, 1) := by decide +kernel
theorem dX7_asked_45 : decode cX7_asked 45 = .ok (.if_icmp .ne 12, 3) := by decide +kernel
theorem dX7_asked_48 : decode cX7_asked 48 = .ok (.aload_n 0, 1) := by decide +kernel
theorem dX7_asked_49 : decode cX7_asked 49 = .ok (.getfield 32, 3) := by decide +kernel
theorem dX7_asked_52 : decode cX7_asked 52 = .ok (.iload_n 1, 1) := by decide +kernel
theorem dX7_asked_53 : decode cX7_asked 53 = .ok (.iaload, 1) := by decide +kernel
theorem dX7_asked_54 : decode cX7_asked 54 = .ok (.goto 9, 3) := by decide +kernel
theorem dX7_asked_57 : decode cX7_asked 57 = .ok (.aload_n 0, 1) := by decide +kernel
theorem dX7_asked_58 : decode cX7_asked 58 = .ok (.getfield 35, 3) := by decide +kernel
theorem dX7_asked_61 : decode cX7_asked 61 = .ok (.iload_n 1, 1) := by decide +kernel
theorem dX7_asked_62 : decode cX7_asked 62 = .ok (.iaload, 1) := by decide +kernel
theorem dX7_asked_63 : decode cX7_asked 63 = .ok (.ireturn, 1) := by decide +kernel
theorem dX7_becomes_0 : decode cX7_becomes 0 = .ok (.aload_n 0, 1) := by decide +kernel
theorem dX7_becomes_1 : decode cX7_becomes 1 = .ok (.getfield 7, 3) := by decide +kernel
theorem dX7_becomes_4 : decode cX7_becomes 4 = .ok (.iload_n 1, 1) := by decide +kernel
theorem dX7_becomes_5 : decode cX7_becomes 5 = .ok (.iaload, 1) := by decide +kernel
theorem dX7_becomes_6 : decode cX7_becomes 6 = .ok (.istore_n 3, 1) := by decide +kernel
theorem dX7_becomes_7 : decode cX7_becomes 7 = .ok (.aload_n 0, 1) := by decide +kernel
theorem dX7_becomes_8 : decode cX7_becomes 8 = .ok (.getfield 7, 3) := by decide +kernel
theorem dX7_becomes_11 : decode cX7_becomes 11 = .ok (.iload_n 1, 1) := by decide +kernel
theorem dX7_becomes_12 : decode cX7_becomes 12 = .ok (.iload_n 2, 1) := by decide +kernel
theorem dX7_becomes_13 : decode cX7_becomes 13 = .ok (.iastore, 1) := by decide +kernel
theorem dX7_becomes_14 : decode cX7_becomes 14 = .ok (.iload_n 3, 1) := by decide +kernel
theorem dX7_becomes_15 : decode cX7_becomes 15 = .ok (.ireturn, 1) := by decide +kernel
set_option maxRecDepth 20000 in
theorem ggX7_deposit_X7_isTrip : GoodIn wsX7_deposit wsX7_isTrip := goodIn_r _ [7, 8, 9, 10, 6, 11, 12, 13, 14, 15, 16, 17, 18, 19, 20, 21, 22, 23, 24, 25, 26, 27, 28, 29, 30, 31, 32, 33, 34, 35, 36, 37, 38, 39, 40, 41, 42, 43, 44, 45, 46, 47, 48, 49, 50] (by decide +kernel) (by decide +kernel)
set_option maxRecDepth 20000 in
theorem gX7_deposit_X7_isTrip : GoodIn wsX7_deposit (wsV RX7 214 RX7 yX7_isTrip wsX7_isTrip) := goodIn_app (goodIn_of _ (by decide +kernel)) ggX7_deposit_X7_isTrip
theorem dX7_deposit_0 : decode cX7_deposit 0 = .ok (.aload_n 0, 1) := by decide +kernel
theorem dX7_deposit_1 : decode cX7_deposit 1 = .ok (.iload_n 1, 1) := by decide +kernel
theorem dX7_deposit_2 : decode cX7_deposit 2 = .ok (.invokevirtual 214, 3) := by decide +kernel
theorem dX7_deposit_5 : decode cX7_deposit 5 = .ok (.ifCond .ne 5, 3) := by decide +kernel
theorem dX7_deposit_8 : decode cX7_deposit 8 = .ok (.iconst (-1), 1) := by decide +kernel
theorem dX7_deposit_9 : decode cX7_deposit 9 = .ok (.ireturn, 1) := by decide +kernel
theorem dX7_deposit_10 : decode cX7_deposit 10 = .ok (.aload_n 0, 1) := by decide +kernel
theorem dX7_deposit_11 : decode cX7_deposit 11 = .ok (.getfield 23, 3) := by decide +kernel
theorem dX7_deposit_14 : decode cX7_deposit 14 = .ok (.iload_n 1, 1) := by decide +kernel
theorem dX7_deposit_15 : decode cX7_deposit 15 = .ok (.iaload, 1) := by decide +kernel
theorem dX7_deposit_16 : decode cX7_deposit 16 = .ok (.aload_n 0, 1) := by decide +kernel
theorem dX7_deposit_17 : decode cX7_deposit 17 = .ok (.getfield 7, 3) := by decide +kernel
theorem dX7_deposit_20 : decode cX7_deposit 20 = .ok (.bipush 25, 2) := by decide +kernel
theorem dX7_deposit_22 : decode cX7_deposit 22 = .ok (.iaload, 1) := by decide +kernel
theorem dX7_deposit_23 : decode cX7_deposit 23 = .ok (.if_icmp .ge 6, 3) := by decide +kernel
theorem dX7_deposit_26 : decode cX7_deposit 26 = .ok (.bipush (-2), 2) := by decide +kernel
theorem dX7_deposit_28 : decode cX7_deposit 28 = .ok (.ireturn, 1) := by decide +kernel
theorem dX7_deposit_29 : decode cX7_deposit 29 = .ok (.aload_n 0, 1) := by decide +kernel
theorem dX7_deposit_30 : decode cX7_deposit 30 = .ok (.getfield 7, 3) := by decide +kernel
theorem dX7_deposit_33 : decode cX7_deposit 33 = .ok (.bipush 22, 2) := by decide +kernel
theorem dX7_deposit_35 : decode cX7_deposit 35 = .ok (.iaload, 1) := by decide +kernel
theorem dX7_deposit_36 : decode cX7_deposit 36 = .ok (.iload_n 1, 1) := by decide +kernel
theorem dX7_deposit_37 : decode cX7_deposit 37 = .ok (.ishr, 1) := by decide +kernel
theorem dX7_deposit_38 : decode cX7_deposit 38 = .ok (.iconst 1, 1) := by decide +kernel
theorem dX7_deposit_39 : decode cX7_deposit 39 = .ok (.iand, 1) := by decide +kernel
theorem dX7_deposit_40 : decode cX7_deposit 40 = .ok (.istore_n 3, 1) := by decide +kernel
theorem dX7_deposit_41 : decode cX7_deposit 41 = .ok (.aload_n 0, 1) := by decide +kernel
theorem dX7_deposit_42 : decode cX7_deposit 42 = .ok (.getfield 7, 3) := by decide +kernel
theorem dX7_deposit_45 : decode cX7_deposit 45 = .ok (.bipush 22, 2) := by decide +kernel
theorem dX7_deposit_47 : decode cX7_deposit 47 = .ok (.iload_n 2, 1) := by decide +kernel
theorem dX7_deposit_48 : decode cX7_deposit 48 = .ok (.ifCond .eq 17, 3) := by decide +kernel
theorem dX7_deposit_51 : decode cX7_deposit 51 = .ok (.aload_n 0, 1) := by decide +kernel
theorem dX7_deposit_52 : decode cX7_deposit 52 = .ok (.getfield 7, 3) := by decide +kernel
theorem dX7_deposit_55 : decode cX7_deposit 55 = .ok (.bipush 22, 2) := by decide +kernel
theorem dX7_deposit_57 : decode cX7_deposit 57 = .ok (.iaload, 1) := by decide +kernel
theorem dX7_deposit_58 : decode cX7_deposit 58 = .ok (.iconst 1, 1) := by decide +kernel
theorem dX7_deposit_59 : decode cX7_deposit 59 = .ok (.iload_n 1, 1) := by decide +kernel
theorem dX7_deposit_60 : decode cX7_deposit 60 = .ok (.ishl, 1) := by decide +kernel
theorem dX7_deposit_61 : decode cX7_deposit 61 = .ok (.ior, 1) := by decide +kernel
theorem dX7_deposit_62 : decode cX7_deposit 62 = .ok (.goto 16, 3) := by decide +kernel
theorem dX7_deposit_65 : decode cX7_deposit 65 = .ok (.aload_n 0, 1) := by decide +kernel
theorem dX7_deposit_66 : decode cX7_deposit 66 = .ok (.getfield 7, 3) := by decide +kernel
theorem dX7_deposit_69 : decode cX7_deposit 69 = .ok (.bipush 22, 2) := by decide +kernel
theorem dX7_deposit_71 : decode cX7_deposit 71 = .ok (.iaload, 1) := by decide +kernel
theorem dX7_deposit_72 : decode cX7_deposit 72 = .ok (.iconst 1, 1) := by decide +kernel
theorem dX7_deposit_73 : decode cX7_deposit 73 = .ok (.iload_n 1, 1) := by decide +kernel
theorem dX7_deposit_74 : decode cX7_deposit 74 = .ok (.ishl, 1) := by decide +kernel
theorem dX7_deposit_75 : decode cX7_deposit 75 = .ok (.iconst (-1), 1) := by decide +kernel
theorem dX7_deposit_76 : decode cX7_deposit 76 = .ok (.ixor, 1) := by decide +kernel
theorem dX7_deposit_77 : decode cX7_deposit 77 = .ok (.iand, 1) := by decide +kernel
theorem dX7_deposit_78 : decode cX7_deposit 78 = .ok (.iastore, 1) := by decide +kernel
theorem dX7_deposit_79 : decode cX7_deposit 79 = .ok (.iload_n 3, 1) := by decide +kernel
theorem dX7_deposit_80 : decode cX7_deposit 80 = .ok (.ireturn, 1) := by decide +kernel
set_option maxRecDepth 20000 in
theorem ggX7_give_X7_isOne : GoodIn wsX7_give wsX7_isOne := goodIn_r _ [7, 8, 9, 10, 6, 11, 12, 13, 14, 15, 16, 17, 18, 19, 20, 21, 22, 23, 24, 25, 26, 27, 28, 29, 30, 31, 32, 33, 34, 35, 36, 37, 38, 39, 40, 41, 42, 43, 44, 45, 46, 47, 48, 49, 50] (by decide +kernel) (by decide +kernel)
set_option maxRecDepth 20000 in
theorem gX7_give_X7_isOne : GoodIn wsX7_give (wsV RX7 210 RX7 yX7_isOne wsX7_isOne) := goodIn_app (goodIn_of _ (by decide +kernel)) ggX7_give_X7_isOne
set_option maxRecDepth 20000 in
theorem ggX7_give_X7_in : GoodIn wsX7_give wsX7_in := goodIn_r _ [11] (by decide +kernel) (by decide +kernel)
set_option maxRecDepth 20000 in
theorem gX7_give_X7_in : GoodIn wsX7_give (va_wsS RX7 110 yX7_in wsX7_in) := goodIn_app (goodIn_of _ (by decide +kernel)) ggX7_give_X7_in
theorem dX7_give_0 : decode cX7_give 0 = .ok (.aload_n 0, 1) := by decide +kernel
theorem dX7_give_1 : decode cX7_give 1 = .ok (.iload_n 1, 1) := by decide +kernel
theorem dX7_give_2 : decode cX7_give 2 = .ok (.invokevirtual 210, 3) := by decide +kernel
theorem dX7_give_5 : decode cX7_give 5 = .ok (.ifCond .eq 28, 3) := by decide +kernel
theorem dX7_give_8 : decode cX7_give 8 = .ok (.aload_n 0, 1) := by decide +kernel
theorem dX7_give_9 : decode cX7_give 9 = .ok (.iload_n 2, 1) := by decide +kernel
theorem dX7_give_10 : decode cX7_give 10 = .ok (.invokevirtual 210, 3) := by decide +kernel
theorem dX7_give_13 : decode cX7_give 13 = .ok (.ifCond .eq 20, 3) := by decide +kernel
theorem dX7_give_16 : decode cX7_give 16 = .ok (.iload_n 1, 1) := by decide +kernel
theorem dX7_give_17 : decode cX7_give 17 = .ok (.iload_n 2, 1) := by decide +kernel
theorem dX7_give_18 : decode cX7_give 18 = .ok (.if_icmp .eq 15, 3) := by decide +kernel
theorem dX7_give_21 : decode cX7_give 21 = .ok (.iload_n 3, 1) := by decide +kernel
theorem dX7_give_22 : decode cX7_give 22 = .ok (.i2l, 1) := by decide +kernel
theorem dX7_give_23 : decode cX7_give 23 = .ok (.lconst 0, 1) := by decide +kernel
theorem dX7_give_24 : decode cX7_give 24 = .ok (.ldc2_w 222, 3) := by decide +kernel
theorem dX7_give_27 : decode cX7_give 27 = .ok (.invokestatic 110, 3) := by decide +kernel
theorem dX7_give_30 : decode cX7_give 30 = .ok (.ifCond .ne 5, 3) := by decide +kernel
theorem dX7_give_33 : decode cX7_give 33 = .ok (.iconst (-1), 1) := by decide +kernel
theorem dX7_give_34 : decode cX7_give 34 = .ok (.ireturn, 1) := by decide +kernel
theorem dX7_give_35 : decode cX7_give 35 = .ok (.aload_n 0, 1) := by decide +kernel
theorem dX7_give_36 : decode cX7_give 36 = .ok (.getfield 7, 3) := by decide +kernel
theorem dX7_give_39 : decode cX7_give 39 = .ok (.iconst 4, 1) := by decide +kernel
theorem dX7_give_40 : decode cX7_give 40 = .ok (.iload_n 1, 1) := by decide +kernel
theorem dX7_give_41 : decode cX7_give 41 = .ok (.imul, 1) := by decide +kernel
theorem dX7_give_42 : decode cX7_give 42 = .ok (.iconst 1, 1) := by decide +kernel
theorem dX7_give_43 : decode cX7_give 43 = .ok (.iadd, 1) := by decide +kernel
theorem dX7_give_44 : decode cX7_give 44 = .ok (.iaload, 1) := by decide +kernel
theorem dX7_give_45 : decode cX7_give 45 = .ok (.iload_n 3, 1) := by decide +kernel
theorem dX7_give_46 : decode cX7_give 46 = .ok (.if_icmp .ge 6, 3) := by decide +kernel
theorem dX7_give_49 : decode cX7_give 49 = .ok (.bipush (-2), 2) := by decide +kernel
theorem dX7_give_51 : decode cX7_give 51 = .ok (.ireturn, 1) := by decide +kernel
theorem dX7_give_52 : decode cX7_give 52 = .ok (.aload_n 0, 1) := by decide +kernel
theorem dX7_give_53 : decode cX7_give 53 = .ok (.getfield 7, 3) := by decide +kernel
theorem dX7_give_56 : decode cX7_give 56 = .ok (.iconst 4, 1) := by decide +kernel
theorem dX7_give_57 : decode cX7_give 57 = .ok (.iload_n 2, 1) := by decide +kernel
theorem dX7_give_58 : decode cX7_give 58 = .ok (.imul, 1) := by decide +kernel
theorem dX7_give_59 : decode cX7_give 59 = .ok (.iconst 1, 1) := by decide +kernel
theorem dX7_give_60 : decode cX7_give 60 = .ok (.iadd, 1) := by decide +kernel
theorem dX7_give_61 : decode cX7_give 61 = .ok (.iaload, 1) := by decide +kernel
theorem dX7_give_62 : decode cX7_give 62 = .ok (.iload_n 3, 1) := by decide +kernel
theorem dX7_give_63 : decode cX7_give 63 = .ok (.iadd, 1) := by decide +kernel
theorem dX7_give_64 : decode cX7_give 64 = .ok (.sipush 999, 3) := by decide +kernel
theorem dX7_give_67 : decode cX7_give 67 = .ok (.if_icmp .le 6, 3) := by decide +kernel
theorem dX7_give_70 : decode cX7_give 70 = .ok (.bipush (-3), 2) := by decide +kernel
theorem dX7_give_72 : decode cX7_give 72 = .ok (.ireturn, 1) := by decide +kernel
theorem dX7_give_73 : decode cX7_give 73 = .ok (.aload_n 0, 1) := by decide +kernel
theorem dX7_give_74 : decode cX7_give 74 = .ok (.getfield 7, 3) := by decide +kernel
theorem dX7_give_77 : decode cX7_give 77 = .ok (.iconst 4, 1) := by decide +kernel
theorem dX7_give_78 : decode cX7_give 78 = .ok (.iload_n 1, 1) := by decide +kernel
theorem dX7_give_79 : decode cX7_give 79 = .ok (.imul, 1) := by decide +kernel
theorem dX7_give_80 : decode cX7_give 80 = .ok (.iconst 1, 1) := by decide +kernel
theorem dX7_give_81 : decode cX7_give 81 = .ok (.iadd, 1) := by decide +kernel
theorem dX7_give_82 : decode cX7_give 82 = .ok (.dup2, 1) := by decide +kernel
theorem dX7_give_83 : decode cX7_give 83 = .ok (.iaload, 1) := by decide +kernel
theorem dX7_give_84 : decode cX7_give 84 = .ok (.iload_n 3, 1) := by decide +kernel
theorem dX7_give_85 : decode cX7_give 85 = .ok (.isub, 1) := by decide +kernel
theorem dX7_give_86 : decode cX7_give 86 = .ok (.iastore, 1) := by decide +kernel
theorem dX7_give_87 : decode cX7_give 87 = .ok (.aload_n 0, 1) := by decide +kernel
theorem dX7_give_88 : decode cX7_give 88 = .ok (.getfield 7, 3) := by decide +kernel
theorem dX7_give_91 : decode cX7_give 91 = .ok (.iconst 4, 1) := by decide +kernel
theorem dX7_give_92 : decode cX7_give 92 = .ok (.iload_n 2, 1) := by decide +kernel
theorem dX7_give_93 : decode cX7_give 93 = .ok (.imul, 1) := by decide +kernel
theorem dX7_give_94 : decode cX7_give 94 = .ok (.iconst 1, 1) := by decide +kernel
theorem dX7_give_95 : decode cX7_give 95 = .ok (.iadd, 1) := by decide +kernel
theorem dX7_give_96 : decode cX7_give 96 = .ok (.dup2, 1) := by decide +kernel
theorem dX7_give_97 : decode cX7_give 97 = .ok (.iaload, 1) := by decide +kernel
theorem dX7_give_98 : decode cX7_give 98 = .ok (.iload_n 3, 1) := by decide +kernel
theorem dX7_give_99 : decode cX7_give 99 = .ok (.iadd, 1) := by decide +kernel
theorem dX7_give_100 : decode cX7_give 100 = .ok (.iastore, 1) := by decide +kernel
theorem dX7_give_101 : decode cX7_give 101 = .ok (.aload_n 0, 1) := by decide +kernel
theorem dX7_give_102 : decode cX7_give 102 = .ok (.getfield 7, 3) := by decide +kernel
theorem dX7_give_105 : decode cX7_give 105 = .ok (.iconst 4, 1) := by decide +kernel
theorem dX7_give_106 : decode cX7_give 106 = .ok (.iload_n 1, 1) := by decide +kernel
theorem dX7_give_107 : decode cX7_give 107 = .ok (.imul, 1) := by decide +kernel
theorem dX7_give_108 : decode cX7_give 108 = .ok (.iconst 1, 1) := by decide +kernel
theorem dX7_give_109 : decode cX7_give 109 = .ok (.iadd, 1) := by decide +kernel
theorem dX7_give_110 : decode cX7_give 110 = .ok (.iaload, 1) := by decide +kernel
theorem dX7_give_111 : decode cX7_give 111 = .ok (.ireturn, 1) := by decide +kernel
set_option maxRecDepth 20000 in
theorem ggX7_draw_X7_isOne : GoodIn wsX7_draw wsX7_isOne := goodIn_r _ [7, 8, 9, 10, 6, 11, 12, 13, 14, 15, 16, 17, 18, 19, 20, 21, 22, 23, 24, 25, 26, 27, 28, 29, 30, 31, 32, 33, 34, 35, 36, 37, 38, 39, 40, 41, 42, 43, 44, 45, 46, 47, 48, 49, 50] (by decide +kernel) (by decide +kernel)
set_option maxRecDepth 20000 in
theorem gX7_draw_X7_isOne : GoodIn wsX7_draw (wsV RX7 210 RX7 yX7_isOne wsX7_isOne) := goodIn_app (goodIn_of _ (by decide +kernel)) ggX7_draw_X7_isOne
set_option maxRecDepth 20000 in
theorem ggX7_draw_X7_in : GoodIn wsX7_draw wsX7_in := goodIn_r _ [11] (by decide +kernel) (by decide +kernel)
set_option maxRecDepth 20000 in
theorem gX7_draw_X7_in : GoodIn wsX7_draw (va_wsS RX7 110 yX7_in wsX7_in) := goodIn_app (goodIn_of _ (by decide +kernel)) ggX7_draw_X7_in
theorem dX7_draw_0 : decode cX7_draw 0 = .ok (.aload_n 0, 1) := by decide +kernel
theorem dX7_draw_1 : decode cX7_draw 1 = .ok (.iload_n 1, 1) := by decide +kernel
theorem dX7_draw_2 : decode cX7_draw 2 = .ok (.invokevirtual 210, 3) := by decide +kernel
theorem dX7_draw_5 : decode cX7_draw 5 = .ok (.ifCond .eq 15, 3) := by decide +kernel
theorem dX7_draw_8 : decode cX7_draw 8 = .ok (.iload_n 2, 1) := by decide +kernel
theorem dX7_draw_9 : decode cX7_draw 9 = .ok (.i2l, 1) := by decide +kernel
theorem dX7_draw_10 : decode cX7_draw 10 = .ok (.lconst 0, 1) := by decide +kernel
theorem dX7_draw_11 : decode cX7_draw 11 = .ok (.ldc2_w 222, 3) := by decide +kernel
theorem dX7_draw_14 : decode cX7_draw 14 = .ok (.invokestatic 110, 3) := by decide +kernel
theorem dX7_draw_17 : decode cX7_draw 17 = .ok (.ifCond .ne 5, 3) := by decide +kernel
theorem dX7_draw_20 : decode cX7_draw 20 = .ok (.iconst (-1), 1) := by decide +kernel
theorem dX7_draw_21 : decode cX7_draw 21 = .ok (.ireturn, 1) := by decide +kernel
theorem dX7_draw_22 : decode cX7_draw 22 = .ok (.aload_n 0, 1) := by decide +kernel
theorem dX7_draw_23 : decode cX7_draw 23 = .ok (.getfield 7, 3) := by decide +kernel
theorem dX7_draw_26 : decode cX7_draw 26 = .ok (.iconst 4, 1) := by decide +kernel
theorem dX7_draw_27 : decode cX7_draw 27 = .ok (.iload_n 1, 1) := by decide +kernel
theorem dX7_draw_28 : decode cX7_draw 28 = .ok (.imul, 1) := by decide +kernel
theorem dX7_draw_29 : decode cX7_draw 29 = .ok (.iconst 2, 1) := by decide +kernel
theorem dX7_draw_30 : decode cX7_draw 30 = .ok (.iadd, 1) := by decide +kernel
theorem dX7_draw_31 : decode cX7_draw 31 = .ok (.iaload, 1) := by decide +kernel
theorem dX7_draw_32 : decode cX7_draw 32 = .ok (.iload_n 2, 1) := by decide +kernel
theorem dX7_draw_33 : decode cX7_draw 33 = .ok (.if_icmp .lt 14, 3) := by decide +kernel
theorem dX7_draw_36 : decode cX7_draw 36 = .ok (.aload_n 0, 1) := by decide +kernel
theorem dX7_draw_37 : decode cX7_draw 37 = .ok (.getfield 7, 3) := by decide +kernel
theorem dX7_draw_40 : decode cX7_draw 40 = .ok (.bipush 24, 2) := by decide +kernel
theorem dX7_draw_42 : decode cX7_draw 42 = .ok (.iaload, 1) := by decide +kernel
theorem dX7_draw_43 : decode cX7_draw 43 = .ok (.iload_n 2, 1) := by decide +kernel
theorem dX7_draw_44 : decode cX7_draw 44 = .ok (.if_icmp .ge 6, 3) := by decide +kernel
theorem dX7_draw_47 : decode cX7_draw 47 = .ok (.bipush (-2), 2) := by decide +kernel
theorem dX7_draw_49 : decode cX7_draw 49 = .ok (.ireturn, 1) := by decide +kernel
theorem dX7_draw_50 : decode cX7_draw 50 = .ok (.aload_n 0, 1) := by decide +kernel
theorem dX7_draw_51 : decode cX7_draw 51 = .ok (.getfield 7, 3) := by decide +kernel
theorem dX7_draw_54 : decode cX7_draw 54 = .ok (.iconst 4, 1) := by decide +kernel
theorem dX7_draw_55 : decode cX7_draw 55 = .ok (.iload_n 1, 1) := by decide +kernel
theorem dX7_draw_56 : decode cX7_draw 56 = .ok (.imul, 1) := by decide +kernel
theorem dX7_draw_57 : decode cX7_draw 57 = .ok (.iconst 1, 1) := by decide +kernel
theorem dX7_draw_58 : decode cX7_draw 58 = .ok (.iadd, 1) := by decide +kernel
theorem dX7_draw_59 : decode cX7_draw 59 = .ok (.iaload, 1) := by decide +kernel
theorem dX7_draw_60 : decode cX7_draw 60 = .ok (.iload_n 2, 1) := by decide +kernel
theorem dX7_draw_61 : decode cX7_draw 61 = .ok (.iadd, 1) := by decide +kernel
theorem dX7_draw_62 : decode cX7_draw 62 = .ok (.sipush 999, 3) := by decide +kernel
theorem dX7_draw_65 : decode cX7_draw 65 = .ok (.if_icmp .le 6, 3) := by decide +kernel
theorem dX7_draw_68 : decode cX7_draw 68 = .ok (.bipush (-3), 2) := by decide +kernel
theorem dX7_draw_70 : decode cX7_draw 70 = .ok (.ireturn, 1) := by decide +kernel
theorem dX7_draw_71 : decode cX7_draw 71 = .ok (.aload_n 0, 1) := by decide +kernel
theorem dX7_draw_72 : decode cX7_draw 72 = .ok (.getfield 7, 3) := by decide +kernel
theorem dX7_draw_75 : decode cX7_draw 75 = .ok (.iconst 4, 1) := by decide +kernel
theorem dX7_draw_76 : decode cX7_draw 76 = .ok (.iload_n 1, 1) := by decide +kernel
theorem dX7_draw_77 : decode cX7_draw 77 = .ok (.imul, 1) := by decide +kernel
theorem dX7_draw_78 : decode cX7_draw 78 = .ok (.iconst 2, 1) := by decide +kernel
theorem dX7_draw_79 : decode cX7_draw 79 = .ok (.iadd, 1) := by decide +kernel
theorem dX7_draw_80 : decode cX7_draw 80 = .ok (.dup2, 1) := by decide +kernel
theorem dX7_draw_81 : decode cX7_draw 81 = .ok (.iaload, 1) := by decide +kernel
theorem dX7_draw_82 : decode cX7_draw 82 = .ok (.iload_n 2, 1) := by decide +kernel
theorem dX7_draw_83 : decode cX7_draw 83 = .ok (.isub, 1) := by decide +kernel
theorem dX7_draw_84 : decode cX7_draw 84 = .ok (.iastore, 1) := by decide +kernel
theorem dX7_draw_85 : decode cX7_draw 85 = .ok (.aload_n 0, 1) := by decide +kernel
theorem dX7_draw_86 : decode cX7_draw 86 = .ok (.getfield 7, 3) := by decide +kernel
theorem dX7_draw_89 : decode cX7_draw 89 = .ok (.iconst 4, 1) := by decide +kernel
theorem dX7_draw_90 : decode cX7_draw 90 = .ok (.iload_n 1, 1) := by decide +kernel
theorem dX7_draw_91 : decode cX7_draw 91 = .ok (.imul, 1) := by decide +kernel
theorem dX7_draw_92 : decode cX7_draw 92 = .ok (.iconst 1, 1) := by decide +kernel
theorem dX7_draw_93 : decode cX7_draw 93 = .ok (.iadd, 1) := by decide +kernel
theorem dX7_draw_94 : decode cX7_draw 94 = .ok (.dup2, 1) := by decide +kernel
theorem dX7_draw_95 : decode cX7_draw 95 = .ok (.iaload, 1) := by decide +kernel
theorem dX7_draw_96 : decode cX7_draw 96 = .ok (.iload_n 2, 1) := by decide +kernel
theorem dX7_draw_97 : decode cX7_draw 97 = .ok (.iadd, 1) := by decide +kernel
theorem dX7_draw_98 : decode cX7_draw 98 = .ok (.iastore, 1) := by decide +kernel
theorem dX7_draw_99 : decode cX7_draw 99 = .ok (.aload_n 0, 1) := by decide +kernel
theorem dX7_draw_100 : decode cX7_draw 100 = .ok (.getfield 7, 3) := by decide +kernel
theorem dX7_draw_103 : decode cX7_draw 103 = .ok (.bipush 24, 2) := by decide +kernel
theorem dX7_draw_105 : decode cX7_draw 105 = .ok (.dup2, 1) := by decide +kernel
theorem dX7_draw_106 : decode cX7_draw 106 = .ok (.iaload, 1) := by decide +kernel
theorem dX7_draw_107 : decode cX7_draw 107 = .ok (.iload_n 2, 1) := by decide +kernel
theorem dX7_draw_108 : decode cX7_draw 108 = .ok (.isub, 1) := by decide +kernel
theorem dX7_draw_109 : decode cX7_draw 109 = .ok (.iastore, 1) := by decide +kernel
theorem dX7_draw_110 : decode cX7_draw 110 = .ok (.aload_n 0, 1) := by decide +kernel
theorem dX7_draw_111 : decode cX7_draw 111 = .ok (.getfield 7, 3) := by decide +kernel
theorem dX7_draw_114 : decode cX7_draw 114 = .ok (.bipush 24, 2) := by decide +kernel
theorem dX7_draw_116 : decode cX7_draw 116 = .ok (.iaload, 1) := by decide +kernel
theorem dX7_draw_117 : decode cX7_draw 117 = .ok (.ireturn, 1) := by decide +kernel
set_option maxRecDepth 20000 in
theorem ggX7_rumoured_X7_flag : GoodIn wsX7_rumoured wsX7_flag := goodIn_r _ [8] (by decide +kernel) (by decide +kernel)
set_option maxRecDepth 20000 in
theorem gX7_rumoured_X7_flag : GoodIn wsX7_rumoured (va_wsS RX7 224 yX7_flag wsX7_flag) := goodIn_app (goodIn_of _ (by decide +kernel)) ggX7_rumoured_X7_flag
theorem dX7_rumoured_0 : decode cX7_rumoured 0 = .ok (.iconst 0, 1) := by decide +kernel
theorem dX7_rumoured_1 : decode cX7_rumoured 1 = .ok (.istore_n 2, 1) := by decide +kernel
theorem dX7_rumoured_2 : decode cX7_rumoured 2 = .ok (.iconst 0, 1) := by decide +kernel
theorem dX7_rumoured_3 : decode cX7_rumoured 3 = .ok (.istore_n 3, 1) := by decide +kernel
theorem dX7_rumoured_4 : decode cX7_rumoured 4 = .ok (.iload_n 3, 1) := by decide +kernel
theorem dX7_rumoured_5 : decode cX7_rumoured 5 = .ok (.aload_n 0, 1) := by decide +kernel
theorem dX7_rumoured_6 : decode cX7_rumoured 6 = .ok (.getfield 102, 3) := by decide +kernel
theorem dX7_rumoured_9 : decode cX7_rumoured 9 = .ok (.if_icmp .ge 92, 3) := by decide +kernel
theorem dX7_rumoured_12 : decode cX7_rumoured 12 = .ok (.aload_n 0, 1) := by decide +kernel
theorem dX7_rumoured_13 : decode cX7_rumoured 13 = .ok (.getfield 20, 3) := by decide +kernel
theorem dX7_rumoured_16 : decode cX7_rumoured 16 = .ok (.iload_n 3, 1) := by decide +kernel
theorem dX7_rumoured_17 : decode cX7_rumoured 17 = .ok (.iaload, 1) := by decide +kernel
theorem dX7_rumoured_18 : decode cX7_rumoured 18 = .ok (.iload_n 1, 1) := by decide +kernel
theorem dX7_rumoured_19 : decode cX7_rumoured 19 = .ok (.if_icmp .ne 37, 3) := by decide +kernel
theorem dX7_rumoured_22 : decode cX7_rumoured 22 = .ok (.aload_n 0, 1) := by decide +kernel
theorem dX7_rumoured_23 : decode cX7_rumoured 23 = .ok (.getfield 23, 3) := by decide +kernel
theorem dX7_rumoured_26 : decode cX7_rumoured 26 = .ok (.iload_n 3, 1) := by decide +kernel
theorem dX7_rumoured_27 : decode cX7_rumoured 27 = .ok (.iaload, 1) := by decide +kernel
theorem dX7_rumoured_28 : decode cX7_rumoured 28 = .ok (.aload_n 0, 1) := by decide +kernel
theorem dX7_rumoured_29 : decode cX7_rumoured 29 = .ok (.getfield 13, 3) := by decide +kernel
theorem dX7_rumoured_32 : decode cX7_rumoured 32 = .ok (.bipush 25, 2) := by decide +kernel
theorem dX7_rumoured_34 : decode cX7_rumoured 34 = .ok (.iaload, 1) := by decide +kernel
theorem dX7_rumoured_35 : decode cX7_rumoured 35 = .ok (.if_icmp .lt 21, 3) := by decide +kernel
theorem dX7_rumoured_38 : decode cX7_rumoured 38 = .ok (.aload_n 0, 1) := by decide +kernel
theorem dX7_rumoured_39 : decode cX7_rumoured 39 = .ok (.getfield 13, 3) := by decide +kernel
theorem dX7_rumoured_42 : decode cX7_rumoured 42 = .ok (.bipush 16, 2) := by decide +kernel
theorem dX7_rumoured_44 : decode cX7_rumoured 44 = .ok (.iload_n 3, 1) := by decide +kernel
theorem dX7_rumoured_45 : decode cX7_rumoured 45 = .ok (.iadd, 1) := by decide +kernel
theorem dX7_rumoured_46 : decode cX7_rumoured 46 = .ok (.iaload, 1) := by decide +kernel
theorem dX7_rumoured_47 : decode cX7_rumoured 47 = .ok (.bipush 9, 2) := by decide +kernel
theorem dX7_rumoured_49 : decode cX7_rumoured 49 = .ok (.if_icmp .eq 7, 3) := by decide +kernel
theorem dX7_rumoured_52 : decode cX7_rumoured 52 = .ok (.iconst 1, 1) := by decide +kernel
theorem dX7_rumoured_53 : decode cX7_rumoured 53 = .ok (.goto 4, 3) := by decide +kernel
theorem dX7_rumoured_56 : decode cX7_rumoured 56 = .ok (.iconst 0, 1) := by decide +kernel
theorem dX7_rumoured_57 : decode cX7_rumoured 57 = .ok (.istore 4, 2) := by decide +kernel
theorem dX7_rumoured_59 : decode cX7_rumoured 59 = .ok (.iload_n 2, 1) := by decide +kernel
theorem dX7_rumoured_60 : decode cX7_rumoured 60 = .ok (.iload 4, 2) := by decide +kernel
theorem dX7_rumoured_62 : decode cX7_rumoured 62 = .ok (.invokestatic 224, 3) := by decide +kernel
theorem dX7_rumoured_65 : decode cX7_rumoured 65 = .ok (.iadd, 1) := by decide +kernel
theorem dX7_rumoured_66 : decode cX7_rumoured 66 = .ok (.istore_n 2, 1) := by decide +kernel
theorem dX7_rumoured_67 : decode cX7_rumoured 67 = .ok (.aload_n 0, 1) := by decide +kernel
theorem dX7_rumoured_68 : decode cX7_rumoured 68 = .ok (.getfield 13, 3) := by decide +kernel
theorem dX7_rumoured_71 : decode cX7_rumoured 71 = .ok (.bipush 16, 2) := by decide +kernel
theorem dX7_rumoured_73 : decode cX7_rumoured 73 = .ok (.iload_n 3, 1) := by decide +kernel
theorem dX7_rumoured_74 : decode cX7_rumoured 74 = .ok (.iadd, 1) := by decide +kernel
theorem dX7_rumoured_75 : decode cX7_rumoured 75 = .ok (.iload 4, 2) := by decide +kernel
theorem dX7_rumoured_77 : decode cX7_rumoured 77 = .ok (.ifCond .eq 8, 3) := by decide +kernel
theorem dX7_rumoured_80 : decode cX7_rumoured 80 = .ok (.bipush 9, 2) := by decide +kernel
theorem dX7_rumoured_82 : decode cX7_rumoured 82 = .ok (.goto 12, 3) := by decide +kernel
theorem dX7_rumoured_85 : decode cX7_rumoured 85 = .ok (.aload_n 0, 1) := by decide +kernel
theorem dX7_rumoured_86 : decode cX7_rumoured 86 = .ok (.getfield 13, 3) := by decide +kernel
theorem dX7_rumoured_89 : decode cX7_rumoured 89 = .ok (.bipush 16, 2) := by decide +kernel
theorem dX7_rumoured_91 : decode cX7_rumoured 91 = .ok (.iload_n 3, 1) := by decide +kernel
theorem dX7_rumoured_92 : decode cX7_rumoured 92 = .ok (.iadd, 1) := by decide +kernel
theorem dX7_rumoured_93 : decode cX7_rumoured 93 = .ok (.iaload, 1) := by decide +kernel
theorem dX7_rumoured_94 : decode cX7_rumoured 94 = .ok (.iastore, 1) := by decide +kernel
theorem dX7_rumoured_95 : decode cX7_rumoured 95 = .ok (.iinc 3 1, 3) := by decide +kernel
theorem dX7_rumoured_98 : decode cX7_rumoured 98 = .ok (.goto (-94), 3) := by decide +kernel
theorem dX7_rumoured_101 : decode cX7_rumoured 101 = .ok (.iload_n 2, 1) := by decide +kernel
theorem dX7_rumoured_102 : decode cX7_rumoured 102 = .ok (.ireturn, 1) := by decide +kernel
theorem dX7_settles_0 : decode cX7_settles 0 = .ok (.iconst 0, 1) := by decide +kernel
theorem dX7_settles_1 : decode cX7_settles 1 = .ok (.istore_n 1, 1) := by decide +kernel
theorem dX7_settles_2 : decode cX7_settles 2 = .ok (.iload_n 1, 1) := by decide +kernel
theorem dX7_settles_3 : decode cX7_settles 3 = .ok (.bipush 45, 2) := by decide +kernel
theorem dX7_settles_5 : decode cX7_settles 5 = .ok (.if_icmp .ge 21, 3) := by decide +kernel
theorem dX7_settles_8 : decode cX7_settles 8 = .ok (.aload_n 0, 1) := by decide +kernel
theorem dX7_settles_9 : decode cX7_settles 9 = .ok (.getfield 7, 3) := by decide +kernel
theorem dX7_settles_12 : decode cX7_settles 12 = .ok (.iload_n 1, 1) := by decide +kernel
theorem dX7_settles_13 : decode cX7_settles 13 = .ok (.aload_n 0, 1) := by decide +kernel
theorem dX7_settles_14 : decode cX7_settles 14 = .ok (.getfield 13, 3) := by decide +kernel
theorem dX7_settles_17 : decode cX7_settles 17 = .ok (.iload_n 1, 1) := by decide +kernel
theorem dX7_settles_18 : decode cX7_settles 18 = .ok (.iaload, 1) := by decide +kernel
theorem dX7_settles_19 : decode cX7_settles 19 = .ok (.iastore, 1) := by decide +kernel
theorem dX7_settles_20 : decode cX7_settles 20 = .ok (.iinc 1 1, 3) := by decide +kernel
theorem dX7_settles_23 : decode cX7_settles 23 = .ok (.goto (-21), 3) := by decide +kernel
theorem dX7_settles_26 : decode cX7_settles 26 = .ok (.return_, 1) := by decide +kernel
set_option maxRecDepth 20000 in
theorem ggX7_rumour_X7_isOne : GoodIn wsX7_rumour wsX7_isOne := goodIn_r _ [5, 6, 7, 8, 4, 9, 30, 31, 32, 33, 34, 35, 36, 37, 38, 39, 40, 41, 42, 43, 44, 45, 46, 47, 48, 49, 50, 51, 52, 53, 54, 55, 56, 57, 58, 59, 60, 61, 62, 63, 64, 65, 66, 67, 68] (by decide +kernel) (by decide +kernel)
set_option maxRecDepth 20000 in
theorem gX7_rumour_X7_isOne : GoodIn wsX7_rumour (wsV RX7 210 RX7 yX7_isOne wsX7_isOne) := goodIn_app (goodIn_of _ (by decide +kernel)) ggX7_rumour_X7_isOne
set_option maxRecDepth 20000 in
theorem ggX7_rumour_X7_starts : GoodIn wsX7_rumour wsX7_starts := goodIn_r _ [13, 14, 15, 30, 31, 32, 33, 34, 35, 36, 37, 38, 39, 40, 41, 42, 43, 44, 45, 46, 47, 48, 49, 50, 51, 52, 53, 54, 55, 56, 57, 58, 59, 60, 61, 62, 63, 64, 65, 66, 67, 68] (by decide +kernel) (by decide +kernel)
set_option maxRecDepth 20000 in
theorem gX7_rumour_X7_starts : GoodIn wsX7_rumour (wsV RX7 217 RX7 yX7_starts wsX7_starts) := goodIn_app (goodIn_of _ (by decide +kernel)) ggX7_rumour_X7_starts
set_option maxRecDepth 20000 in
theorem ggX7_rumour_X7_rumoured : GoodIn wsX7_rumour wsX7_rumoured := goodIn_r _ [19, 20, 21, 22, 14, 23, 24, 4, 25, 30, 31, 32, 33, 34, 35, 36, 37, 38, 39, 40, 41, 42, 43, 44, 45, 46, 47, 48, 49, 50, 51, 52, 53, 54, 55, 56, 57, 58, 59, 60, 61, 62, 63, 64, 65, 66, 67, 68] (by decide +kernel) (by decide +kernel)
set_option maxRecDepth 20000 in
theorem gX7_rumour_X7_rumoured : GoodIn wsX7_rumour (wsV RX7 228 RX7 yX7_rumoured wsX7_rumoured) := goodIn_app (goodIn_of _ (by decide +kernel)) ggX7_rumour_X7_rumoured
set_option maxRecDepth 20000 in
theorem ggX7_rumour_X7_settles : GoodIn wsX7_rumour wsX7_settles := goodIn_r _ [29, 15, 14, 30, 31, 32, 33, 34, 35, 36, 37, 38, 39, 40, 41, 42, 43, 44, 45, 46, 47, 48, 49, 50, 51, 52, 53, 54, 55, 56, 57, 58, 59, 60, 61, 62, 63, 64, 65, 66, 67, 68] (by decide +kernel) (by decide +kernel)
set_option maxRecDepth 20000 in
theorem gX7_rumour_X7_settles : GoodIn wsX7_rumour (wsV RX7 231 RX7 yX7_settles wsX7_settles) := goodIn_app (goodIn_of _ (by decide +kernel)) ggX7_rumour_X7_settles
theorem dX7_rumour_0 : decode cX7_rumour 0 = .ok (.aload_n 0, 1) := by decide +kernel
theorem dX7_rumour_1 : decode cX7_rumour 1 = .ok (.iload_n 1, 1) := by decide +kernel
theorem dX7_rumour_2 : decode cX7_rumour 2 = .ok (.invokevirtual 210, 3) := by decide +kernel
theorem dX7_rumour_5 : decode cX7_rumour 5 = .ok (.ifCond .ne 5, 3) := by decide +kernel
