theorem dX6_count_60 : decode cX6_count 60 = .ok (.getfield 86, 3) := by decide +kernel
theorem dX6_count_63 : decode cX6_count 63 = .ok (.ireturn, 1) := by decide +kernel
theorem dX6_count_64 : decode cX6_count 64 = .ok (.aload_n 0, 1) := by decide +kernel
theorem dX6_count_65 : decode cX6_count 65 = .ok (.getfield 46, 3) := by decide +kernel
theorem dX6_count_68 : decode cX6_count 68 = .ok (.iconst 0, 1) := by decide +kernel
theorem dX6_count_69 : decode cX6_count 69 = .ok (.aaload, 1) := by decide +kernel
theorem dX6_count_70 : decode cX6_count 70 = .ok (.getfield 89, 3) := by decide +kernel
theorem dX6_count_73 : decode cX6_count 73 = .ok (.ifCond .eq 7, 3) := by decide +kernel
theorem dX6_count_76 : decode cX6_count 76 = .ok (.iconst 1, 1) := by decide +kernel
theorem dX6_count_77 : decode cX6_count 77 = .ok (.goto 4, 3) := by decide +kernel
theorem dX6_count_80 : decode cX6_count 80 = .ok (.iconst 0, 1) := by decide +kernel
theorem dX6_count_81 : decode cX6_count 81 = .ok (.aload_n 0, 1) := by decide +kernel
theorem dX6_count_82 : decode cX6_count 82 = .ok (.getfield 46, 3) := by decide +kernel
theorem dX6_count_85 : decode cX6_count 85 = .ok (.iconst 1, 1) := by decide +kernel
theorem dX6_count_86 : decode cX6_count 86 = .ok (.aaload, 1) := by decide +kernel
theorem dX6_count_87 : decode cX6_count 87 = .ok (.getfield 89, 3) := by decide +kernel
theorem dX6_count_90 : decode cX6_count 90 = .ok (.ifCond .eq 7, 3) := by decide +kernel
theorem dX6_count_93 : decode cX6_count 93 = .ok (.iconst 1, 1) := by decide +kernel
theorem dX6_count_94 : decode cX6_count 94 = .ok (.goto 4, 3) := by decide +kernel
theorem dX6_count_97 : decode cX6_count 97 = .ok (.iconst 0, 1) := by decide +kernel
theorem dX6_count_98 : decode cX6_count 98 = .ok (.iadd, 1) := by decide +kernel
theorem dX6_count_99 : decode cX6_count 99 = .ok (.ireturn, 1) := by decide +kernel
theorem dX6_count_100 : decode cX6_count 100 = .ok (.aload_n 0, 1) := by decide +kernel
theorem dX6_count_101 : decode cX6_count 101 = .ok (.getfield 10, 3) := by decide +kernel
theorem dX6_count_104 : decode cX6_count 104 = .ok (.getfield 66, 3) := by decide +kernel
theorem dX6_count_107 : decode cX6_count 107 = .ok (.ireturn, 1) := by decide +kernel
theorem dX6_count_108 : decode cX6_count 108 = .ok (.aload_n 0, 1) := by decide +kernel
theorem dX6_count_109 : decode cX6_count 109 = .ok (.getfield 52, 3) := by decide +kernel
theorem dX6_count_112 : decode cX6_count 112 = .ok (.iconst 0, 1) := by decide +kernel
theorem dX6_count_113 : decode cX6_count 113 = .ok (.aaload, 1) := by decide +kernel
theorem dX6_count_114 : decode cX6_count 114 = .ok (.getfield 236, 3) := by decide +kernel
theorem dX6_count_117 : decode cX6_count 117 = .ok (.iconst (-1), 1) := by decide +kernel
theorem dX6_count_118 : decode cX6_count 118 = .ok (.if_icmp .ne 8, 3) := by decide +kernel
theorem dX6_count_121 : decode cX6_count 121 = .ok (.bipush (-4), 2) := by decide +kernel
theorem dX6_count_123 : decode cX6_count 123 = .ok (.goto 12, 3) := by decide +kernel
theorem dX6_count_126 : decode cX6_count 126 = .ok (.aload_n 0, 1) := by decide +kernel
theorem dX6_count_127 : decode cX6_count 127 = .ok (.getfield 52, 3) := by decide +kernel
theorem dX6_count_130 : decode cX6_count 130 = .ok (.iconst 0, 1) := by decide +kernel
theorem dX6_count_131 : decode cX6_count 131 = .ok (.aaload, 1) := by decide +kernel
theorem dX6_count_132 : decode cX6_count 132 = .ok (.getfield 254, 3) := by decide +kernel
theorem dX6_count_135 : decode cX6_count 135 = .ok (.ireturn, 1) := by decide +kernel
theorem dX6_count_136 : decode cX6_count 136 = .ok (.iconst (-1), 1) := by decide +kernel
theorem dX6_count_137 : decode cX6_count 137 = .ok (.ireturn, 1) := by decide +kernel
theorem dX6_isWithin_0 : decode cX6_isWithin 0 = .ok (.iload_n 0, 1) := by decide +kernel
theorem dX6_isWithin_1 : decode cX6_isWithin 1 = .ok (.ifCond .lt 12, 3) := by decide +kernel
theorem dX6_isWithin_4 : decode cX6_isWithin 4 = .ok (.iload_n 0, 1) := by decide +kernel
theorem dX6_isWithin_5 : decode cX6_isWithin 5 = .ok (.iload_n 1, 1) := by decide +kernel
theorem dX6_isWithin_6 : decode cX6_isWithin 6 = .ok (.if_icmp .gt 7, 3) := by decide +kernel
theorem dX6_isWithin_9 : decode cX6_isWithin 9 = .ok (.iconst 1, 1) := by decide +kernel
theorem dX6_isWithin_10 : decode cX6_isWithin 10 = .ok (.goto 4, 3) := by decide +kernel
theorem dX6_isWithin_13 : decode cX6_isWithin 13 = .ok (.iconst 0, 1) := by decide +kernel
theorem dX6_isWithin_14 : decode cX6_isWithin 14 = .ok (.ireturn, 1) := by decide +kernel
theorem dX6_isOne_0 : decode cX6_isOne 0 = .ok (.iload_n 1, 1) := by decide +kernel
theorem dX6_isOne_1 : decode cX6_isOne 1 = .ok (.ifCond .lt 18, 3) := by decide +kernel
theorem dX6_isOne_4 : decode cX6_isOne 4 = .ok (.iload_n 1, 1) := by decide +kernel
theorem dX6_isOne_5 : decode cX6_isOne 5 = .ok (.aload_n 0, 1) := by decide +kernel
theorem dX6_isOne_6 : decode cX6_isOne 6 = .ok (.getfield 26, 3) := by decide +kernel
theorem dX6_isOne_9 : decode cX6_isOne 9 = .ok (.getfield 93, 3) := by decide +kernel
theorem dX6_isOne_12 : decode cX6_isOne 12 = .ok (.if_icmp .ge 7, 3) := by decide +kernel
theorem dX6_isOne_15 : decode cX6_isOne 15 = .ok (.iconst 1, 1) := by decide +kernel
theorem dX6_isOne_16 : decode cX6_isOne 16 = .ok (.goto 4, 3) := by decide +kernel
theorem dX6_isOne_19 : decode cX6_isOne 19 = .ok (.iconst 0, 1) := by decide +kernel
theorem dX6_isOne_20 : decode cX6_isOne 20 = .ok (.ireturn, 1) := by decide +kernel
theorem dX6_isIncident_0 : decode cX6_isIncident 0 = .ok (.iload_n 1, 1) := by decide +kernel
theorem dX6_isIncident_1 : decode cX6_isIncident 1 = .ok (.ifCond .lt 18, 3) := by decide +kernel
theorem dX6_isIncident_4 : decode cX6_isIncident 4 = .ok (.iload_n 1, 1) := by decide +kernel
theorem dX6_isIncident_5 : decode cX6_isIncident 5 = .ok (.aload_n 0, 1) := by decide +kernel
theorem dX6_isIncident_6 : decode cX6_isIncident 6 = .ok (.getfield 19, 3) := by decide +kernel
theorem dX6_isIncident_9 : decode cX6_isIncident 9 = .ok (.getfield 96, 3) := by decide +kernel
theorem dX6_isIncident_12 : decode cX6_isIncident 12 = .ok (.if_icmp .ge 7, 3) := by decide +kernel
theorem dX6_isIncident_15 : decode cX6_isIncident 15 = .ok (.iconst 1, 1) := by decide +kernel
theorem dX6_isIncident_16 : decode cX6_isIncident 16 = .ok (.goto 4, 3) := by decide +kernel
theorem dX6_isIncident_19 : decode cX6_isIncident 19 = .ok (.iconst 0, 1) := by decide +kernel
theorem dX6_isIncident_20 : decode cX6_isIncident 20 = .ok (.ireturn, 1) := by decide +kernel
theorem dX6_allIncidents_0 : decode cX6_allIncidents 0 = .ok (.iconst 1, 1) := by decide +kernel
theorem dX6_allIncidents_1 : decode cX6_allIncidents 1 = .ok (.aload_n 0, 1) := by decide +kernel
theorem dX6_allIncidents_2 : decode cX6_allIncidents 2 = .ok (.getfield 19, 3) := by decide +kernel
theorem dX6_allIncidents_5 : decode cX6_allIncidents 5 = .ok (.getfield 96, 3) := by decide +kernel
theorem dX6_allIncidents_8 : decode cX6_allIncidents 8 = .ok (.ishl, 1) := by decide +kernel
theorem dX6_allIncidents_9 : decode cX6_allIncidents 9 = .ok (.iconst 1, 1) := by decide +kernel
theorem dX6_allIncidents_10 : decode cX6_allIncidents 10 = .ok (.isub, 1) := by decide +kernel
theorem dX6_allIncidents_11 : decode cX6_allIncidents 11 = .ok (.ireturn, 1) := by decide +kernel
theorem dX6_keepsThePast_0 : decode cX6_keepsThePast 0 = .ok (.iload_n 1, 1) := by decide +kernel
theorem dX6_keepsThePast_1 : decode cX6_keepsThePast 1 = .ok (.aload_n 0, 1) := by decide +kernel
theorem dX6_keepsThePast_2 : decode cX6_keepsThePast 2 = .ok (.getfield 26, 3) := by decide +kernel
theorem dX6_keepsThePast_5 : decode cX6_keepsThePast 5 = .ok (.getfield 111, 3) := by decide +kernel
theorem dX6_keepsThePast_8 : decode cX6_keepsThePast 8 = .ok (.ixor, 1) := by decide +kernel
theorem dX6_keepsThePast_9 : decode cX6_keepsThePast 9 = .ok (.istore_n 2, 1) := by decide +kernel
theorem dX6_keepsThePast_10 : decode cX6_keepsThePast 10 = .ok (.iconst 0, 1) := by decide +kernel
theorem dX6_keepsThePast_11 : decode cX6_keepsThePast 11 = .ok (.istore_n 3, 1) := by decide +kernel
theorem dX6_keepsThePast_12 : decode cX6_keepsThePast 12 = .ok (.iload_n 3, 1) := by decide +kernel
theorem dX6_keepsThePast_13 : decode cX6_keepsThePast 13 = .ok (.aload_n 0, 1) := by decide +kernel
theorem dX6_keepsThePast_14 : decode cX6_keepsThePast 14 = .ok (.getfield 19, 3) := by decide +kernel
theorem dX6_keepsThePast_17 : decode cX6_keepsThePast 17 = .ok (.getfield 96, 3) := by decide +kernel
theorem dX6_keepsThePast_20 : decode cX6_keepsThePast 20 = .ok (.if_icmp .ge 39, 3) := by decide +kernel
theorem dX6_keepsThePast_23 : decode cX6_keepsThePast 23 = .ok (.aload_n 0, 1) := by decide +kernel
theorem dX6_keepsThePast_24 : decode cX6_keepsThePast 24 = .ok (.getfield 19, 3) := by decide +kernel
theorem dX6_keepsThePast_27 : decode cX6_keepsThePast 27 = .ok (.getfield 136, 3) := by decide +kernel
theorem dX6_keepsThePast_30 : decode cX6_keepsThePast 30 = .ok (.iload_n 3, 1) := by decide +kernel
theorem dX6_keepsThePast_31 : decode cX6_keepsThePast 31 = .ok (.iaload, 1) := by decide +kernel
theorem dX6_keepsThePast_32 : decode cX6_keepsThePast 32 = .ok (.aload_n 0, 1) := by decide +kernel
theorem dX6_keepsThePast_33 : decode cX6_keepsThePast 33 = .ok (.getfield 26, 3) := by decide +kernel
theorem dX6_keepsThePast_36 : decode cX6_keepsThePast 36 = .ok (.getfield 108, 3) := by decide +kernel
theorem dX6_keepsThePast_39 : decode cX6_keepsThePast 39 = .ok (.if_icmp .ge 14, 3) := by decide +kernel
theorem dX6_keepsThePast_42 : decode cX6_keepsThePast 42 = .ok (.iload_n 2, 1) := by decide +kernel
theorem dX6_keepsThePast_43 : decode cX6_keepsThePast 43 = .ok (.iload_n 3, 1) := by decide +kernel
theorem dX6_keepsThePast_44 : decode cX6_keepsThePast 44 = .ok (.ishr, 1) := by decide +kernel
theorem dX6_keepsThePast_45 : decode cX6_keepsThePast 45 = .ok (.iconst 1, 1) := by decide +kernel
theorem dX6_keepsThePast_46 : decode cX6_keepsThePast 46 = .ok (.iand, 1) := by decide +kernel
theorem dX6_keepsThePast_47 : decode cX6_keepsThePast 47 = .ok (.iconst 1, 1) := by decide +kernel
theorem dX6_keepsThePast_48 : decode cX6_keepsThePast 48 = .ok (.if_icmp .ne 5, 3) := by decide +kernel
theorem dX6_keepsThePast_51 : decode cX6_keepsThePast 51 = .ok (.iconst 0, 1) := by decide +kernel
theorem dX6_keepsThePast_52 : decode cX6_keepsThePast 52 = .ok (.ireturn, 1) := by decide +kernel
theorem dX6_keepsThePast_53 : decode cX6_keepsThePast 53 = .ok (.iinc 3 1, 3) := by decide +kernel
theorem dX6_keepsThePast_56 : decode cX6_keepsThePast 56 = .ok (.goto (-44), 3) := by decide +kernel
theorem dX6_keepsThePast_59 : decode cX6_keepsThePast 59 = .ok (.iconst 1, 1) := by decide +kernel
theorem dX6_keepsThePast_60 : decode cX6_keepsThePast 60 = .ok (.ireturn, 1) := by decide +kernel
set_option maxRecDepth 20000 in
theorem ggX6_isSmaller_J6_bitCount_0f7a4 : GoodIn wsX6_isSmaller wsJ6_bitCount_0f7a4 := goodIn_r _ [4, 5, 6, 7] (by decide +kernel) (by decide +kernel)
set_option maxRecDepth 20000 in
theorem gX6_isSmaller_J6_bitCount_0f7a4 : GoodIn wsX6_isSmaller (va_wsS RX6 257 yJ6_bitCount_0f7a4 wsJ6_bitCount_0f7a4) := goodIn_app (goodIn_of _ (by decide +kernel)) ggX6_isSmaller_J6_bitCount_0f7a4
theorem dX6_isSmaller_0 : decode cX6_isSmaller 0 = .ok (.iload_n 0, 1) := by decide +kernel
theorem dX6_isSmaller_1 : decode cX6_isSmaller 1 = .ok (.invokestatic 257, 3) := by decide +kernel
theorem dX6_isSmaller_4 : decode cX6_isSmaller 4 = .ok (.istore_n 2, 1) := by decide +kernel
theorem dX6_isSmaller_5 : decode cX6_isSmaller 5 = .ok (.iload_n 1, 1) := by decide +kernel
theorem dX6_isSmaller_6 : decode cX6_isSmaller 6 = .ok (.invokestatic 257, 3) := by decide +kernel
theorem dX6_isSmaller_9 : decode cX6_isSmaller 9 = .ok (.istore_n 3, 1) := by decide +kernel
theorem dX6_isSmaller_10 : decode cX6_isSmaller 10 = .ok (.iload_n 2, 1) := by decide +kernel
theorem dX6_isSmaller_11 : decode cX6_isSmaller 11 = .ok (.iload_n 3, 1) := by decide +kernel
theorem dX6_isSmaller_12 : decode cX6_isSmaller 12 = .ok (.if_icmp .lt 13, 3) := by decide +kernel
theorem dX6_isSmaller_15 : decode cX6_isSmaller 15 = .ok (.iload_n 2, 1) := by decide +kernel
theorem dX6_isSmaller_16 : decode cX6_isSmaller 16 = .ok (.iload_n 3, 1) := by decide +kernel
theorem dX6_isSmaller_17 : decode cX6_isSmaller 17 = .ok (.if_icmp .ne 12, 3) := by decide +kernel
theorem dX6_isSmaller_20 : decode cX6_isSmaller 20 = .ok (.iload_n 0, 1) := by decide +kernel
theorem dX6_isSmaller_21 : decode cX6_isSmaller 21 = .ok (.iload_n 1, 1) := by decide +kernel
theorem dX6_isSmaller_22 : decode cX6_isSmaller 22 = .ok (.if_icmp .ge 7, 3) := by decide +kernel
theorem dX6_isSmaller_25 : decode cX6_isSmaller 25 = .ok (.iconst 1, 1) := by decide +kernel
theorem dX6_isSmaller_26 : decode cX6_isSmaller 26 = .ok (.goto 4, 3) := by decide +kernel
theorem dX6_isSmaller_29 : decode cX6_isSmaller 29 = .ok (.iconst 0, 1) := by decide +kernel
theorem dX6_isSmaller_30 : decode cX6_isSmaller 30 = .ok (.ireturn, 1) := by decide +kernel
set_option maxRecDepth 20000 in
theorem ggX6_timesByPlan_X1_copyFrom : GoodIn wsX6_timesByPlan wsX1_copyFrom := goodIn_r _ [9, 10, 11, 12, 13, 14, 15, 16, 17, 18, 19, 20, 21, 22, 23, 24, 82, 83, 84, 85, 86, 87, 88, 89, 90, 91, 92] (by decide +kernel) (by decide +kernel)
set_option maxRecDepth 20000 in
theorem gX6_timesByPlan_X1_copyFrom : GoodIn wsX6_timesByPlan (wsV RX6 83 RX1 yX1_copyFrom wsX1_copyFrom) := goodIn_app (goodIn_of _ (by decide +kernel)) ggX6_timesByPlan_X1_copyFrom
set_option maxRecDepth 20000 in
theorem ggX6_timesByPlan_X1_passToLastWeek : GoodIn wsX6_timesByPlan wsX1_passToLastWeek := goodIn_r _ [28, 23, 29, 30, 31, 8, 32, 24, 33, 34, 35, 36, 37, 38, 39, 40, 41, 42, 43, 44, 45, 46, 47, 48, 19, 11, 49, 50, 51, 52, 20, 53, 54, 55, 56, 17, 57, 58, 59, 60, 61, 62, 63, 64, 16, 65, 66, 67, 68, 22, 18, 69, 70, 71, 72, 10, 21, 82, 83, 84, 85, 86, 87, 88, 89, 90, 91, 92, 93, 94, 95, 96, 97, 98, 99, 100] (by decide +kernel) (by decide +kernel)
set_option maxRecDepth 20000 in
theorem gX6_timesByPlan_X1_passToLastWeek : GoodIn wsX6_timesByPlan (wsV RX6 206 RX1 yX1_passToLastWeek wsX1_passToLastWeek) := goodIn_app (goodIn_of _ (by decide +kernel)) ggX6_timesByPlan_X1_passToLastWeek
theorem dX6_timesByPlan_0 : decode cX6_timesByPlan 0 = .ok (.aload_n 0, 1) := by decide +kernel
theorem dX6_timesByPlan_1 : decode cX6_timesByPlan 1 = .ok (.getfield 37, 3) := by decide +kernel
theorem dX6_timesByPlan_4 : decode cX6_timesByPlan 4 = .ok (.aload_n 0, 1) := by decide +kernel
theorem dX6_timesByPlan_5 : decode cX6_timesByPlan 5 = .ok (.getfield 26, 3) := by decide +kernel
theorem dX6_timesByPlan_8 : decode cX6_timesByPlan 8 = .ok (.invokevirtual 83, 3) := by decide +kernel
theorem dX6_timesByPlan_11 : decode cX6_timesByPlan 11 = .ok (.aload_n 0, 1) := by decide +kernel
theorem dX6_timesByPlan_12 : decode cX6_timesByPlan 12 = .ok (.getfield 37, 3) := by decide +kernel
theorem dX6_timesByPlan_15 : decode cX6_timesByPlan 15 = .ok (.iload_n 1, 1) := by decide +kernel
theorem dX6_timesByPlan_16 : decode cX6_timesByPlan 16 = .ok (.putfield 111, 3) := by decide +kernel
theorem dX6_timesByPlan_19 : decode cX6_timesByPlan 19 = .ok (.aload_n 0, 1) := by decide +kernel
theorem dX6_timesByPlan_20 : decode cX6_timesByPlan 20 = .ok (.getfield 37, 3) := by decide +kernel
theorem dX6_timesByPlan_23 : decode cX6_timesByPlan 23 = .ok (.aload_n 0, 1) := by decide +kernel
theorem dX6_timesByPlan_24 : decode cX6_timesByPlan 24 = .ok (.getfield 19, 3) := by decide +kernel
theorem dX6_timesByPlan_27 : decode cX6_timesByPlan 27 = .ok (.invokevirtual 206, 3) := by decide +kernel
theorem dX6_timesByPlan_30 : decode cX6_timesByPlan 30 = .ok (.ireturn, 1) := by decide +kernel
set_option maxRecDepth 20000 in
theorem ggX6_timesByRumour_X1_copyFrom : GoodIn wsX6_timesByRumour wsX1_copyFrom := goodIn_r _ [8, 9, 10, 11, 12, 13, 14, 15, 16, 17, 18, 19, 20, 21, 22, 23, 85, 86, 87, 88, 89, 90, 91, 92, 93, 94, 95] (by decide +kernel) (by decide +kernel)
set_option maxRecDepth 20000 in
theorem gX6_timesByRumour_X1_copyFrom : GoodIn wsX6_timesByRumour (wsV RX6 83 RX1 yX1_copyFrom wsX1_copyFrom) := goodIn_app (goodIn_of _ (by decide +kernel)) ggX6_timesByRumour_X1_copyFrom
set_option maxRecDepth 20000 in
theorem ggX6_timesByRumour_X1_spreadRumour : GoodIn wsX6_timesByRumour wsX1_spreadRumour := goodIn_r _ [27, 28, 29, 30, 22, 18, 96, 97, 98, 99, 100, 101, 102, 103, 85, 86, 87, 88, 89, 90, 91, 92, 93, 94, 95] (by decide +kernel) (by decide +kernel)
set_option maxRecDepth 20000 in
theorem gX6_timesByRumour_X1_spreadRumour : GoodIn wsX6_timesByRumour (wsV RX6 165 RX1 yX1_spreadRumour wsX1_spreadRumour) := goodIn_app (goodIn_of _ (by decide +kernel)) ggX6_timesByRumour_X1_spreadRumour
set_option maxRecDepth 20000 in
theorem ggX6_timesByRumour_X1_passToLastWeek : GoodIn wsX6_timesByRumour wsX1_passToLastWeek := goodIn_r _ [34, 22, 35, 36, 37, 7, 38, 23, 28, 30, 39, 40, 41, 42, 43, 44, 45, 46, 29, 47, 48, 49, 50, 51, 18, 10, 52, 53, 54, 55, 19, 56, 57, 58, 59, 16, 60, 61, 62, 63, 64, 65, 66, 67, 15, 68, 69, 70, 71, 21, 17, 72, 73, 74, 75, 9, 20, 85, 86, 87, 88, 89, 90, 91, 92, 93, 94, 95, 96, 97, 98, 99, 100, 101, 102, 103] (by decide +kernel) (by decide +kernel)
set_option maxRecDepth 20000 in
theorem gX6_timesByRumour_X1_passToLastWeek : GoodIn wsX6_timesByRumour (wsV RX6 206 RX1 yX1_passToLastWeek wsX1_passToLastWeek) := goodIn_app (goodIn_of _ (by decide +kernel)) ggX6_timesByRumour_X1_passToLastWeek
theorem dX6_timesByRumour_0 : decode cX6_timesByRumour 0 = .ok (.aload_n 0, 1) := by decide +kernel
theorem dX6_timesByRumour_1 : decode cX6_timesByRumour 1 = .ok (.getfield 37, 3) := by decide +kernel
theorem dX6_timesByRumour_4 : decode cX6_timesByRumour 4 = .ok (.aload_n 0, 1) := by decide +kernel
theorem dX6_timesByRumour_5 : decode cX6_timesByRumour 5 = .ok (.getfield 26, 3) := by decide +kernel
theorem dX6_timesByRumour_8 : decode cX6_timesByRumour 8 = .ok (.invokevirtual 83, 3) := by decide +kernel
theorem dX6_timesByRumour_11 : decode cX6_timesByRumour 11 = .ok (.aload_n 0, 1) := by decide +kernel
theorem dX6_timesByRumour_12 : decode cX6_timesByRumour 12 = .ok (.getfield 37, 3) := by decide +kernel
theorem dX6_timesByRumour_15 : decode cX6_timesByRumour 15 = .ok (.aload_n 0, 1) := by decide +kernel
theorem dX6_timesByRumour_16 : decode cX6_timesByRumour 16 = .ok (.getfield 19, 3) := by decide +kernel
theorem dX6_timesByRumour_19 : decode cX6_timesByRumour 19 = .ok (.iload_n 1, 1) := by decide +kernel
theorem dX6_timesByRumour_20 : decode cX6_timesByRumour 20 = .ok (.invokevirtual 165, 3) := by decide +kernel
theorem dX6_timesByRumour_23 : decode cX6_timesByRumour 23 = .ok (.pop, 1) := by decide +kernel
theorem dX6_timesByRumour_24 : decode cX6_timesByRumour 24 = .ok (.aload_n 0, 1) := by decide +kernel
theorem dX6_timesByRumour_25 : decode cX6_timesByRumour 25 = .ok (.getfield 37, 3) := by decide +kernel
theorem dX6_timesByRumour_28 : decode cX6_timesByRumour 28 = .ok (.aload_n 0, 1) := by decide +kernel
theorem dX6_timesByRumour_29 : decode cX6_timesByRumour 29 = .ok (.getfield 19, 3) := by decide +kernel
theorem dX6_timesByRumour_32 : decode cX6_timesByRumour 32 = .ok (.invokevirtual 206, 3) := by decide +kernel
theorem dX6_timesByRumour_35 : decode cX6_timesByRumour 35 = .ok (.ireturn, 1) := by decide +kernel
set_option maxRecDepth 20000 in
theorem ggX6_staysModest_X1_passWeek : GoodIn wsX6_staysModest wsX1_passWeek := goodIn_r _ [12, 13, 14, 15, 16, 17, 18, 19, 20, 21, 22, 23, 11, 24, 25, 26, 27, 28, 29, 30, 31, 32, 33, 34, 35, 36, 37, 38, 39, 40, 41, 42, 43, 4, 5, 6, 44, 45, 46, 47, 48, 49, 50, 51, 52, 53, 54, 55, 56, 57, 58, 59, 60, 70, 71, 72, 73, 74, 75, 76, 77, 78, 79, 80, 81, 82, 83, 84, 85, 86, 87, 88] (by decide +kernel) (by decide +kernel)
set_option maxRecDepth 20000 in
theorem gX6_staysModest_X1_passWeek : GoodIn wsX6_staysModest (wsV RX6 171 RX1 yX1_passWeek wsX1_passWeek) := goodIn_app (goodIn_of _ (by decide +kernel)) ggX6_staysModest_X1_passWeek
theorem dX6_staysModest_0 : decode cX6_staysModest 0 = .ok (.iload_n 1, 1) := by decide +kernel
theorem dX6_staysModest_1 : decode cX6_staysModest 1 = .ok (.bipush 10, 2) := by decide +kernel
theorem dX6_staysModest_3 : decode cX6_staysModest 3 = .ok (.aload_n 0, 1) := by decide +kernel
theorem dX6_staysModest_4 : decode cX6_staysModest 4 = .ok (.getfield 37, 3) := by decide +kernel
theorem dX6_staysModest_7 : decode cX6_staysModest 7 = .ok (.getfield 108, 3) := by decide +kernel
theorem dX6_staysModest_10 : decode cX6_staysModest 10 = .ok (.isub, 1) := by decide +kernel
theorem dX6_staysModest_11 : decode cX6_staysModest 11 = .ok (.invokestatic 262, 3) := by decide +kernel
theorem dX6_staysModest_14 : decode cX6_staysModest 14 = .ok (.istore_n 2, 1) := by decide +kernel
theorem dX6_staysModest_15 : decode cX6_staysModest 15 = .ok (.iconst 0, 1) := by decide +kernel
theorem dX6_staysModest_16 : decode cX6_staysModest 16 = .ok (.istore_n 3, 1) := by decide +kernel
theorem dX6_staysModest_17 : decode cX6_staysModest 17 = .ok (.iload_n 3, 1) := by decide +kernel
theorem dX6_staysModest_18 : decode cX6_staysModest 18 = .ok (.iload_n 2, 1) := by decide +kernel
theorem dX6_staysModest_19 : decode cX6_staysModest 19 = .ok (.if_icmp .ge 25, 3) := by decide +kernel
theorem dX6_staysModest_22 : decode cX6_staysModest 22 = .ok (.aload_n 0, 1) := by decide +kernel
theorem dX6_staysModest_23 : decode cX6_staysModest 23 = .ok (.getfield 37, 3) := by decide +kernel
theorem dX6_staysModest_26 : decode cX6_staysModest 26 = .ok (.aload_n 0, 1) := by decide +kernel
theorem dX6_staysModest_27 : decode cX6_staysModest 27 = .ok (.getfield 19, 3) := by decide +kernel
theorem dX6_staysModest_30 : decode cX6_staysModest 30 = .ok (.invokevirtual 171, 3) := by decide +kernel
theorem dX6_staysModest_33 : decode cX6_staysModest 33 = .ok (.ifCond .le 5, 3) := by decide +kernel
theorem dX6_staysModest_36 : decode cX6_staysModest 36 = .ok (.iconst 0, 1) := by decide +kernel
theorem dX6_staysModest_37 : decode cX6_staysModest 37 = .ok (.ireturn, 1) := by decide +kernel
theorem dX6_staysModest_38 : decode cX6_staysModest 38 = .ok (.iinc 3 1, 3) := by decide +kernel
theorem dX6_staysModest_41 : decode cX6_staysModest 41 = .ok (.goto (-24), 3) := by decide +kernel
theorem dX6_staysModest_44 : decode cX6_staysModest 44 = .ok (.iconst 1, 1) := by decide +kernel
theorem dX6_staysModest_45 : decode cX6_staysModest 45 = .ok (.ireturn, 1) := by decide +kernel
set_option maxRecDepth 20000 in
theorem ggX6_isAsNoted_X1_copyFrom : GoodIn wsX6_isAsNoted wsX1_copyFrom := goodIn_r _ [12, 13, 14, 15, 16, 17, 18, 19, 20, 21, 22, 23, 24, 25, 26, 27, 90, 91, 92, 93, 94, 95, 96, 97, 98, 99, 100] (by decide +kernel) (by decide +kernel)
set_option maxRecDepth 20000 in
theorem gX6_isAsNoted_X1_copyFrom : GoodIn wsX6_isAsNoted (wsV RX6 83 RX1 yX1_copyFrom wsX1_copyFrom) := goodIn_app (goodIn_of _ (by decide +kernel)) ggX6_isAsNoted_X1_copyFrom
set_option maxRecDepth 20000 in
theorem ggX6_isAsNoted_X1_passWeek : GoodIn wsX6_isAsNoted wsX1_passWeek := goodIn_r _ [31, 27, 32, 33, 26, 34, 35, 36, 37, 38, 39, 40, 11, 41, 42, 43, 44, 45, 46, 47, 22, 14, 48, 49, 50, 51, 23, 52, 53, 54, 55, 20, 56, 57, 58, 59, 60, 61, 62, 63, 19, 64, 65, 66, 67, 25, 21, 68, 69, 70, 71, 13, 24, 90, 91, 92, 93, 94, 95, 96, 97, 98, 99, 100, 101, 102, 103, 104, 105, 106, 107, 108] (by decide +kernel) (by decide +kernel)
set_option maxRecDepth 20000 in
theorem gX6_isAsNoted_X1_passWeek : GoodIn wsX6_isAsNoted (wsV RX6 171 RX1 yX1_passWeek wsX1_passWeek) := goodIn_app (goodIn_of _ (by decide +kernel)) ggX6_isAsNoted_X1_passWeek
set_option maxRecDepth 20000 in
theorem ggX6_isAsNoted_X2_agree : GoodIn wsX6_isAsNoted wsX2_agree := goodIn_r _ [76, 77, 78, 79, 80, 109, 110, 111, 112] (by decide +kernel) (by decide +kernel)
set_option maxRecDepth 20000 in
theorem gX6_isAsNoted_X2_agree : GoodIn wsX6_isAsNoted (wsV RX6 267 RX2 yX2_agree wsX2_agree) := goodIn_app (goodIn_of _ (by decide +kernel)) ggX6_isAsNoted_X2_agree
theorem dX6_isAsNoted_0 : decode cX6_isAsNoted 0 = .ok (.aload_n 0, 1) := by decide +kernel
theorem dX6_isAsNoted_1 : decode cX6_isAsNoted 1 = .ok (.getfield 37, 3) := by decide +kernel
theorem dX6_isAsNoted_4 : decode cX6_isAsNoted 4 = .ok (.aload_n 0, 1) := by decide +kernel
theorem dX6_isAsNoted_5 : decode cX6_isAsNoted 5 = .ok (.getfield 26, 3) := by decide +kernel
theorem dX6_isAsNoted_8 : decode cX6_isAsNoted 8 = .ok (.invokevirtual 83, 3) := by decide +kernel
theorem dX6_isAsNoted_11 : decode cX6_isAsNoted 11 = .ok (.aload_n 0, 1) := by decide +kernel
theorem dX6_isAsNoted_12 : decode cX6_isAsNoted 12 = .ok (.getfield 37, 3) := by decide +kernel
theorem dX6_isAsNoted_15 : decode cX6_isAsNoted 15 = .ok (.iload_n 1, 1) := by decide +kernel
theorem dX6_isAsNoted_16 : decode cX6_isAsNoted 16 = .ok (.putfield 111, 3) := by decide +kernel
theorem dX6_isAsNoted_19 : decode cX6_isAsNoted 19 = .ok (.aload_n 0, 1) := by decide +kernel
theorem dX6_isAsNoted_20 : decode cX6_isAsNoted 20 = .ok (.getfield 26, 3) := by decide +kernel
theorem dX6_isAsNoted_23 : decode cX6_isAsNoted 23 = .ok (.getfield 108, 3) := by decide +kernel
theorem dX6_isAsNoted_26 : decode cX6_isAsNoted 26 = .ok (.istore_n 2, 1) := by decide +kernel
theorem dX6_isAsNoted_27 : decode cX6_isAsNoted 27 = .ok (.iload_n 2, 1) := by decide +kernel
theorem dX6_isAsNoted_28 : decode cX6_isAsNoted 28 = .ok (.bipush 9, 2) := by decide +kernel
theorem dX6_isAsNoted_30 : decode cX6_isAsNoted 30 = .ok (.if_icmp .gt 41, 3) := by decide +kernel
theorem dX6_isAsNoted_33 : decode cX6_isAsNoted 33 = .ok (.aload_n 0, 1) := by decide +kernel
theorem dX6_isAsNoted_34 : decode cX6_isAsNoted 34 = .ok (.getfield 37, 3) := by decide +kernel
theorem dX6_isAsNoted_37 : decode cX6_isAsNoted 37 = .ok (.aload_n 0, 1) := by decide +kernel
theorem dX6_isAsNoted_38 : decode cX6_isAsNoted 38 = .ok (.getfield 19, 3) := by decide +kernel
theorem dX6_isAsNoted_41 : decode cX6_isAsNoted 41 = .ok (.invokevirtual 171, 3) := by decide +kernel
theorem dX6_isAsNoted_44 : decode cX6_isAsNoted 44 = .ok (.pop, 1) := by decide +kernel
theorem dX6_isAsNoted_45 : decode cX6_isAsNoted 45 = .ok (.aload_n 0, 1) := by decide +kernel
theorem dX6_isAsNoted_46 : decode cX6_isAsNoted 46 = .ok (.getfield 33, 3) := by decide +kernel
theorem dX6_isAsNoted_49 : decode cX6_isAsNoted 49 = .ok (.iload_n 2, 1) := by decide +kernel
theorem dX6_isAsNoted_50 : decode cX6_isAsNoted 50 = .ok (.aload_n 0, 1) := by decide +kernel
theorem dX6_isAsNoted_51 : decode cX6_isAsNoted 51 = .ok (.getfield 37, 3) := by decide +kernel
theorem dX6_isAsNoted_54 : decode cX6_isAsNoted 54 = .ok (.getfield 175, 3) := by decide +kernel
theorem dX6_isAsNoted_57 : decode cX6_isAsNoted 57 = .ok (.invokevirtual 267, 3) := by decide +kernel
theorem dX6_isAsNoted_60 : decode cX6_isAsNoted 60 = .ok (.ifCond .ne 5, 3) := by decide +kernel
theorem dX6_isAsNoted_63 : decode cX6_isAsNoted 63 = .ok (.iconst 0, 1) := by decide +kernel
theorem dX6_isAsNoted_64 : decode cX6_isAsNoted 64 = .ok (.ireturn, 1) := by decide +kernel
theorem dX6_isAsNoted_65 : decode cX6_isAsNoted 65 = .ok (.iinc 2 1, 3) := by decide +kernel
theorem dX6_isAsNoted_68 : decode cX6_isAsNoted 68 = .ok (.goto (-41), 3) := by decide +kernel
theorem dX6_isAsNoted_71 : decode cX6_isAsNoted 71 = .ok (.iconst 1, 1) := by decide +kernel
theorem dX6_isAsNoted_72 : decode cX6_isAsNoted 72 = .ok (.ireturn, 1) := by decide +kernel
set_option maxRecDepth 20000 in
theorem ggX7_init_X7_firstDraft : GoodIn wsX7_init wsX7_firstDraft := goodIn_r _ [32, 15, 33, 34, 35, 36, 37, 45, 46, 47, 48, 49, 50, 51, 52, 53, 54, 55, 56, 57, 58, 59, 60, 61, 62, 63, 64, 65, 66, 67, 68, 69, 70, 71, 72, 73, 74, 75, 76, 77, 78, 79, 80, 81, 82, 83] (by decide +kernel) (by decide +kernel)
set_option maxRecDepth 20000 in
theorem gX7_init_X7_firstDraft : GoodIn wsX7_init (wsV RX7 77 RX7 yX7_firstDraft wsX7_firstDraft) := goodIn_app (goodIn_of _ (by decide +kernel)) ggX7_init_X7_firstDraft
set_option maxRecDepth 20000 in
theorem ggX7_init_X7_keepDraft : GoodIn wsX7_init wsX7_keepDraft := goodIn_r _ [41, 5, 15, 33, 42, 34, 43, 35, 44, 9, 16, 10, 17, 11, 18, 12, 19, 13, 20, 14, 21, 8, 45, 46, 47, 48, 49, 50, 51, 52, 53, 54, 55, 56, 57, 58, 59, 60, 61, 62, 63, 64, 65, 66, 67, 68, 69, 70, 71, 72, 73, 74, 75, 76, 77, 78, 79, 80, 81, 82, 83] (by decide +kernel) (by decide +kernel)
set_option maxRecDepth 20000 in
theorem gX7_init_X7_keepDraft : GoodIn wsX7_init (wsV RX7 80 RX7 yX7_keepDraft wsX7_keepDraft) := goodIn_app (goodIn_of _ (by decide +kernel)) ggX7_init_X7_keepDraft
theorem dX7_init_0 : decode cX7_init 0 = .ok (.aload_n 0, 1) := by decide +kernel
theorem dX7_init_1 : decode cX7_init 1 = .ok (.invokespecial 1, 3) := by decide +kernel
theorem dX7_init_4 : decode cX7_init 4 = .ok (.aload_n 0, 1) := by decide +kernel
theorem dX7_init_5 : decode cX7_init 5 = .ok (.sipush 135, 3) := by decide +kernel
theorem dX7_init_8 : decode cX7_init 8 = .ok (.newarray .int, 2) := by decide +kernel
theorem dX7_init_10 : decode cX7_init 10 = .ok (.putfield 7, 3) := by decide +kernel
theorem dX7_init_13 : decode cX7_init 13 = .ok (.aload_n 0, 1) := by decide +kernel
theorem dX7_init_14 : decode cX7_init 14 = .ok (.bipush 45, 2) := by decide +kernel
theorem dX7_init_16 : decode cX7_init 16 = .ok (.newarray .int, 2) := by decide +kernel
theorem dX7_init_18 : decode cX7_init 18 = .ok (.putfield 13, 3) := by decide +kernel
theorem dX7_init_21 : decode cX7_init 21 = .ok (.aload_n 0, 1) := by decide +kernel
theorem dX7_init_22 : decode cX7_init 22 = .ok (.iconst 2, 1) := by decide +kernel
theorem dX7_init_23 : decode cX7_init 23 = .ok (.newarray .boolean, 2) := by decide +kernel
theorem dX7_init_25 : decode cX7_init 25 = .ok (.putfield 16, 3) := by decide +kernel
theorem dX7_init_28 : decode cX7_init 28 = .ok (.aload_n 0, 1) := by decide +kernel
theorem dX7_init_29 : decode cX7_init 29 = .ok (.bipush 6, 2) := by decide +kernel
theorem dX7_init_31 : decode cX7_init 31 = .ok (.newarray .int, 2) := by decide +kernel
theorem dX7_init_33 : decode cX7_init 33 = .ok (.putfield 20, 3) := by decide +kernel
theorem dX7_init_36 : decode cX7_init 36 = .ok (.aload_n 0, 1) := by decide +kernel
theorem dX7_init_37 : decode cX7_init 37 = .ok (.bipush 6, 2) := by decide +kernel
theorem dX7_init_39 : decode cX7_init 39 = .ok (.newarray .int, 2) := by decide +kernel
theorem dX7_init_41 : decode cX7_init 41 = .ok (.putfield 23, 3) := by decide +kernel
theorem dX7_init_44 : decode cX7_init 44 = .ok (.aload_n 0, 1) := by decide +kernel
theorem dX7_init_45 : decode cX7_init 45 = .ok (.bipush 6, 2) := by decide +kernel
theorem dX7_init_47 : decode cX7_init 47 = .ok (.newarray .int, 2) := by decide +kernel
theorem dX7_init_49 : decode cX7_init 49 = .ok (.putfield 26, 3) := by decide +kernel
theorem dX7_init_52 : decode cX7_init 52 = .ok (.aload_n 0, 1) := by decide +kernel
theorem dX7_init_53 : decode cX7_init 53 = .ok (.bipush 6, 2) := by decide +kernel
theorem dX7_init_55 : decode cX7_init 55 = .ok (.newarray .int, 2) := by decide +kernel
theorem dX7_init_57 : decode cX7_init 57 = .ok (.putfield 29, 3) := by decide +kernel
theorem dX7_init_60 : decode cX7_init 60 = .ok (.aload_n 0, 1) := by decide +kernel
theorem dX7_init_61 : decode cX7_init 61 = .ok (.bipush 6, 2) := by decide +kernel
theorem dX7_init_63 : decode cX7_init 63 = .ok (.newarray .int, 2) := by decide +kernel
theorem dX7_init_65 : decode cX7_init 65 = .ok (.putfield 32, 3) := by decide +kernel
theorem dX7_init_68 : decode cX7_init 68 = .ok (.aload_n 0, 1) := by decide +kernel
theorem dX7_init_69 : decode cX7_init 69 = .ok (.bipush 6, 2) := by decide +kernel
theorem dX7_init_71 : decode cX7_init 71 = .ok (.newarray .int, 2) := by decide +kernel
theorem dX7_init_73 : decode cX7_init 73 = .ok (.putfield 35, 3) := by decide +kernel
theorem dX7_init_76 : decode cX7_init 76 = .ok (.aload_n 0, 1) := by decide +kernel
theorem dX7_init_77 : decode cX7_init 77 = .ok (.bipush 45, 2) := by decide +kernel
theorem dX7_init_79 : decode cX7_init 79 = .ok (.newarray .int, 2) := by decide +kernel
theorem dX7_init_81 : decode cX7_init 81 = .ok (.putfield 38, 3) := by decide +kernel
theorem dX7_init_84 : decode cX7_init 84 = .ok (.aload_n 0, 1) := by decide +kernel
theorem dX7_init_85 : decode cX7_init 85 = .ok (.bipush 6, 2) := by decide +kernel
theorem dX7_init_87 : decode cX7_init 87 = .ok (.newarray .int, 2) := by decide +kernel
theorem dX7_init_89 : decode cX7_init 89 = .ok (.putfield 41, 3) := by decide +kernel
theorem dX7_init_92 : decode cX7_init 92 = .ok (.aload_n 0, 1) := by decide +kernel
theorem dX7_init_93 : decode cX7_init 93 = .ok (.bipush 6, 2) := by decide +kernel
theorem dX7_init_95 : decode cX7_init 95 = .ok (.newarray .int, 2) := by decide +kernel
theorem dX7_init_97 : decode cX7_init 97 = .ok (.putfield 44, 3) := by decide +kernel
theorem dX7_init_100 : decode cX7_init 100 = .ok (.aload_n 0, 1) := by decide +kernel
theorem dX7_init_101 : decode cX7_init 101 = .ok (.bipush 6, 2) := by decide +kernel
theorem dX7_init_103 : decode cX7_init 103 = .ok (.newarray .int, 2) := by decide +kernel
theorem dX7_init_105 : decode cX7_init 105 = .ok (.putfield 47, 3) := by decide +kernel
theorem dX7_init_108 : decode cX7_init 108 = .ok (.aload_n 0, 1) := by decide +kernel
theorem dX7_init_109 : decode cX7_init 109 = .ok (.bipush 6, 2) := by decide +kernel
theorem dX7_init_111 : decode cX7_init 111 = .ok (.newarray .int, 2) := by decide +kernel
theorem dX7_init_113 : decode cX7_init 113 = .ok (.putfield 50, 3) := by decide +kernel
theorem dX7_init_116 : decode cX7_init 116 = .ok (.aload_n 0, 1) := by decide +kernel
theorem dX7_init_117 : decode cX7_init 117 = .ok (.bipush 6, 2) := by decide +kernel
theorem dX7_init_119 : decode cX7_init 119 = .ok (.newarray .int, 2) := by decide +kernel
theorem dX7_init_121 : decode cX7_init 121 = .ok (.putfield 53, 3) := by decide +kernel
theorem dX7_init_124 : decode cX7_init 124 = .ok (.aload_n 0, 1) := by decide +kernel
theorem dX7_init_125 : decode cX7_init 125 = .ok (.bipush 6, 2) := by decide +kernel
theorem dX7_init_127 : decode cX7_init 127 = .ok (.newarray .int, 2) := by decide +kernel
theorem dX7_init_129 : decode cX7_init 129 = .ok (.putfield 56, 3) := by decide +kernel
theorem dX7_init_132 : decode cX7_init 132 = .ok (.aload_n 0, 1) := by decide +kernel
theorem dX7_init_133 : decode cX7_init 133 = .ok (.sipush 160, 3) := by decide +kernel
theorem dX7_init_136 : decode cX7_init 136 = .ok (.newarray .int, 2) := by decide +kernel
theorem dX7_init_138 : decode cX7_init 138 = .ok (.putfield 59, 3) := by decide +kernel
theorem dX7_init_141 : decode cX7_init 141 = .ok (.aload_n 0, 1) := by decide +kernel
theorem dX7_init_142 : decode cX7_init 142 = .ok (.iconst 4, 1) := by decide +kernel
theorem dX7_init_143 : decode cX7_init 143 = .ok (.newarray .int, 2) := by decide +kernel
theorem dX7_init_145 : decode cX7_init 145 = .ok (.putfield 62, 3) := by decide +kernel
theorem dX7_init_148 : decode cX7_init 148 = .ok (.aload_n 0, 1) := by decide +kernel
theorem dX7_init_149 : decode cX7_init 149 = .ok (.iconst 4, 1) := by decide +kernel
theorem dX7_init_150 : decode cX7_init 150 = .ok (.newarray .int, 2) := by decide +kernel
theorem dX7_init_152 : decode cX7_init 152 = .ok (.putfield 65, 3) := by decide +kernel
theorem dX7_init_155 : decode cX7_init 155 = .ok (.aload_n 0, 1) := by decide +kernel
theorem dX7_init_156 : decode cX7_init 156 = .ok (.iconst 4, 1) := by decide +kernel
theorem dX7_init_157 : decode cX7_init 157 = .ok (.newarray .int, 2) := by decide +kernel
theorem dX7_init_159 : decode cX7_init 159 = .ok (.putfield 68, 3) := by decide +kernel
theorem dX7_init_162 : decode cX7_init 162 = .ok (.aload_n 0, 1) := by decide +kernel
theorem dX7_init_163 : decode cX7_init 163 = .ok (.sipush 160, 3) := by decide +kernel
theorem dX7_init_166 : decode cX7_init 166 = .ok (.newarray .int, 2) := by decide +kernel
theorem dX7_init_168 : decode cX7_init 168 = .ok (.putfield 71, 3) := by decide +kernel
theorem dX7_init_171 : decode cX7_init 171 = .ok (.aload_n 0, 1) := by decide +kernel
theorem dX7_init_172 : decode cX7_init 172 = .ok (.bipush 45, 2) := by decide +kernel
theorem dX7_init_174 : decode cX7_init 174 = .ok (.newarray .int, 2) := by decide +kernel
theorem dX7_init_176 : decode cX7_init 176 = .ok (.putfield 74, 3) := by decide +kernel
theorem dX7_init_179 : decode cX7_init 179 = .ok (.iconst 0, 1) := by decide +kernel
theorem dX7_init_180 : decode cX7_init 180 = .ok (.istore_n 1, 1) := by decide +kernel
theorem dX7_init_181 : decode cX7_init 181 = .ok (.iload_n 1, 1) := by decide +kernel
theorem dX7_init_182 : decode cX7_init 182 = .ok (.iconst 4, 1) := by decide +kernel
theorem dX7_init_183 : decode cX7_init 183 = .ok (.if_icmp .ge 17, 3) := by decide +kernel
theorem dX7_init_186 : decode cX7_init 186 = .ok (.aload_n 0, 1) := by decide +kernel
theorem dX7_init_187 : decode cX7_init 187 = .ok (.getfield 65, 3) := by decide +kernel
theorem dX7_init_190 : decode cX7_init 190 = .ok (.iload_n 1, 1) := by decide +kernel
theorem dX7_init_191 : decode cX7_init 191 = .ok (.bipush (-4), 2) := by decide +kernel
theorem dX7_init_193 : decode cX7_init 193 = .ok (.iastore, 1) := by decide +kernel
theorem dX7_init_194 : decode cX7_init 194 = .ok (.iinc 1 1, 3) := by decide +kernel
theorem dX7_init_197 : decode cX7_init 197 = .ok (.goto (-16), 3) := by decide +kernel
theorem dX7_init_200 : decode cX7_init 200 = .ok (.aload_n 0, 1) := by decide +kernel
theorem dX7_init_201 : decode cX7_init 201 = .ok (.invokevirtual 77, 3) := by decide +kernel
theorem dX7_init_204 : decode cX7_init 204 = .ok (.aload_n 0, 1) := by decide +kernel
theorem dX7_init_205 : decode cX7_init 205 = .ok (.invokevirtual 80, 3) := by decide +kernel
theorem dX7_init_208 : decode cX7_init 208 = .ok (.return_, 1) := by decide +kernel
theorem dX7_in_0 : decode cX7_in 0 = .ok (.lload_n 0, 1) := by decide +kernel
theorem dX7_in_1 : decode cX7_in 1 = .ok (.lload_n 2, 1) := by decide +kernel
theorem dX7_in_2 : decode cX7_in 2 = .ok (.lcmp, 1) := by decide +kernel
theorem dX7_in_3 : decode cX7_in 3 = .ok (.ifCond .lt 14, 3) := by decide +kernel
theorem dX7_in_6 : decode cX7_in 6 = .ok (.lload_n 0, 1) := by decide +kernel
theorem dX7_in_7 : decode cX7_in 7 = .ok (.lload 4, 2) := by decide +kernel
theorem dX7_in_9 : decode cX7_in 9 = .ok (.lcmp, 1) := by decide +kernel
theorem dX7_in_10 : decode cX7_in 10 = .ok (.ifCond .gt 7, 3) := by decide +kernel
theorem dX7_in_13 : decode cX7_in 13 = .ok (.iconst 1, 1) := by decide +kernel
theorem dX7_in_14 : decode cX7_in 14 = .ok (.goto 4, 3) := by decide +kernel
theorem dX7_in_17 : decode cX7_in 17 = .ok (.iconst 0, 1) := by decide +kernel
theorem dX7_in_18 : decode cX7_in 18 = .ok (.ireturn, 1) := by decide +kernel
theorem dX7_flag_0 : decode cX7_flag 0 = .ok (.iload_n 0, 1) := by decide +kernel
theorem dX7_flag_1 : decode cX7_flag 1 = .ok (.ifCond .eq 7, 3) := by decide +kernel
theorem dX7_flag_4 : decode cX7_flag 4 = .ok (.iconst 1, 1) := by decide +kernel
theorem dX7_flag_5 : decode cX7_flag 5 = .ok (.goto 4, 3) := by decide +kernel
theorem dX7_flag_8 : decode cX7_flag 8 = .ok (.iconst 0, 1) := by decide +kernel
theorem dX7_flag_9 : decode cX7_flag 9 = .ok (.ireturn, 1) := by decide +kernel
theorem dX7_firstDraft_0 : decode cX7_firstDraft 0 = .ok (.iconst 0, 1) := by decide +kernel
theorem dX7_firstDraft_1 : decode cX7_firstDraft 1 = .ok (.istore_n 1, 1) := by decide +kernel
theorem dX7_firstDraft_2 : decode cX7_firstDraft 2 = .ok (.iload_n 1, 1) := by decide +kernel
theorem dX7_firstDraft_3 : decode cX7_firstDraft 3 = .ok (.bipush 45, 2) := by decide +kernel
theorem dX7_firstDraft_5 : decode cX7_firstDraft 5 = .ok (.if_icmp .ge 16, 3) := by decide +kernel
theorem dX7_firstDraft_8 : decode cX7_firstDraft 8 = .ok (.aload_n 0, 1) := by decide +kernel
theorem dX7_firstDraft_9 : decode cX7_firstDraft 9 = .ok (.getfield 38, 3) := by decide +kernel
theorem dX7_firstDraft_12 : decode cX7_firstDraft 12 = .ok (.iload_n 1, 1) := by decide +kernel
theorem dX7_firstDraft_13 : decode cX7_firstDraft 13 = .ok (.iconst 0, 1) := by decide +kernel
theorem dX7_firstDraft_14 : decode cX7_firstDraft 14 = .ok (.iastore, 1) := by decide +kernel
theorem dX7_firstDraft_15 : decode cX7_firstDraft 15 = .ok (.iinc 1 1, 3) := by decide +kernel
theorem dX7_firstDraft_18 : decode cX7_firstDraft 18 = .ok (.goto (-16), 3) := by decide +kernel
theorem dX7_firstDraft_21 : decode cX7_firstDraft 21 = .ok (.aload_n 0, 1) := by decide +kernel
theorem dX7_firstDraft_22 : decode cX7_firstDraft 22 = .ok (.getfield 38, 3) := by decide +kernel
theorem dX7_firstDraft_25 : decode cX7_firstDraft 25 = .ok (.bipush 23, 2) := by decide +kernel
theorem dX7_firstDraft_27 : decode cX7_firstDraft 27 = .ok (.iconst 1, 1) := by decide +kernel
theorem dX7_firstDraft_28 : decode cX7_firstDraft 28 = .ok (.iastore, 1) := by decide +kernel
theorem dX7_firstDraft_29 : decode cX7_firstDraft 29 = .ok (.aload_n 0, 1) := by decide +kernel
theorem dX7_firstDraft_30 : decode cX7_firstDraft 30 = .ok (.getfield 38, 3) := by decide +kernel
theorem dX7_firstDraft_33 : decode cX7_firstDraft 33 = .ok (.bipush 24, 2) := by decide +kernel
theorem dX7_firstDraft_35 : decode cX7_firstDraft 35 = .ok (.bipush 20, 2) := by decide +kernel
theorem dX7_firstDraft_37 : decode cX7_firstDraft 37 = .ok (.iastore, 1) := by decide +kernel
theorem dX7_firstDraft_38 : decode cX7_firstDraft 38 = .ok (.aload_n 0, 1) := by decide +kernel
theorem dX7_firstDraft_39 : decode cX7_firstDraft 39 = .ok (.iconst 0, 1) := by decide +kernel
theorem dX7_firstDraft_40 : decode cX7_firstDraft 40 = .ok (.putfield 83, 3) := by decide +kernel
theorem dX7_firstDraft_43 : decode cX7_firstDraft 43 = .ok (.aload_n 0, 1) := by decide +kernel
theorem dX7_firstDraft_44 : decode cX7_firstDraft 44 = .ok (.iconst 0, 1) := by decide +kernel
theorem dX7_firstDraft_45 : decode cX7_firstDraft 45 = .ok (.putfield 87, 3) := by decide +kernel
theorem dX7_firstDraft_48 : decode cX7_firstDraft 48 = .ok (.aload_n 0, 1) := by decide +kernel
theorem dX7_firstDraft_49 : decode cX7_firstDraft 49 = .ok (.iconst 0, 1) := by decide +kernel
theorem dX7_firstDraft_50 : decode cX7_firstDraft 50 = .ok (.putfield 90, 3) := by decide +kernel
theorem dX7_firstDraft_53 : decode cX7_firstDraft 53 = .ok (.aload_n 0, 1) := by decide +kernel
theorem dX7_firstDraft_54 : decode cX7_firstDraft 54 = .ok (.iconst 0, 1) := by decide +kernel
theorem dX7_firstDraft_55 : decode cX7_firstDraft 55 = .ok (.putfield 93, 3) := by decide +kernel
theorem dX7_firstDraft_58 : decode cX7_firstDraft 58 = .ok (.aload_n 0, 1) := by decide +kernel
theorem dX7_firstDraft_59 : decode cX7_firstDraft 59 = .ok (.bipush (-4), 2) := by decide +kernel
theorem dX7_firstDraft_61 : decode cX7_firstDraft 61 = .ok (.putfield 96, 3) := by decide +kernel
theorem dX7_firstDraft_64 : decode cX7_firstDraft 64 = .ok (.return_, 1) := by decide +kernel
theorem dX7_keepDraft_0 : decode cX7_keepDraft 0 = .ok (.iconst 0, 1) := by decide +kernel
theorem dX7_keepDraft_1 : decode cX7_keepDraft 1 = .ok (.istore_n 1, 1) := by decide +kernel
theorem dX7_keepDraft_2 : decode cX7_keepDraft 2 = .ok (.iload_n 1, 1) := by decide +kernel
theorem dX7_keepDraft_3 : decode cX7_keepDraft 3 = .ok (.bipush 45, 2) := by decide +kernel
theorem dX7_keepDraft_5 : decode cX7_keepDraft 5 = .ok (.if_icmp .ge 21, 3) := by decide +kernel
theorem dX7_keepDraft_8 : decode cX7_keepDraft 8 = .ok (.aload_n 0, 1) := by decide +kernel
theorem dX7_keepDraft_9 : decode cX7_keepDraft 9 = .ok (.getfield 7, 3) := by decide +kernel
theorem dX7_keepDraft_12 : decode cX7_keepDraft 12 = .ok (.iload_n 1, 1) := by decide +kernel
theorem dX7_keepDraft_13 : decode cX7_keepDraft 13 = .ok (.aload_n 0, 1) := by decide +kernel
theorem dX7_keepDraft_14 : decode cX7_keepDraft 14 = .ok (.getfield 38, 3) := by decide +kernel
theorem dX7_keepDraft_17 : decode cX7_keepDraft 17 = .ok (.iload_n 1, 1) := by decide +kernel
theorem dX7_keepDraft_18 : decode cX7_keepDraft 18 = .ok (.iaload, 1) := by decide +kernel
theorem dX7_keepDraft_19 : decode cX7_keepDraft 19 = .ok (.iastore, 1) := by decide +kernel
theorem dX7_keepDraft_20 : decode cX7_keepDraft 20 = .ok (.iinc 1 1, 3) := by decide +kernel
theorem dX7_keepDraft_23 : decode cX7_keepDraft 23 = .ok (.goto (-21), 3) := by decide +kernel
theorem dX7_keepDraft_26 : decode cX7_keepDraft 26 = .ok (.aload_n 0, 1) := by decide +kernel
theorem dX7_keepDraft_27 : decode cX7_keepDraft 27 = .ok (.aload_n 0, 1) := by decide +kernel
theorem dX7_keepDraft_28 : decode cX7_keepDraft 28 = .ok (.getfield 83, 3) := by decide +kernel
theorem dX7_keepDraft_31 : decode cX7_keepDraft 31 = .ok (.putfield 99, 3) := by decide +kernel
theorem dX7_keepDraft_34 : decode cX7_keepDraft 34 = .ok (.aload_n 0, 1) := by decide +kernel
theorem dX7_keepDraft_35 : decode cX7_keepDraft 35 = .ok (.aload_n 0, 1) := by decide +kernel
theorem dX7_keepDraft_36 : decode cX7_keepDraft 36 = .ok (.getfield 87, 3) := by decide +kernel
theorem dX7_keepDraft_39 : decode cX7_keepDraft 39 = .ok (.putfield 102, 3) := by decide +kernel
theorem dX7_keepDraft_42 : decode cX7_keepDraft 42 = .ok (.aload_n 0, 1) := by decide +kernel
theorem dX7_keepDraft_43 : decode cX7_keepDraft 43 = .ok (.aload_n 0, 1) := by decide +kernel
theorem dX7_keepDraft_44 : decode cX7_keepDraft 44 = .ok (.getfield 90, 3) := by decide +kernel
theorem dX7_keepDraft_47 : decode cX7_keepDraft 47 = .ok (.putfield 105, 3) := by decide +kernel
theorem dX7_keepDraft_50 : decode cX7_keepDraft 50 = .ok (.iconst 0, 1) := by decide +kernel
theorem dX7_keepDraft_51 : decode cX7_keepDraft 51 = .ok (.istore_n 1, 1) := by decide +kernel
theorem dX7_keepDraft_52 : decode cX7_keepDraft 52 = .ok (.iload_n 1, 1) := by decide +kernel
theorem dX7_keepDraft_53 : decode cX7_keepDraft 53 = .ok (.aload_n 0, 1) := by decide +kernel
theorem dX7_keepDraft_54 : decode cX7_keepDraft 54 = .ok (.getfield 102, 3) := by decide +kernel
theorem dX7_keepDraft_57 : decode cX7_keepDraft 57 = .ok (.if_icmp .ge 45, 3) := by decide +kernel
theorem dX7_keepDraft_60 : decode cX7_keepDraft 60 = .ok (.aload_n 0, 1) := by decide +kernel
theorem dX7_keepDraft_61 : decode cX7_keepDraft 61 = .ok (.getfield 20, 3) := by decide +kernel
theorem dX7_keepDraft_64 : decode cX7_keepDraft 64 = .ok (.iload_n 1, 1) := by decide +kernel
theorem dX7_keepDraft_65 : decode cX7_keepDraft 65 = .ok (.aload_n 0, 1) := by decide +kernel
theorem dX7_keepDraft_66 : decode cX7_keepDraft 66 = .ok (.getfield 41, 3) := by decide +kernel
theorem dX7_keepDraft_69 : decode cX7_keepDraft 69 = .ok (.iload_n 1, 1) := by decide +kernel
theorem dX7_keepDraft_70 : decode cX7_keepDraft 70 = .ok (.iaload, 1) := by decide +kernel
theorem dX7_keepDraft_71 : decode cX7_keepDraft 71 = .ok (.iastore, 1) := by decide +kernel
theorem dX7_keepDraft_72 : decode cX7_keepDraft 72 = .ok (.aload_n 0, 1) := by decide +kernel
theorem dX7_keepDraft_73 : decode cX7_keepDraft 73 = .ok (.getfield 23, 3) := by decide +kernel
theorem dX7_keepDraft_76 : decode cX7_keepDraft 76 = .ok (.iload_n 1, 1) := by decide +kernel
theorem dX7_keepDraft_77 : decode cX7_keepDraft 77 = .ok (.aload_n 0, 1) := by decide +kernel
theorem dX7_keepDraft_78 : decode cX7_keepDraft 78 = .ok (.getfield 44, 3) := by decide +kernel
theorem dX7_keepDraft_81 : decode cX7_keepDraft 81 = .ok (.iload_n 1, 1) := by decide +kernel
theorem dX7_keepDraft_82 : decode cX7_keepDraft 82 = .ok (.iaload, 1) := by decide +kernel
theorem dX7_keepDraft_83 : decode cX7_keepDraft 83 = .ok (.iastore, 1) := by decide +kernel
theorem dX7_keepDraft_84 : decode cX7_keepDraft 84 = .ok (.aload_n 0, 1) := by decide +kernel
theorem dX7_keepDraft_85 : decode cX7_keepDraft 85 = .ok (.getfield 26, 3) := by decide +kernel
theorem dX7_keepDraft_88 : decode cX7_keepDraft 88 = .ok (.iload_n 1, 1) := by decide +kernel
theorem dX7_keepDraft_89 : decode cX7_keepDraft 89 = .ok (.aload_n 0, 1) := by decide +kernel
theorem dX7_keepDraft_90 : decode cX7_keepDraft 90 = .ok (.getfield 47, 3) := by decide +kernel
theorem dX7_keepDraft_93 : decode cX7_keepDraft 93 = .ok (.iload_n 1, 1) := by decide +kernel
theorem dX7_keepDraft_94 : decode cX7_keepDraft 94 = .ok (.iaload, 1) := by decide +kernel
theorem dX7_keepDraft_95 : decode cX7_keepDraft 95 = .ok (.iastore, 1) := by decide +kernel
theorem dX7_keepDraft_96 : decode cX7_keepDraft 96 = .ok (.iinc 1 1, 3) := by decide +kernel
theorem dX7_keepDraft_99 : decode cX7_keepDraft 99 = .ok (.goto (-47), 3) := by decide +kernel
theorem dX7_keepDraft_102 : decode cX7_keepDraft 102 = .ok (.iconst 0, 1) := by decide +kernel
theorem dX7_keepDraft_103 : decode cX7_keepDraft 103 = .ok (.istore_n 1, 1) := by decide +kernel
theorem dX7_keepDraft_104 : decode cX7_keepDraft 104 = .ok (.iload_n 1, 1) := by decide +kernel
theorem dX7_keepDraft_105 : decode cX7_keepDraft 105 = .ok (.aload_n 0, 1) := by decide +kernel
theorem dX7_keepDraft_106 : decode cX7_keepDraft 106 = .ok (.getfield 105, 3) := by decide +kernel
theorem dX7_keepDraft_109 : decode cX7_keepDraft 109 = .ok (.if_icmp .ge 45, 3) := by decide +kernel
theorem dX7_keepDraft_112 : decode cX7_keepDraft 112 = .ok (.aload_n 0, 1) := by decide +kernel
theorem dX7_keepDraft_113 : decode cX7_keepDraft 113 = .ok (.getfield 29, 3) := by decide +kernel
theorem dX7_keepDraft_116 : decode cX7_keepDraft 116 = .ok (.iload_n 1, 1) := by decide +kernel
theorem dX7_keepDraft_117 : decode cX7_keepDraft 117 = .ok (.aload_n 0, 1) := by decide +kernel
theorem dX7_keepDraft_118 : decode cX7_keepDraft 118 = .ok (.getfield 50, 3) := by decide +kernel
theorem dX7_keepDraft_121 : decode cX7_keepDraft 121 = .ok (.iload_n 1, 1) := by decide +kernel
theorem dX7_keepDraft_122 : decode cX7_keepDraft 122 = .ok (.iaload, 1) := by decide +kernel
theorem dX7_keepDraft_123 : decode cX7_keepDraft 123 = .ok (.iastore, 1) := by decide +kernel
theorem dX7_keepDraft_124 : decode cX7_keepDraft 124 = .ok (.aload_n 0, 1) := by decide +kernel
theorem dX7_keepDraft_125 : decode cX7_keepDraft 125 = .ok (.getfield 32, 3) := by decide +kernel
theorem dX7_keepDraft_128 : decode cX7_keepDraft 128 = .ok (.iload_n 1, 1) := by decide +kernel
theorem dX7_keepDraft_129 : decode cX7_keepDraft 129 = .ok (.aload_n 0, 1) := by decide +kernel
theorem dX7_keepDraft_130 : decode cX7_keepDraft 130 = .ok (.getfield 53, 3) := by decide +kernel
theorem dX7_keepDraft_133 : decode cX7_keepDraft 133 = .ok (.iload_n 1, 1) := by decide +kernel
theorem dX7_keepDraft_134 : decode cX7_keepDraft 134 = .ok (.iaload, 1) := by decide +kernel
theorem dX7_keepDraft_135 : decode cX7_keepDraft 135 = .ok (.iastore, 1) := by decide +kernel
theorem dX7_keepDraft_136 : decode cX7_keepDraft 136 = .ok (.aload_n 0, 1) := by decide +kernel
theorem dX7_keepDraft_137 : decode cX7_keepDraft 137 = .ok (.getfield 35, 3) := by decide +kernel
theorem dX7_keepDraft_140 : decode cX7_keepDraft 140 = .ok (.iload_n 1, 1) := by decide +kernel
theorem dX7_keepDraft_141 : decode cX7_keepDraft 141 = .ok (.aload_n 0, 1) := by decide +kernel
theorem dX7_keepDraft_142 : decode cX7_keepDraft 142 = .ok (.getfield 56, 3) := by decide +kernel
theorem dX7_keepDraft_145 : decode cX7_keepDraft 145 = .ok (.iload_n 1, 1) := by decide +kernel
theorem dX7_keepDraft_146 : decode cX7_keepDraft 146 = .ok (.iaload, 1) := by decide +kernel
theorem dX7_keepDraft_147 : decode cX7_keepDraft 147 = .ok (.iastore, 1) := by decide +kernel
theorem dX7_keepDraft_148 : decode cX7_keepDraft 148 = .ok (.iinc 1 1, 3) := by decide +kernel
theorem dX7_keepDraft_151 : decode cX7_keepDraft 151 = .ok (.goto (-47), 3) := by decide +kernel
theorem dX7_keepDraft_154 : decode cX7_keepDraft 154 = .ok (.aload_n 0, 1) := by decide +kernel
theorem dX7_keepDraft_155 : decode cX7_keepDraft 155 = .ok (.getfield 16, 3) := by decide +kernel
theorem dX7_keepDraft_158 : decode cX7_keepDraft 158 = .ok (.iconst 0, 1) := by decide +kernel
theorem dX7_keepDraft_159 : decode cX7_keepDraft 159 = .ok (.iconst 0, 1) := by decide +kernel
theorem dX7_keepDraft_160 : decode cX7_keepDraft 160 = .ok (.bastore, 1) := by decide +kernel
theorem dX7_keepDraft_161 : decode cX7_keepDraft 161 = .ok (.aload_n 0, 1) := by decide +kernel
theorem dX7_keepDraft_162 : decode cX7_keepDraft 162 = .ok (.getfield 16, 3) := by decide +kernel
theorem dX7_keepDraft_165 : decode cX7_keepDraft 165 = .ok (.iconst 1, 1) := by decide +kernel
theorem dX7_keepDraft_166 : decode cX7_keepDraft 166 = .ok (.iconst 0, 1) := by decide +kernel
theorem dX7_keepDraft_167 : decode cX7_keepDraft 167 = .ok (.bastore, 1) := by decide +kernel
theorem dX7_keepDraft_168 : decode cX7_keepDraft 168 = .ok (.return_, 1) := by decide +kernel
set_option maxRecDepth 20000 in
theorem ggX7_feed_X7_in : GoodIn wsX7_feed wsX7_in := goodIn_r _ [7] (by decide +kernel) (by decide +kernel)
set_option maxRecDepth 20000 in
theorem gX7_feed_X7_in : GoodIn wsX7_feed (va_wsS RX7 110 yX7_in wsX7_in) := goodIn_app (goodIn_of _ (by decide +kernel)) ggX7_feed_X7_in
theorem dX7_feed_0 : decode cX7_feed 0 = .ok (.iload_n 1, 1) := by decide +kernel
theorem dX7_feed_1 : decode cX7_feed 1 = .ok (.i2l, 1) := by decide +kernel
theorem dX7_feed_2 : decode cX7_feed 2 = .ok (.lconst 0, 1) := by decide +kernel
theorem dX7_feed_3 : decode cX7_feed 3 = .ok (.ldc2_w 108, 3) := by decide +kernel
theorem dX7_feed_6 : decode cX7_feed 6 = .ok (.invokestatic 110, 3) := by decide +kernel
theorem dX7_feed_9 : decode cX7_feed 9 = .ok (.ifCond .ne 5, 3) := by decide +kernel
theorem dX7_feed_12 : decode cX7_feed 12 = .ok (.iconst (-1), 1) := by decide +kernel
theorem dX7_feed_13 : decode cX7_feed 13 = .ok (.ireturn, 1) := by decide +kernel
theorem dX7_feed_14 : decode cX7_feed 14 = .ok (.aload_n 0, 1) := by decide +kernel
theorem dX7_feed_15 : decode cX7_feed 15 = .ok (.getfield 114, 3) := by decide +kernel
theorem dX7_feed_18 : decode cX7_feed 18 = .ok (.sipush 160, 3) := by decide +kernel
theorem dX7_feed_21 : decode cX7_feed 21 = .ok (.if_icmp .ne 6, 3) := by decide +kernel
theorem dX7_feed_24 : decode cX7_feed 24 = .ok (.bipush (-3), 2) := by decide +kernel
theorem dX7_feed_26 : decode cX7_feed 26 = .ok (.ireturn, 1) := by decide +kernel
theorem dX7_feed_27 : decode cX7_feed 27 = .ok (.aload_n 0, 1) := by decide +kernel
theorem dX7_feed_28 : decode cX7_feed 28 = .ok (.getfield 59, 3) := by decide +kernel
theorem dX7_feed_31 : decode cX7_feed 31 = .ok (.aload_n 0, 1) := by decide +kernel
theorem dX7_feed_32 : decode cX7_feed 32 = .ok (.getfield 114, 3) := by decide +kernel
theorem dX7_feed_35 : decode cX7_feed 35 = .ok (.iload_n 1, 1) := by decide +kernel
theorem dX7_feed_36 : decode cX7_feed 36 = .ok (.iastore, 1) := by decide +kernel
theorem dX7_feed_37 : decode cX7_feed 37 = .ok (.aload_n 0, 1) := by decide +kernel
theorem dX7_feed_38 : decode cX7_feed 38 = .ok (.dup, 1) := by decide +kernel
theorem dX7_feed_39 : decode cX7_feed 39 = .ok (.getfield 114, 3) := by decide +kernel
theorem dX7_feed_42 : decode cX7_feed 42 = .ok (.iconst 1, 1) := by decide +kernel
theorem dX7_feed_43 : decode cX7_feed 43 = .ok (.iadd, 1) := by decide +kernel
theorem dX7_feed_44 : decode cX7_feed 44 = .ok (.putfield 114, 3) := by decide +kernel
theorem dX7_feed_47 : decode cX7_feed 47 = .ok (.aload_n 0, 1) := by decide +kernel
theorem dX7_feed_48 : decode cX7_feed 48 = .ok (.getfield 114, 3) := by decide +kernel
theorem dX7_feed_51 : decode cX7_feed 51 = .ok (.ireturn, 1) := by decide +kernel
set_option maxRecDepth 20000 in
theorem ggX7_end_X7_in : GoodIn wsX7_end wsX7_in := goodIn_r _ [5] (by decide +kernel) (by decide +kernel)
set_option maxRecDepth 20000 in
theorem gX7_end_X7_in : GoodIn wsX7_end (va_wsS RX7 110 yX7_in wsX7_in) := goodIn_app (goodIn_of _ (by decide +kernel)) ggX7_end_X7_in
theorem dX7_end_0 : decode cX7_end 0 = .ok (.iload_n 1, 1) := by decide +kernel
theorem dX7_end_1 : decode cX7_end 1 = .ok (.i2l, 1) := by decide +kernel
theorem dX7_end_2 : decode cX7_end 2 = .ok (.lconst 0, 1) := by decide +kernel
theorem dX7_end_3 : decode cX7_end 3 = .ok (.aload_n 0, 1) := by decide +kernel
theorem dX7_end_4 : decode cX7_end 4 = .ok (.getfield 114, 3) := by decide +kernel
theorem dX7_end_7 : decode cX7_end 7 = .ok (.i2l, 1) := by decide +kernel
theorem dX7_end_8 : decode cX7_end 8 = .ok (.invokestatic 110, 3) := by decide +kernel
theorem dX7_end_11 : decode cX7_end 11 = .ok (.ifCond .ne 5, 3) := by decide +kernel
theorem dX7_end_14 : decode cX7_end 14 = .ok (.iconst (-1), 1) := by decide +kernel
theorem dX7_end_15 : decode cX7_end 15 = .ok (.ireturn, 1) := by decide +kernel
theorem dX7_end_16 : decode cX7_end 16 = .ok (.aload_n 0, 1) := by decide +kernel
theorem dX7_end_17 : decode cX7_end 17 = .ok (.getfield 114, 3) := by decide +kernel
theorem dX7_end_20 : decode cX7_end 20 = .ok (.istore_n 2, 1) := by decide +kernel
theorem dX7_end_21 : decode cX7_end 21 = .ok (.aload_n 0, 1) := by decide +kernel
theorem dX7_end_22 : decode cX7_end 22 = .ok (.iload_n 1, 1) := by decide +kernel
theorem dX7_end_23 : decode cX7_end 23 = .ok (.putfield 114, 3) := by decide +kernel
theorem dX7_end_26 : decode cX7_end 26 = .ok (.iload_n 2, 1) := by decide +kernel
theorem dX7_end_27 : decode cX7_end 27 = .ok (.ireturn, 1) := by decide +kernel
theorem dX7_needs_0 : decode cX7_needs 0 = .ok (.iload_n 1, 1) := by decide +kernel
theorem dX7_needs_1 : decode cX7_needs 1 = .ok (.ifCond .ne 23, 3) := by decide +kernel
theorem dX7_needs_4 : decode cX7_needs 4 = .ok (.aload_n 0, 1) := by decide +kernel
theorem dX7_needs_5 : decode cX7_needs 5 = .ok (.getfield 117, 3) := by decide +kernel
theorem dX7_needs_8 : decode cX7_needs 8 = .ok (.ifCond .ne 16, 3) := by decide +kernel
theorem dX7_needs_11 : decode cX7_needs 11 = .ok (.aload_n 0, 1) := by decide +kernel
theorem dX7_needs_12 : decode cX7_needs 12 = .ok (.iload_n 2, 1) := by decide +kernel
theorem dX7_needs_13 : decode cX7_needs 13 = .ok (.putfield 117, 3) := by decide +kernel
theorem dX7_needs_16 : decode cX7_needs 16 = .ok (.aload_n 0, 1) := by decide +kernel
theorem dX7_needs_17 : decode cX7_needs 17 = .ok (.aload_n 0, 1) := by decide +kernel
theorem dX7_needs_18 : decode cX7_needs 18 = .ok (.getfield 120, 3) := by decide +kernel
theorem dX7_needs_21 : decode cX7_needs 21 = .ok (.putfield 123, 3) := by decide +kernel
theorem dX7_needs_24 : decode cX7_needs 24 = .ok (.return_, 1) := by decide +kernel
theorem dX7_byteAt_0 : decode cX7_byteAt 0 = .ok (.iload_n 1, 1) := by decide +kernel
theorem dX7_byteAt_1 : decode cX7_byteAt 1 = .ok (.aload_n 0, 1) := by decide +kernel
theorem dX7_byteAt_2 : decode cX7_byteAt 2 = .ok (.getfield 114, 3) := by decide +kernel
theorem dX7_byteAt_5 : decode cX7_byteAt 5 = .ok (.if_icmp .ge 12, 3) := by decide +kernel
theorem dX7_byteAt_8 : decode cX7_byteAt 8 = .ok (.aload_n 0, 1) := by decide +kernel
theorem dX7_byteAt_9 : decode cX7_byteAt 9 = .ok (.getfield 59, 3) := by decide +kernel
theorem dX7_byteAt_12 : decode cX7_byteAt 12 = .ok (.iload_n 1, 1) := by decide +kernel
theorem dX7_byteAt_13 : decode cX7_byteAt 13 = .ok (.iaload, 1) := by decide +kernel
theorem dX7_byteAt_14 : decode cX7_byteAt 14 = .ok (.goto 4, 3) := by decide +kernel
theorem dX7_byteAt_17 : decode cX7_byteAt 17 = .ok (.iconst (-1), 1) := by decide +kernel
theorem dX7_byteAt_18 : decode cX7_byteAt 18 = .ok (.ireturn, 1) := by decide +kernel
set_option maxRecDepth 20000 in
theorem ggX7_is_X7_byteAt : GoodIn wsX7_is wsX7_byteAt := goodIn_r _ [7, 8, 9, 10, 11, 12, 13, 14, 15, 16, 17, 18, 19, 20, 21, 22, 23, 24, 25, 26, 27, 28, 29, 30, 31, 32, 33, 34, 35, 36, 37, 38, 39, 40, 41, 42, 43, 44, 45, 46, 47, 48] (by decide +kernel) (by decide +kernel)
set_option maxRecDepth 20000 in
theorem gX7_is_X7_byteAt : GoodIn wsX7_is (wsV RX7 129 RX7 yX7_byteAt wsX7_byteAt) := goodIn_app (goodIn_of _ (by decide +kernel)) ggX7_is_X7_byteAt
theorem dX7_is_0 : decode cX7_is 0 = .ok (.aload_n 0, 1) := by decide +kernel
theorem dX7_is_1 : decode cX7_is 1 = .ok (.getfield 126, 3) := by decide +kernel
theorem dX7_is_4 : decode cX7_is 4 = .ok (.aload_n 0, 1) := by decide +kernel
theorem dX7_is_5 : decode cX7_is 5 = .ok (.getfield 120, 3) := by decide +kernel
theorem dX7_is_8 : decode cX7_is 8 = .ok (.isub, 1) := by decide +kernel
theorem dX7_is_9 : decode cX7_is 9 = .ok (.iload_n 1, 1) := by decide +kernel
theorem dX7_is_10 : decode cX7_is 10 = .ok (.if_icmp .ne 63, 3) := by decide +kernel
theorem dX7_is_13 : decode cX7_is 13 = .ok (.aload_n 0, 1) := by decide +kernel
theorem dX7_is_14 : decode cX7_is 14 = .ok (.aload_n 0, 1) := by decide +kernel
theorem dX7_is_15 : decode cX7_is 15 = .ok (.getfield 120, 3) := by decide +kernel
theorem dX7_is_18 : decode cX7_is 18 = .ok (.invokevirtual 129, 3) := by decide +kernel
theorem dX7_is_21 : decode cX7_is 21 = .ok (.iload_n 2, 1) := by decide +kernel
theorem dX7_is_22 : decode cX7_is 22 = .ok (.if_icmp .ne 51, 3) := by decide +kernel
theorem dX7_is_25 : decode cX7_is 25 = .ok (.aload_n 0, 1) := by decide +kernel
theorem dX7_is_26 : decode cX7_is 26 = .ok (.aload_n 0, 1) := by decide +kernel
theorem dX7_is_27 : decode cX7_is 27 = .ok (.getfield 120, 3) := by decide +kernel
theorem dX7_is_30 : decode cX7_is 30 = .ok (.iconst 1, 1) := by decide +kernel
theorem dX7_is_31 : decode cX7_is 31 = .ok (.iadd, 1) := by decide +kernel
theorem dX7_is_32 : decode cX7_is 32 = .ok (.invokevirtual 129, 3) := by decide +kernel
theorem dX7_is_35 : decode cX7_is 35 = .ok (.iload_n 3, 1) := by decide +kernel
theorem dX7_is_36 : decode cX7_is 36 = .ok (.if_icmp .ne 37, 3) := by decide +kernel
theorem dX7_is_39 : decode cX7_is 39 = .ok (.aload_n 0, 1) := by decide +kernel
theorem dX7_is_40 : decode cX7_is 40 = .ok (.aload_n 0, 1) := by decide +kernel
theorem dX7_is_41 : decode cX7_is 41 = .ok (.getfield 120, 3) := by decide +kernel
theorem dX7_is_44 : decode cX7_is 44 = .ok (.iconst 2, 1) := by decide +kernel
theorem dX7_is_45 : decode cX7_is 45 = .ok (.iadd, 1) := by decide +kernel
theorem dX7_is_46 : decode cX7_is 46 = .ok (.invokevirtual 129, 3) := by decide +kernel
theorem dX7_is_49 : decode cX7_is 49 = .ok (.iload 4, 2) := by decide +kernel
theorem dX7_is_51 : decode cX7_is 51 = .ok (.if_icmp .ne 22, 3) := by decide +kernel
theorem dX7_is_54 : decode cX7_is 54 = .ok (.aload_n 0, 1) := by decide +kernel
theorem dX7_is_55 : decode cX7_is 55 = .ok (.aload_n 0, 1) := by decide +kernel
theorem dX7_is_56 : decode cX7_is 56 = .ok (.getfield 120, 3) := by decide +kernel
theorem dX7_is_59 : decode cX7_is 59 = .ok (.iconst 3, 1) := by decide +kernel
theorem dX7_is_60 : decode cX7_is 60 = .ok (.iadd, 1) := by decide +kernel
theorem dX7_is_61 : decode cX7_is 61 = .ok (.invokevirtual 129, 3) := by decide +kernel
theorem dX7_is_64 : decode cX7_is 64 = .ok (.iload 5, 2) := by decide +kernel
theorem dX7_is_66 : decode cX7_is 66 = .ok (.if_icmp .ne 7, 3) := by decide +kernel
theorem dX7_is_69 : decode cX7_is 69 = .ok (.iconst 1, 1) := by decide +kernel
theorem dX7_is_70 : decode cX7_is 70 = .ok (.goto 4, 3) := by decide +kernel
theorem dX7_is_73 : decode cX7_is 73 = .ok (.iconst 0, 1) := by decide +kernel
theorem dX7_is_74 : decode cX7_is 74 = .ok (.ireturn, 1) := by decide +kernel
set_option maxRecDepth 20000 in
theorem ggX7_ends_X7_byteAt : GoodIn wsX7_ends wsX7_byteAt := goodIn_r _ [6, 7, 8, 9, 10, 11, 12, 13, 14, 15, 16, 17, 18, 19, 20, 21, 22, 23, 24, 25, 26, 27, 28, 29, 30, 31, 32, 33, 34, 35, 36, 37, 38, 39, 40, 41, 42, 43, 44, 45, 46, 47] (by decide +kernel) (by decide +kernel)
set_option maxRecDepth 20000 in
theorem gX7_ends_X7_byteAt : GoodIn wsX7_ends (wsV RX7 129 RX7 yX7_byteAt wsX7_byteAt) := goodIn_app (goodIn_of _ (by decide +kernel)) ggX7_ends_X7_byteAt
theorem dX7_ends_0 : decode cX7_ends 0 = .ok (.aload_n 0, 1) := by decide +kernel
theorem dX7_ends_1 : decode cX7_ends 1 = .ok (.aload_n 0, 1) := by decide +kernel
theorem dX7_ends_2 : decode cX7_ends 2 = .ok (.getfield 120, 3) := by decide +kernel
theorem dX7_ends_5 : decode cX7_ends 5 = .ok (.iconst 4, 1) := by decide +kernel
theorem dX7_ends_6 : decode cX7_ends 6 = .ok (.iadd, 1) := by decide +kernel
theorem dX7_ends_7 : decode cX7_ends 7 = .ok (.invokevirtual 129, 3) := by decide +kernel
theorem dX7_ends_10 : decode cX7_ends 10 = .ok (.iload_n 1, 1) := by decide +kernel
theorem dX7_ends_11 : decode cX7_ends 11 = .ok (.if_icmp .ne 65, 3) := by decide +kernel
theorem dX7_ends_14 : decode cX7_ends 14 = .ok (.iload_n 2, 1) := by decide +kernel
theorem dX7_ends_15 : decode cX7_ends 15 = .ok (.ifCond .eq 17, 3) := by decide +kernel
theorem dX7_ends_18 : decode cX7_ends 18 = .ok (.aload_n 0, 1) := by decide +kernel
theorem dX7_ends_19 : decode cX7_ends 19 = .ok (.aload_n 0, 1) := by decide +kernel
theorem dX7_ends_20 : decode cX7_ends 20 = .ok (.getfield 120, 3) := by decide +kernel
theorem dX7_ends_23 : decode cX7_ends 23 = .ok (.iconst 5, 1) := by decide +kernel
theorem dX7_ends_24 : decode cX7_ends 24 = .ok (.iadd, 1) := by decide +kernel
theorem dX7_ends_25 : decode cX7_ends 25 = .ok (.invokevirtual 129, 3) := by decide +kernel
theorem dX7_ends_28 : decode cX7_ends 28 = .ok (.iload_n 2, 1) := by decide +kernel
theorem dX7_ends_29 : decode cX7_ends 29 = .ok (.if_icmp .ne 47, 3) := by decide +kernel
theorem dX7_ends_32 : decode cX7_ends 32 = .ok (.iload_n 3, 1) := by decide +kernel
theorem dX7_ends_33 : decode cX7_ends 33 = .ok (.ifCond .eq 18, 3) := by decide +kernel
theorem dX7_ends_36 : decode cX7_ends 36 = .ok (.aload_n 0, 1) := by decide +kernel
theorem dX7_ends_37 : decode cX7_ends 37 = .ok (.aload_n 0, 1) := by decide +kernel
theorem dX7_ends_38 : decode cX7_ends 38 = .ok (.getfield 120, 3) := by decide +kernel
theorem dX7_ends_41 : decode cX7_ends 41 = .ok (.bipush 6, 2) := by decide +kernel
theorem dX7_ends_43 : decode cX7_ends 43 = .ok (.iadd, 1) := by decide +kernel
theorem dX7_ends_44 : decode cX7_ends 44 = .ok (.invokevirtual 129, 3) := by decide +kernel
theorem dX7_ends_47 : decode cX7_ends 47 = .ok (.iload_n 3, 1) := by decide +kernel
theorem dX7_ends_48 : decode cX7_ends 48 = .ok (.if_icmp .ne 28, 3) := by decide +kernel
theorem dX7_ends_51 : decode cX7_ends 51 = .ok (.iload 4, 2) := by decide +kernel
theorem dX7_ends_53 : decode cX7_ends 53 = .ok (.ifCond .eq 19, 3) := by decide +kernel
theorem dX7_ends_56 : decode cX7_ends 56 = .ok (.aload_n 0, 1) := by decide +kernel
theorem dX7_ends_57 : decode cX7_ends 57 = .ok (.aload_n 0, 1) := by decide +kernel
theorem dX7_ends_58 : decode cX7_ends 58 = .ok (.getfield 120, 3) := by decide +kernel
theorem dX7_ends_61 : decode cX7_ends 61 = .ok (.bipush 7, 2) := by decide +kernel
theorem dX7_ends_63 : decode cX7_ends 63 = .ok (.iadd, 1) := by decide +kernel
theorem dX7_ends_64 : decode cX7_ends 64 = .ok (.invokevirtual 129, 3) := by decide +kernel
theorem dX7_ends_67 : decode cX7_ends 67 = .ok (.iload 4, 2) := by decide +kernel
theorem dX7_ends_69 : decode cX7_ends 69 = .ok (.if_icmp .ne 7, 3) := by decide +kernel
theorem dX7_ends_72 : decode cX7_ends 72 = .ok (.iconst 1, 1) := by decide +kernel
theorem dX7_ends_73 : decode cX7_ends 73 = .ok (.goto 4, 3) := by decide +kernel
theorem dX7_ends_76 : decode cX7_ends 76 = .ok (.iconst 0, 1) := by decide +kernel
theorem dX7_ends_77 : decode cX7_ends 77 = .ok (.ireturn, 1) := by decide +kernel
set_option maxRecDepth 20000 in
theorem ggX7_lineNow_X7_is : GoodIn wsX7_lineNow wsX7_is := goodIn_r _ [5, 6, 7, 8, 9, 10, 4, 11, 12, 13, 18, 19, 20, 21, 22, 23, 24, 25, 26, 27, 28, 29, 30, 31, 32, 33, 34, 35, 36, 37, 38, 39, 40, 41, 42, 43, 44, 45, 46, 47, 48, 49, 50, 51, 52, 53, 54, 55, 56] (by decide +kernel) (by decide +kernel)
set_option maxRecDepth 20000 in
theorem gX7_lineNow_X7_is : GoodIn wsX7_lineNow (wsV RX7 133 RX7 yX7_is wsX7_is) := goodIn_app (goodIn_of _ (by decide +kernel)) ggX7_lineNow_X7_is
set_option maxRecDepth 20000 in
theorem ggX7_lineNow_X7_ends : GoodIn wsX7_lineNow wsX7_ends := goodIn_r _ [17, 7, 8, 9, 10, 4, 11, 12, 13, 18, 19, 20, 21, 22, 23, 24, 25, 26, 27, 28, 29, 30, 31, 32, 33, 34, 35, 36, 37, 38, 39, 40, 41, 42, 43, 44, 45, 46, 47, 48, 49, 50, 51, 52, 53, 54, 55, 56] (by decide +kernel) (by decide +kernel)
set_option maxRecDepth 20000 in
theorem gX7_lineNow_X7_ends : GoodIn wsX7_lineNow (wsV RX7 137 RX7 yX7_ends wsX7_ends) := goodIn_app (goodIn_of _ (by decide +kernel)) ggX7_lineNow_X7_ends
theorem dX7_lineNow_0 : decode cX7_lineNow 0 = .ok (.aload_n 0, 1) := by decide +kernel
theorem dX7_lineNow_1 : decode cX7_lineNow 1 = .ok (.iconst 5, 1) := by decide +kernel
theorem dX7_lineNow_2 : decode cX7_lineNow 2 = .ok (.bipush 112, 2) := by decide +kernel
theorem dX7_lineNow_4 : decode cX7_lineNow 4 = .ok (.bipush 108, 2) := by decide +kernel
theorem dX7_lineNow_6 : decode cX7_lineNow 6 = .ok (.bipush 97, 2) := by decide +kernel
theorem dX7_lineNow_8 : decode cX7_lineNow 8 = .ok (.bipush 105, 2) := by decide +kernel
theorem dX7_lineNow_10 : decode cX7_lineNow 10 = .ok (.invokevirtual 133, 3) := by decide +kernel
theorem dX7_lineNow_13 : decode cX7_lineNow 13 = .ok (.ifCond .eq 17, 3) := by decide +kernel
theorem dX7_lineNow_16 : decode cX7_lineNow 16 = .ok (.aload_n 0, 1) := by decide +kernel
theorem dX7_lineNow_17 : decode cX7_lineNow 17 = .ok (.bipush 110, 2) := by decide +kernel
theorem dX7_lineNow_19 : decode cX7_lineNow 19 = .ok (.iconst 0, 1) := by decide +kernel
theorem dX7_lineNow_20 : decode cX7_lineNow 20 = .ok (.iconst 0, 1) := by decide +kernel
theorem dX7_lineNow_21 : decode cX7_lineNow 21 = .ok (.iconst 0, 1) := by decide +kernel
theorem dX7_lineNow_22 : decode cX7_lineNow 22 = .ok (.invokevirtual 137, 3) := by decide +kernel
theorem dX7_lineNow_25 : decode cX7_lineNow 25 = .ok (.ifCond .eq 5, 3) := by decide +kernel
theorem dX7_lineNow_28 : decode cX7_lineNow 28 = .ok (.iconst 0, 1) := by decide +kernel
theorem dX7_lineNow_29 : decode cX7_lineNow 29 = .ok (.ireturn, 1) := by decide +kernel
theorem dX7_lineNow_30 : decode cX7_lineNow 30 = .ok (.aload_n 0, 1) := by decide +kernel
theorem dX7_lineNow_31 : decode cX7_lineNow 31 = .ok (.bipush 6, 2) := by decide +kernel
theorem dX7_lineNow_33 : decode cX7_lineNow 33 = .ok (.bipush 98, 2) := by decide +kernel
theorem dX7_lineNow_35 : decode cX7_lineNow 35 = .ok (.bipush 105, 2) := by decide +kernel
theorem dX7_lineNow_37 : decode cX7_lineNow 37 = .ok (.bipush 115, 2) := by decide +kernel
theorem dX7_lineNow_39 : decode cX7_lineNow 39 = .ok (.bipush 104, 2) := by decide +kernel
theorem dX7_lineNow_41 : decode cX7_lineNow 41 = .ok (.invokevirtual 133, 3) := by decide +kernel
theorem dX7_lineNow_44 : decode cX7_lineNow 44 = .ok (.ifCond .eq 18, 3) := by decide +kernel
theorem dX7_lineNow_47 : decode cX7_lineNow 47 = .ok (.aload_n 0, 1) := by decide +kernel
theorem dX7_lineNow_48 : decode cX7_lineNow 48 = .ok (.bipush 111, 2) := by decide +kernel
theorem dX7_lineNow_50 : decode cX7_lineNow 50 = .ok (.bipush 112, 2) := by decide +kernel
theorem dX7_lineNow_52 : decode cX7_lineNow 52 = .ok (.iconst 0, 1) := by decide +kernel
theorem dX7_lineNow_53 : decode cX7_lineNow 53 = .ok (.iconst 0, 1) := by decide +kernel
theorem dX7_lineNow_54 : decode cX7_lineNow 54 = .ok (.invokevirtual 137, 3) := by decide +kernel
theorem dX7_lineNow_57 : decode cX7_lineNow 57 = .ok (.ifCond .eq 5, 3) := by decide +kernel
theorem dX7_lineNow_60 : decode cX7_lineNow 60 = .ok (.iconst 1, 1) := by decide +kernel
theorem dX7_lineNow_61 : decode cX7_lineNow 61 = .ok (.ireturn, 1) := by decide +kernel
theorem dX7_lineNow_62 : decode cX7_lineNow 62 = .ok (.aload_n 0, 1) := by decide +kernel
theorem dX7_lineNow_63 : decode cX7_lineNow 63 = .ok (.iconst 5, 1) := by decide +kernel
theorem dX7_lineNow_64 : decode cX7_lineNow 64 = .ok (.bipush 98, 2) := by decide +kernel
theorem dX7_lineNow_66 : decode cX7_lineNow 66 = .ok (.bipush 114, 2) := by decide +kernel
theorem dX7_lineNow_68 : decode cX7_lineNow 68 = .ok (.bipush 105, 2) := by decide +kernel
theorem dX7_lineNow_70 : decode cX7_lineNow 70 = .ok (.bipush 100, 2) := by decide +kernel
theorem dX7_lineNow_72 : decode cX7_lineNow 72 = .ok (.invokevirtual 133, 3) := by decide +kernel
theorem dX7_lineNow_75 : decode cX7_lineNow 75 = .ok (.ifCond .eq 17, 3) := by decide +kernel
theorem dX7_lineNow_78 : decode cX7_lineNow 78 = .ok (.aload_n 0, 1) := by decide +kernel
theorem dX7_lineNow_79 : decode cX7_lineNow 79 = .ok (.bipush 101, 2) := by decide +kernel
theorem dX7_lineNow_81 : decode cX7_lineNow 81 = .ok (.iconst 0, 1) := by decide +kernel
theorem dX7_lineNow_82 : decode cX7_lineNow 82 = .ok (.iconst 0, 1) := by decide +kernel
theorem dX7_lineNow_83 : decode cX7_lineNow 83 = .ok (.iconst 0, 1) := by decide +kernel
theorem dX7_lineNow_84 : decode cX7_lineNow 84 = .ok (.invokevirtual 137, 3) := by decide +kernel
theorem dX7_lineNow_87 : decode cX7_lineNow 87 = .ok (.ifCond .eq 5, 3) := by decide +kernel
theorem dX7_lineNow_90 : decode cX7_lineNow 90 = .ok (.iconst 2, 1) := by decide +kernel
theorem dX7_lineNow_91 : decode cX7_lineNow 91 = .ok (.ireturn, 1) := by decide +kernel
theorem dX7_lineNow_92 : decode cX7_lineNow 92 = .ok (.aload_n 0, 1) := by decide +kernel
theorem dX7_lineNow_93 : decode cX7_lineNow 93 = .ok (.iconst 5, 1) := by decide +kernel
theorem dX7_lineNow_94 : decode cX7_lineNow 94 = .ok (.bipush 119, 2) := by decide +kernel
theorem dX7_lineNow_96 : decode cX7_lineNow 96 = .ok (.bipush 105, 2) := by decide +kernel
theorem dX7_lineNow_98 : decode cX7_lineNow 98 = .ok (.bipush 100, 2) := by decide +kernel
theorem dX7_lineNow_100 : decode cX7_lineNow 100 = .ok (.bipush 111, 2) := by decide +kernel
theorem dX7_lineNow_102 : decode cX7_lineNow 102 = .ok (.invokevirtual 133, 3) := by decide +kernel
theorem dX7_lineNow_105 : decode cX7_lineNow 105 = .ok (.ifCond .eq 17, 3) := by decide +kernel
theorem dX7_lineNow_108 : decode cX7_lineNow 108 = .ok (.aload_n 0, 1) := by decide +kernel
theorem dX7_lineNow_109 : decode cX7_lineNow 109 = .ok (.bipush 119, 2) := by decide +kernel
theorem dX7_lineNow_111 : decode cX7_lineNow 111 = .ok (.iconst 0, 1) := by decide +kernel
theorem dX7_lineNow_112 : decode cX7_lineNow 112 = .ok (.iconst 0, 1) := by decide +kernel
theorem dX7_lineNow_113 : decode cX7_lineNow 113 = .ok (.iconst 0, 1) := by decide +kernel
theorem dX7_lineNow_114 : decode cX7_lineNow 114 = .ok (.invokevirtual 137, 3) := by decide +kernel
theorem dX7_lineNow_117 : decode cX7_lineNow 117 = .ok (.ifCond .eq 5, 3) := by decide +kernel
theorem dX7_lineNow_120 : decode cX7_lineNow 120 = .ok (.iconst 3, 1) := by decide +kernel
theorem dX7_lineNow_121 : decode cX7_lineNow 121 = .ok (.ireturn, 1) := by decide +kernel
theorem dX7_lineNow_122 : decode cX7_lineNow 122 = .ok (.aload_n 0, 1) := by decide +kernel
theorem dX7_lineNow_123 : decode cX7_lineNow 123 = .ok (.iconst 4, 1) := by decide +kernel
theorem dX7_lineNow_124 : decode cX7_lineNow 124 = .ok (.bipush 116, 2) := by decide +kernel
theorem dX7_lineNow_126 : decode cX7_lineNow 126 = .ok (.bipush 114, 2) := by decide +kernel
theorem dX7_lineNow_128 : decode cX7_lineNow 128 = .ok (.bipush 105, 2) := by decide +kernel
theorem dX7_lineNow_130 : decode cX7_lineNow 130 = .ok (.bipush 112, 2) := by decide +kernel
theorem dX7_lineNow_132 : decode cX7_lineNow 132 = .ok (.invokevirtual 133, 3) := by decide +kernel
theorem dX7_lineNow_135 : decode cX7_lineNow 135 = .ok (.ifCond .eq 5, 3) := by decide +kernel
theorem dX7_lineNow_138 : decode cX7_lineNow 138 = .ok (.iconst 4, 1) := by decide +kernel
theorem dX7_lineNow_139 : decode cX7_lineNow 139 = .ok (.ireturn, 1) := by decide +kernel
theorem dX7_lineNow_140 : decode cX7_lineNow 140 = .ok (.aload_n 0, 1) := by decide +kernel
theorem dX7_lineNow_141 : decode cX7_lineNow 141 = .ok (.iconst 5, 1) := by decide +kernel
theorem dX7_lineNow_142 : decode cX7_lineNow 142 = .ok (.bipush 97, 2) := by decide +kernel
theorem dX7_lineNow_144 : decode cX7_lineNow 144 = .ok (.bipush 115, 2) := by decide +kernel
theorem dX7_lineNow_146 : decode cX7_lineNow 146 = .ok (.bipush 107, 2) := by decide +kernel
theorem dX7_lineNow_148 : decode cX7_lineNow 148 = .ok (.bipush 101, 2) := by decide +kernel
theorem dX7_lineNow_150 : decode cX7_lineNow 150 = .ok (.invokevirtual 133, 3) := by decide +kernel
theorem dX7_lineNow_153 : decode cX7_lineNow 153 = .ok (.ifCond .eq 17, 3) := by decide +kernel
theorem dX7_lineNow_156 : decode cX7_lineNow 156 = .ok (.aload_n 0, 1) := by decide +kernel
theorem dX7_lineNow_157 : decode cX7_lineNow 157 = .ok (.bipush 100, 2) := by decide +kernel
theorem dX7_lineNow_159 : decode cX7_lineNow 159 = .ok (.iconst 0, 1) := by decide +kernel
theorem dX7_lineNow_160 : decode cX7_lineNow 160 = .ok (.iconst 0, 1) := by decide +kernel
theorem dX7_lineNow_161 : decode cX7_lineNow 161 = .ok (.iconst 0, 1) := by decide +kernel
theorem dX7_lineNow_162 : decode cX7_lineNow 162 = .ok (.invokevirtual 137, 3) := by decide +kernel
theorem dX7_lineNow_165 : decode cX7_lineNow 165 = .ok (.ifCond .eq 5, 3) := by decide +kernel
theorem dX7_lineNow_168 : decode cX7_lineNow 168 = .ok (.iconst 5, 1) := by decide +kernel
theorem dX7_lineNow_169 : decode cX7_lineNow 169 = .ok (.ireturn, 1) := by decide +kernel
theorem dX7_lineNow_170 : decode cX7_lineNow 170 = .ok (.aload_n 0, 1) := by decide +kernel
theorem dX7_lineNow_171 : decode cX7_lineNow 171 = .ok (.bipush 8, 2) := by decide +kernel
theorem dX7_lineNow_173 : decode cX7_lineNow 173 = .ok (.bipush 105, 2) := by decide +kernel
theorem dX7_lineNow_175 : decode cX7_lineNow 175 = .ok (.bipush 110, 2) := by decide +kernel
theorem dX7_lineNow_177 : decode cX7_lineNow 177 = .ok (.bipush 116, 2) := by decide +kernel
theorem dX7_lineNow_179 : decode cX7_lineNow 179 = .ok (.bipush 101, 2) := by decide +kernel
theorem dX7_lineNow_181 : decode cX7_lineNow 181 = .ok (.invokevirtual 133, 3) := by decide +kernel
theorem dX7_lineNow_184 : decode cX7_lineNow 184 = .ok (.ifCond .eq 23, 3) := by decide +kernel
theorem dX7_lineNow_187 : decode cX7_lineNow 187 = .ok (.aload_n 0, 1) := by decide +kernel
theorem dX7_lineNow_188 : decode cX7_lineNow 188 = .ok (.bipush 114, 2) := by decide +kernel
theorem dX7_lineNow_190 : decode cX7_lineNow 190 = .ok (.bipush 101, 2) := by decide +kernel
theorem dX7_lineNow_192 : decode cX7_lineNow 192 = .ok (.bipush 115, 2) := by decide +kernel
theorem dX7_lineNow_194 : decode cX7_lineNow 194 = .ok (.bipush 116, 2) := by decide +kernel
theorem dX7_lineNow_196 : decode cX7_lineNow 196 = .ok (.invokevirtual 137, 3) := by decide +kernel
theorem dX7_lineNow_199 : decode cX7_lineNow 199 = .ok (.ifCond .eq 8, 3) := by decide +kernel
theorem dX7_lineNow_202 : decode cX7_lineNow 202 = .ok (.bipush 6, 2) := by decide +kernel
theorem dX7_lineNow_204 : decode cX7_lineNow 204 = .ok (.goto 38, 3) := by decide +kernel
theorem dX7_lineNow_207 : decode cX7_lineNow 207 = .ok (.aload_n 0, 1) := by decide +kernel
theorem dX7_lineNow_208 : decode cX7_lineNow 208 = .ok (.iconst 5, 1) := by decide +kernel
theorem dX7_lineNow_209 : decode cX7_lineNow 209 = .ok (.bipush 99, 2) := by decide +kernel
theorem dX7_lineNow_211 : decode cX7_lineNow 211 = .ok (.bipush 111, 2) := by decide +kernel
theorem dX7_lineNow_213 : decode cX7_lineNow 213 = .ok (.bipush 118, 2) := by decide +kernel
theorem dX7_lineNow_215 : decode cX7_lineNow 215 = .ok (.bipush 101, 2) := by decide +kernel
theorem dX7_lineNow_217 : decode cX7_lineNow 217 = .ok (.invokevirtual 133, 3) := by decide +kernel
theorem dX7_lineNow_220 : decode cX7_lineNow 220 = .ok (.ifCond .eq 20, 3) := by decide +kernel
theorem dX7_lineNow_223 : decode cX7_lineNow 223 = .ok (.aload_n 0, 1) := by decide +kernel
theorem dX7_lineNow_224 : decode cX7_lineNow 224 = .ok (.bipush 114, 2) := by decide +kernel
theorem dX7_lineNow_226 : decode cX7_lineNow 226 = .ok (.iconst 0, 1) := by decide +kernel
theorem dX7_lineNow_227 : decode cX7_lineNow 227 = .ok (.iconst 0, 1) := by decide +kernel
theorem dX7_lineNow_228 : decode cX7_lineNow 228 = .ok (.iconst 0, 1) := by decide +kernel
theorem dX7_lineNow_229 : decode cX7_lineNow 229 = .ok (.invokevirtual 137, 3) := by decide +kernel
theorem dX7_lineNow_232 : decode cX7_lineNow 232 = .ok (.ifCond .eq 8, 3) := by decide +kernel
theorem dX7_lineNow_235 : decode cX7_lineNow 235 = .ok (.bipush 7, 2) := by decide +kernel
theorem dX7_lineNow_237 : decode cX7_lineNow 237 = .ok (.goto 5, 3) := by decide +kernel
theorem dX7_lineNow_240 : decode cX7_lineNow 240 = .ok (.bipush (-4), 2) := by decide +kernel
theorem dX7_lineNow_242 : decode cX7_lineNow 242 = .ok (.ireturn, 1) := by decide +kernel
set_option maxRecDepth 20000 in
theorem ggX7_next_X7_byteAt : GoodIn wsX7_next wsX7_byteAt := goodIn_r _ [14, 15, 16, 25, 26, 27, 28, 29, 30, 31, 32, 33, 34, 35, 36, 37, 38, 39, 40, 41, 42, 43, 44, 45, 46, 47, 48, 49, 50, 51, 52, 53, 54, 55, 56, 57, 58, 59, 60, 61, 62, 63] (by decide +kernel) (by decide +kernel)
set_option maxRecDepth 20000 in
theorem gX7_next_X7_byteAt : GoodIn wsX7_next (wsV RX7 129 RX7 yX7_byteAt wsX7_byteAt) := goodIn_app (goodIn_of _ (by decide +kernel)) ggX7_next_X7_byteAt
set_option maxRecDepth 20000 in
theorem ggX7_next_X7_in : GoodIn wsX7_next wsX7_in := goodIn_r _ [19] (by decide +kernel) (by decide +kernel)
set_option maxRecDepth 20000 in
theorem gX7_next_X7_in : GoodIn wsX7_next (va_wsS RX7 110 yX7_in wsX7_in) := goodIn_app (goodIn_of _ (by decide +kernel)) ggX7_next_X7_in
set_option maxRecDepth 20000 in
theorem ggX7_next_X7_needs : GoodIn wsX7_next wsX7_needs := goodIn_r _ [23, 1, 3, 24, 25, 26, 27, 28, 29, 30, 31, 32, 33, 34, 35, 36, 37, 38, 39, 40, 41, 42, 43, 44, 45, 46, 47, 48, 49, 50, 51, 52, 53, 54, 55, 56, 57, 58, 59, 60, 61, 62, 63] (by decide +kernel) (by decide +kernel)
set_option maxRecDepth 20000 in
theorem gX7_next_X7_needs : GoodIn wsX7_next (wsV RX7 155 RX7 yX7_needs wsX7_needs) := goodIn_app (goodIn_of _ (by decide +kernel)) ggX7_next_X7_needs
theorem dX7_next_0 : decode cX7_next 0 = .ok (.aload_n 0, 1) := by decide +kernel
theorem dX7_next_1 : decode cX7_next 1 = .ok (.getfield 117, 3) := by decide +kernel
theorem dX7_next_4 : decode cX7_next 4 = .ok (.ifCond .le 4, 3) := by decide +kernel
theorem dX7_next_7 : decode cX7_next 7 = .ok (.return_, 1) := by decide +kernel
theorem dX7_next_8 : decode cX7_next 8 = .ok (.aload_n 0, 1) := by decide +kernel
theorem dX7_next_9 : decode cX7_next 9 = .ok (.aload_n 0, 1) := by decide +kernel
theorem dX7_next_10 : decode cX7_next 10 = .ok (.getfield 126, 3) := by decide +kernel
theorem dX7_next_13 : decode cX7_next 13 = .ok (.invokevirtual 129, 3) := by decide +kernel
theorem dX7_next_16 : decode cX7_next 16 = .ok (.bipush 32, 2) := by decide +kernel
theorem dX7_next_18 : decode cX7_next 18 = .ok (.if_icmp .ne 16, 3) := by decide +kernel
theorem dX7_next_21 : decode cX7_next 21 = .ok (.aload_n 0, 1) := by decide +kernel
theorem dX7_next_22 : decode cX7_next 22 = .ok (.dup, 1) := by decide +kernel
theorem dX7_next_23 : decode cX7_next 23 = .ok (.getfield 126, 3) := by decide +kernel
theorem dX7_next_26 : decode cX7_next 26 = .ok (.iconst 1, 1) := by decide +kernel
theorem dX7_next_27 : decode cX7_next 27 = .ok (.iadd, 1) := by decide +kernel
theorem dX7_next_28 : decode cX7_next 28 = .ok (.putfield 126, 3) := by decide +kernel
theorem dX7_next_31 : decode cX7_next 31 = .ok (.goto (-23), 3) := by decide +kernel
theorem dX7_next_34 : decode cX7_next 34 = .ok (.aload_n 0, 1) := by decide +kernel
theorem dX7_next_35 : decode cX7_next 35 = .ok (.aload_n 0, 1) := by decide +kernel
theorem dX7_next_36 : decode cX7_next 36 = .ok (.getfield 126, 3) := by decide +kernel
theorem dX7_next_39 : decode cX7_next 39 = .ok (.putfield 120, 3) := by decide +kernel
theorem dX7_next_42 : decode cX7_next 42 = .ok (.aload_n 0, 1) := by decide +kernel
theorem dX7_next_43 : decode cX7_next 43 = .ok (.aload_n 0, 1) := by decide +kernel
theorem dX7_next_44 : decode cX7_next 44 = .ok (.getfield 126, 3) := by decide +kernel
theorem dX7_next_47 : decode cX7_next 47 = .ok (.invokevirtual 129, 3) := by decide +kernel
theorem dX7_next_50 : decode cX7_next 50 = .ok (.istore_n 1, 1) := by decide +kernel
theorem dX7_next_51 : decode cX7_next 51 = .ok (.iload_n 1, 1) := by decide +kernel
theorem dX7_next_52 : decode cX7_next 52 = .ok (.ifCond .ge 11, 3) := by decide +kernel
theorem dX7_next_55 : decode cX7_next 55 = .ok (.aload_n 0, 1) := by decide +kernel
theorem dX7_next_56 : decode cX7_next 56 = .ok (.iconst 0, 1) := by decide +kernel
theorem dX7_next_57 : decode cX7_next 57 = .ok (.putfield 141, 3) := by decide +kernel
theorem dX7_next_60 : decode cX7_next 60 = .ok (.goto 214, 3) := by decide +kernel
theorem dX7_next_63 : decode cX7_next 63 = .ok (.iload_n 1, 1) := by decide +kernel
theorem dX7_next_64 : decode cX7_next 64 = .ok (.i2l, 1) := by decide +kernel
theorem dX7_next_65 : decode cX7_next 65 = .ok (.ldc2_w 144, 3) := by decide +kernel
theorem dX7_next_68 : decode cX7_next 68 = .ok (.ldc2_w 146, 3) := by decide +kernel
theorem dX7_next_71 : decode cX7_next 71 = .ok (.invokestatic 110, 3) := by decide +kernel
theorem dX7_next_74 : decode cX7_next 74 = .ok (.ifCond .eq 42, 3) := by decide +kernel
theorem dX7_next_77 : decode cX7_next 77 = .ok (.aload_n 0, 1) := by decide +kernel
theorem dX7_next_78 : decode cX7_next 78 = .ok (.iconst 1, 1) := by decide +kernel
theorem dX7_next_79 : decode cX7_next 79 = .ok (.putfield 141, 3) := by decide +kernel
theorem dX7_next_82 : decode cX7_next 82 = .ok (.aload_n 0, 1) := by decide +kernel
theorem dX7_next_83 : decode cX7_next 83 = .ok (.aload_n 0, 1) := by decide +kernel
theorem dX7_next_84 : decode cX7_next 84 = .ok (.getfield 126, 3) := by decide +kernel
theorem dX7_next_87 : decode cX7_next 87 = .ok (.invokevirtual 129, 3) := by decide +kernel
theorem dX7_next_90 : decode cX7_next 90 = .ok (.i2l, 1) := by decide +kernel
theorem dX7_next_91 : decode cX7_next 91 = .ok (.ldc2_w 144, 3) := by decide +kernel
theorem dX7_next_94 : decode cX7_next 94 = .ok (.ldc2_w 146, 3) := by decide +kernel
theorem dX7_next_97 : decode cX7_next 97 = .ok (.invokestatic 110, 3) := by decide +kernel
theorem dX7_next_100 : decode cX7_next 100 = .ok (.ifCond .eq 174, 3) := by decide +kernel
theorem dX7_next_103 : decode cX7_next 103 = .ok (.aload_n 0, 1) := by decide +kernel
theorem dX7_next_104 : decode cX7_next 104 = .ok (.dup, 1) := by decide +kernel
theorem dX7_next_105 : decode cX7_next 105 = .ok (.getfield 126, 3) := by decide +kernel
theorem dX7_next_108 : decode cX7_next 108 = .ok (.iconst 1, 1) := by decide +kernel
theorem dX7_next_109 : decode cX7_next 109 = .ok (.iadd, 1) := by decide +kernel
theorem dX7_next_110 : decode cX7_next 110 = .ok (.putfield 126, 3) := by decide +kernel
theorem dX7_next_113 : decode cX7_next 113 = .ok (.goto (-31), 3) := by decide +kernel
theorem dX7_next_116 : decode cX7_next 116 = .ok (.iload_n 1, 1) := by decide +kernel
theorem dX7_next_117 : decode cX7_next 117 = .ok (.i2l, 1) := by decide +kernel
theorem dX7_next_118 : decode cX7_next 118 = .ok (.ldc2_w 148, 3) := by decide +kernel
theorem dX7_next_121 : decode cX7_next 121 = .ok (.ldc2_w 150, 3) := by decide +kernel
theorem dX7_next_124 : decode cX7_next 124 = .ok (.invokestatic 110, 3) := by decide +kernel
theorem dX7_next_127 : decode cX7_next 127 = .ok (.ifCond .eq 116, 3) := by decide +kernel
theorem dX7_next_130 : decode cX7_next 130 = .ok (.aload_n 0, 1) := by decide +kernel
theorem dX7_next_131 : decode cX7_next 131 = .ok (.iconst 2, 1) := by decide +kernel
theorem dX7_next_132 : decode cX7_next 132 = .ok (.putfield 141, 3) := by decide +kernel
theorem dX7_next_135 : decode cX7_next 135 = .ok (.aload_n 0, 1) := by decide +kernel
theorem dX7_next_136 : decode cX7_next 136 = .ok (.iconst 0, 1) := by decide +kernel
theorem dX7_next_137 : decode cX7_next 137 = .ok (.putfield 152, 3) := by decide +kernel
theorem dX7_next_140 : decode cX7_next 140 = .ok (.aload_n 0, 1) := by decide +kernel
theorem dX7_next_141 : decode cX7_next 141 = .ok (.aload_n 0, 1) := by decide +kernel
theorem dX7_next_142 : decode cX7_next 142 = .ok (.getfield 126, 3) := by decide +kernel
theorem dX7_next_145 : decode cX7_next 145 = .ok (.invokevirtual 129, 3) := by decide +kernel
theorem dX7_next_148 : decode cX7_next 148 = .ok (.i2l, 1) := by decide +kernel
theorem dX7_next_149 : decode cX7_next 149 = .ok (.ldc2_w 148, 3) := by decide +kernel
theorem dX7_next_152 : decode cX7_next 152 = .ok (.ldc2_w 150, 3) := by decide +kernel
theorem dX7_next_155 : decode cX7_next 155 = .ok (.invokestatic 110, 3) := by decide +kernel
theorem dX7_next_158 : decode cX7_next 158 = .ok (.ifCond .eq 59, 3) := by decide +kernel
theorem dX7_next_161 : decode cX7_next 161 = .ok (.aload_n 0, 1) := by decide +kernel
theorem dX7_next_162 : decode cX7_next 162 = .ok (.aload_n 0, 1) := by decide +kernel
theorem dX7_next_163 : decode cX7_next 163 = .ok (.getfield 126, 3) := by decide +kernel
theorem dX7_next_166 : decode cX7_next 166 = .ok (.aload_n 0, 1) := by decide +kernel
theorem dX7_next_167 : decode cX7_next 167 = .ok (.getfield 120, 3) := by decide +kernel
theorem dX7_next_170 : decode cX7_next 170 = .ok (.isub, 1) := by decide +kernel
theorem dX7_next_171 : decode cX7_next 171 = .ok (.iconst 2, 1) := by decide +kernel
theorem dX7_next_172 : decode cX7_next 172 = .ok (.if_icmp .ge 25, 3) := by decide +kernel
theorem dX7_next_175 : decode cX7_next 175 = .ok (.bipush 10, 2) := by decide +kernel
theorem dX7_next_177 : decode cX7_next 177 = .ok (.aload_n 0, 1) := by decide +kernel
theorem dX7_next_178 : decode cX7_next 178 = .ok (.getfield 152, 3) := by decide +kernel
theorem dX7_next_181 : decode cX7_next 181 = .ok (.imul, 1) := by decide +kernel
theorem dX7_next_182 : decode cX7_next 182 = .ok (.aload_n 0, 1) := by decide +kernel
theorem dX7_next_183 : decode cX7_next 183 = .ok (.aload_n 0, 1) := by decide +kernel
theorem dX7_next_184 : decode cX7_next 184 = .ok (.getfield 126, 3) := by decide +kernel
theorem dX7_next_187 : decode cX7_next 187 = .ok (.invokevirtual 129, 3) := by decide +kernel
theorem dX7_next_190 : decode cX7_next 190 = .ok (.iadd, 1) := by decide +kernel
theorem dX7_next_191 : decode cX7_next 191 = .ok (.bipush 48, 2) := by decide +kernel
theorem dX7_next_193 : decode cX7_next 193 = .ok (.isub, 1) := by decide +kernel
theorem dX7_next_194 : decode cX7_next 194 = .ok (.goto 7, 3) := by decide +kernel
theorem dX7_next_197 : decode cX7_next 197 = .ok (.aload_n 0, 1) := by decide +kernel
theorem dX7_next_198 : decode cX7_next 198 = .ok (.getfield 152, 3) := by decide +kernel
theorem dX7_next_201 : decode cX7_next 201 = .ok (.putfield 152, 3) := by decide +kernel
theorem dX7_next_204 : decode cX7_next 204 = .ok (.aload_n 0, 1) := by decide +kernel
theorem dX7_next_205 : decode cX7_next 205 = .ok (.dup, 1) := by decide +kernel
theorem dX7_next_206 : decode cX7_next 206 = .ok (.getfield 126, 3) := by decide +kernel
theorem dX7_next_209 : decode cX7_next 209 = .ok (.iconst 1, 1) := by decide +kernel
theorem dX7_next_210 : decode cX7_next 210 = .ok (.iadd, 1) := by decide +kernel
theorem dX7_next_211 : decode cX7_next 211 = .ok (.putfield 126, 3) := by decide +kernel
theorem dX7_next_214 : decode cX7_next 214 = .ok (.goto (-74), 3) := by decide +kernel
theorem dX7_next_217 : decode cX7_next 217 = .ok (.aload_n 0, 1) := by decide +kernel
theorem dX7_next_218 : decode cX7_next 218 = .ok (.aload_n 0, 1) := by decide +kernel
theorem dX7_next_219 : decode cX7_next 219 = .ok (.getfield 126, 3) := by decide +kernel
