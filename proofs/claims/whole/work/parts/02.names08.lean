set_option maxRecDepth 20000 in
theorem gX8_shiftsOf_X8_at : GoodIn wsX8_shiftsOf (va_wsS RX8 103 yX8_at wsX8_at) := goodIn_app (goodIn_of _ (by decide +kernel)) ggX8_shiftsOf_X8_at
theorem dX8_shiftsOf_0 : decode cX8_shiftsOf 0 = .ok (.iconst 0, 1) := by decide +kernel
theorem dX8_shiftsOf_1 : decode cX8_shiftsOf 1 = .ok (.istore_n 2, 1) := by decide +kernel
theorem dX8_shiftsOf_2 : decode cX8_shiftsOf 2 = .ok (.iconst 0, 1) := by decide +kernel
theorem dX8_shiftsOf_3 : decode cX8_shiftsOf 3 = .ok (.istore_n 3, 1) := by decide +kernel
theorem dX8_shiftsOf_4 : decode cX8_shiftsOf 4 = .ok (.iload_n 3, 1) := by decide +kernel
theorem dX8_shiftsOf_5 : decode cX8_shiftsOf 5 = .ok (.bipush 8, 2) := by decide +kernel
theorem dX8_shiftsOf_7 : decode cX8_shiftsOf 7 = .ok (.if_icmp .ge 30, 3) := by decide +kernel
theorem dX8_shiftsOf_10 : decode cX8_shiftsOf 10 = .ok (.aload_n 0, 1) := by decide +kernel
theorem dX8_shiftsOf_11 : decode cX8_shiftsOf 11 = .ok (.getfield 25, 3) := by decide +kernel
theorem dX8_shiftsOf_14 : decode cX8_shiftsOf 14 = .ok (.getfield 132, 3) := by decide +kernel
theorem dX8_shiftsOf_17 : decode cX8_shiftsOf 17 = .ok (.iload_n 3, 1) := by decide +kernel
theorem dX8_shiftsOf_18 : decode cX8_shiftsOf 18 = .ok (.invokestatic 103, 3) := by decide +kernel
theorem dX8_shiftsOf_21 : decode cX8_shiftsOf 21 = .ok (.iload_n 1, 1) := by decide +kernel
theorem dX8_shiftsOf_22 : decode cX8_shiftsOf 22 = .ok (.if_icmp .ne 9, 3) := by decide +kernel
theorem dX8_shiftsOf_25 : decode cX8_shiftsOf 25 = .ok (.iload_n 2, 1) := by decide +kernel
theorem dX8_shiftsOf_26 : decode cX8_shiftsOf 26 = .ok (.iconst 1, 1) := by decide +kernel
theorem dX8_shiftsOf_27 : decode cX8_shiftsOf 27 = .ok (.iload_n 3, 1) := by decide +kernel
theorem dX8_shiftsOf_28 : decode cX8_shiftsOf 28 = .ok (.ishl, 1) := by decide +kernel
theorem dX8_shiftsOf_29 : decode cX8_shiftsOf 29 = .ok (.ior, 1) := by decide +kernel
theorem dX8_shiftsOf_30 : decode cX8_shiftsOf 30 = .ok (.istore_n 2, 1) := by decide +kernel
theorem dX8_shiftsOf_31 : decode cX8_shiftsOf 31 = .ok (.iinc 3 1, 3) := by decide +kernel
theorem dX8_shiftsOf_34 : decode cX8_shiftsOf 34 = .ok (.goto (-30), 3) := by decide +kernel
theorem dX8_shiftsOf_37 : decode cX8_shiftsOf 37 = .ok (.iload_n 2, 1) := by decide +kernel
theorem dX8_shiftsOf_38 : decode cX8_shiftsOf 38 = .ok (.ireturn, 1) := by decide +kernel
set_option maxRecDepth 20000 in
theorem ggX8_nextMeritOf_X8_nextDay : GoodIn wsX8_nextMeritOf wsX8_nextDay := goodIn_r _ [8, 9, 10, 1, 2, 11, 12, 13, 14, 15, 16, 17, 18, 19, 20, 21, 22, 23, 24, 25, 26, 27, 28, 29, 7, 30, 31, 32, 33, 34, 35, 36, 37, 38, 39, 40, 41, 42, 43, 44, 45, 46, 47, 48, 49, 50, 51, 52, 53, 54, 55, 56, 57, 58, 59, 60, 61, 62, 63, 64, 65, 66, 67, 68, 69, 70, 71, 72, 73, 74, 75, 76, 77, 78, 79, 80, 81, 82, 83, 84, 85, 86, 87, 88, 89, 90, 91, 92, 93, 94, 95, 97, 98, 99, 100, 101, 102, 103, 104, 105, 106, 107, 108, 109, 110, 111, 112, 113, 114, 115, 116, 117, 118, 119, 120, 121, 122, 123, 124, 125, 126, 127, 128, 129, 130, 131, 132, 133, 134, 135] (by decide +kernel) (by decide +kernel)
set_option maxRecDepth 20000 in
theorem gX8_nextMeritOf_X8_nextDay : GoodIn wsX8_nextMeritOf (wsV RX8 139 RX8 yX8_nextDay wsX8_nextDay) := goodIn_app (goodIn_of _ (by decide +kernel)) ggX8_nextMeritOf_X8_nextDay
set_option maxRecDepth 20000 in
theorem ggX8_nextMeritOf_X8_at : GoodIn wsX8_nextMeritOf wsX8_at := goodIn_r _ [32] (by decide +kernel) (by decide +kernel)
set_option maxRecDepth 20000 in
theorem gX8_nextMeritOf_X8_at : GoodIn wsX8_nextMeritOf (va_wsS RX8 103 yX8_at wsX8_at) := goodIn_app (goodIn_of _ (by decide +kernel)) ggX8_nextMeritOf_X8_at
theorem dX8_nextMeritOf_0 : decode cX8_nextMeritOf 0 = .ok (.aload_n 0, 1) := by decide +kernel
theorem dX8_nextMeritOf_1 : decode cX8_nextMeritOf 1 = .ok (.invokevirtual 139, 3) := by decide +kernel
theorem dX8_nextMeritOf_4 : decode cX8_nextMeritOf 4 = .ok (.astore_n 2, 1) := by decide +kernel
theorem dX8_nextMeritOf_5 : decode cX8_nextMeritOf 5 = .ok (.iconst 0, 1) := by decide +kernel
theorem dX8_nextMeritOf_6 : decode cX8_nextMeritOf 6 = .ok (.istore_n 3, 1) := by decide +kernel
theorem dX8_nextMeritOf_7 : decode cX8_nextMeritOf 7 = .ok (.iconst 0, 1) := by decide +kernel
theorem dX8_nextMeritOf_8 : decode cX8_nextMeritOf 8 = .ok (.istore 4, 2) := by decide +kernel
theorem dX8_nextMeritOf_10 : decode cX8_nextMeritOf 10 = .ok (.iload 4, 2) := by decide +kernel
theorem dX8_nextMeritOf_12 : decode cX8_nextMeritOf 12 = .ok (.bipush 8, 2) := by decide +kernel
theorem dX8_nextMeritOf_14 : decode cX8_nextMeritOf 14 = .ok (.if_icmp .ge 37, 3) := by decide +kernel
theorem dX8_nextMeritOf_17 : decode cX8_nextMeritOf 17 = .ok (.aload_n 0, 1) := by decide +kernel
theorem dX8_nextMeritOf_18 : decode cX8_nextMeritOf 18 = .ok (.getfield 25, 3) := by decide +kernel
theorem dX8_nextMeritOf_21 : decode cX8_nextMeritOf 21 = .ok (.getfield 132, 3) := by decide +kernel
theorem dX8_nextMeritOf_24 : decode cX8_nextMeritOf 24 = .ok (.iload 4, 2) := by decide +kernel
theorem dX8_nextMeritOf_26 : decode cX8_nextMeritOf 26 = .ok (.invokestatic 103, 3) := by decide +kernel
theorem dX8_nextMeritOf_29 : decode cX8_nextMeritOf 29 = .ok (.iload_n 1, 1) := by decide +kernel
theorem dX8_nextMeritOf_30 : decode cX8_nextMeritOf 30 = .ok (.if_icmp .ne 15, 3) := by decide +kernel
theorem dX8_nextMeritOf_33 : decode cX8_nextMeritOf 33 = .ok (.iload_n 3, 1) := by decide +kernel
theorem dX8_nextMeritOf_34 : decode cX8_nextMeritOf 34 = .ok (.aload_n 2, 1) := by decide +kernel
theorem dX8_nextMeritOf_35 : decode cX8_nextMeritOf 35 = .ok (.getfield 161, 3) := by decide +kernel
theorem dX8_nextMeritOf_38 : decode cX8_nextMeritOf 38 = .ok (.iload 4, 2) := by decide +kernel
theorem dX8_nextMeritOf_40 : decode cX8_nextMeritOf 40 = .ok (.invokestatic 103, 3) := by decide +kernel
theorem dX8_nextMeritOf_43 : decode cX8_nextMeritOf 43 = .ok (.iadd, 1) := by decide +kernel
theorem dX8_nextMeritOf_44 : decode cX8_nextMeritOf 44 = .ok (.istore_n 3, 1) := by decide +kernel
theorem dX8_nextMeritOf_45 : decode cX8_nextMeritOf 45 = .ok (.iinc 4 1, 3) := by decide +kernel
theorem dX8_nextMeritOf_48 : decode cX8_nextMeritOf 48 = .ok (.goto (-38), 3) := by decide +kernel
theorem dX8_nextMeritOf_51 : decode cX8_nextMeritOf 51 = .ok (.iload_n 3, 1) := by decide +kernel
theorem dX8_nextMeritOf_52 : decode cX8_nextMeritOf 52 = .ok (.ireturn, 1) := by decide +kernel
set_option maxRecDepth 20000 in
theorem ggX8_seekBest_X8_copy : GoodIn wsX8_seekBest wsX8_copy := goodIn_r _ [10] (by decide +kernel) (by decide +kernel)
set_option maxRecDepth 20000 in
theorem gX8_seekBest_X8_copy : GoodIn wsX8_seekBest (va_wsS RX8 186 yX8_copy wsX8_copy) := goodIn_app (goodIn_of _ (by decide +kernel)) ggX8_seekBest_X8_copy
set_option maxRecDepth 20000 in
theorem ggX8_seekBest_X8_put : GoodIn wsX8_seekBest wsX8_put := goodIn_r _ [13] (by decide +kernel) (by decide +kernel)
set_option maxRecDepth 20000 in
theorem gX8_seekBest_X8_put : GoodIn wsX8_seekBest (va_wsS RX8 135 yX8_put wsX8_put) := goodIn_app (goodIn_of _ (by decide +kernel)) ggX8_seekBest_X8_put
set_option maxRecDepth 20000 in
theorem ggX8_seekBest_X8_weighPlan : GoodIn wsX8_seekBest wsX8_weighPlan := goodIn_r _ [17, 18, 19, 4, 5, 3, 20, 21, 22, 9, 23, 24, 25, 1, 26, 27, 28, 29, 30, 31, 32, 33, 34, 35, 36, 37, 38, 39, 40, 41, 42, 43, 12, 13, 44, 45, 46, 47, 48, 49, 50, 51, 52, 53, 54, 55, 56, 57, 58, 59, 60, 61, 62, 63, 64, 65, 66, 67, 68, 69, 70, 71, 72, 73, 74, 75, 76, 77, 78, 79, 80, 81, 82, 83, 84, 85, 86, 87, 88, 89, 90, 91, 92, 93, 94, 95, 96, 97, 98, 99, 100, 101, 102, 103, 104, 105, 106, 107, 108, 109, 132, 133, 134, 135, 136, 137, 138, 110, 111, 112, 113, 114, 115, 116, 117, 118, 119, 120, 121, 122, 123, 124, 125, 126, 127, 128, 129, 130, 131, 139, 140, 141, 142, 143, 144, 145, 146, 147, 148] (by decide +kernel) (by decide +kernel)
set_option maxRecDepth 20000 in
theorem gX8_seekBest_X8_weighPlan : GoodIn wsX8_seekBest (wsV RX8 247 RX8 yX8_weighPlan wsX8_weighPlan) := goodIn_app (goodIn_of _ (by decide +kernel)) ggX8_seekBest_X8_weighPlan
theorem dX8_seekBest_0 : decode cX8_seekBest 0 = .ok (.aload_n 0, 1) := by decide +kernel
theorem dX8_seekBest_1 : decode cX8_seekBest 1 = .ok (.getfield 25, 3) := by decide +kernel
theorem dX8_seekBest_4 : decode cX8_seekBest 4 = .ok (.getfield 132, 3) := by decide +kernel
theorem dX8_seekBest_7 : decode cX8_seekBest 7 = .ok (.aload_n 0, 1) := by decide +kernel
theorem dX8_seekBest_8 : decode cX8_seekBest 8 = .ok (.getfield 39, 3) := by decide +kernel
theorem dX8_seekBest_11 : decode cX8_seekBest 11 = .ok (.invokestatic 186, 3) := by decide +kernel
theorem dX8_seekBest_14 : decode cX8_seekBest 14 = .ok (.aload_n 0, 1) := by decide +kernel
theorem dX8_seekBest_15 : decode cX8_seekBest 15 = .ok (.iconst (-1), 1) := by decide +kernel
theorem dX8_seekBest_16 : decode cX8_seekBest 16 = .ok (.putfield 183, 3) := by decide +kernel
theorem dX8_seekBest_19 : decode cX8_seekBest 19 = .ok (.iconst 0, 1) := by decide +kernel
theorem dX8_seekBest_20 : decode cX8_seekBest 20 = .ok (.istore_n 3, 1) := by decide +kernel
theorem dX8_seekBest_21 : decode cX8_seekBest 21 = .ok (.iload_n 3, 1) := by decide +kernel
theorem dX8_seekBest_22 : decode cX8_seekBest 22 = .ok (.aload_n 0, 1) := by decide +kernel
theorem dX8_seekBest_23 : decode cX8_seekBest 23 = .ok (.getfield 43, 3) := by decide +kernel
theorem dX8_seekBest_26 : decode cX8_seekBest 26 = .ok (.arraylength, 1) := by decide +kernel
theorem dX8_seekBest_27 : decode cX8_seekBest 27 = .ok (.if_icmp .ge 16, 3) := by decide +kernel
theorem dX8_seekBest_30 : decode cX8_seekBest 30 = .ok (.aload_n 0, 1) := by decide +kernel
theorem dX8_seekBest_31 : decode cX8_seekBest 31 = .ok (.getfield 43, 3) := by decide +kernel
theorem dX8_seekBest_34 : decode cX8_seekBest 34 = .ok (.iload_n 3, 1) := by decide +kernel
theorem dX8_seekBest_35 : decode cX8_seekBest 35 = .ok (.iconst (-1), 1) := by decide +kernel
theorem dX8_seekBest_36 : decode cX8_seekBest 36 = .ok (.iastore, 1) := by decide +kernel
theorem dX8_seekBest_37 : decode cX8_seekBest 37 = .ok (.iinc 3 1, 3) := by decide +kernel
theorem dX8_seekBest_40 : decode cX8_seekBest 40 = .ok (.goto (-19), 3) := by decide +kernel
theorem dX8_seekBest_43 : decode cX8_seekBest 43 = .ok (.iconst (-1), 1) := by decide +kernel
theorem dX8_seekBest_44 : decode cX8_seekBest 44 = .ok (.istore_n 3, 1) := by decide +kernel
theorem dX8_seekBest_45 : decode cX8_seekBest 45 = .ok (.iload_n 3, 1) := by decide +kernel
theorem dX8_seekBest_46 : decode cX8_seekBest 46 = .ok (.aload_n 0, 1) := by decide +kernel
theorem dX8_seekBest_47 : decode cX8_seekBest 47 = .ok (.getfield 84, 3) := by decide +kernel
theorem dX8_seekBest_50 : decode cX8_seekBest 50 = .ok (.if_icmp .ge 84, 3) := by decide +kernel
theorem dX8_seekBest_53 : decode cX8_seekBest 53 = .ok (.aload_n 0, 1) := by decide +kernel
theorem dX8_seekBest_54 : decode cX8_seekBest 54 = .ok (.getfield 39, 3) := by decide +kernel
theorem dX8_seekBest_57 : decode cX8_seekBest 57 = .ok (.iload_n 1, 1) := by decide +kernel
theorem dX8_seekBest_58 : decode cX8_seekBest 58 = .ok (.iload_n 3, 1) := by decide +kernel
theorem dX8_seekBest_59 : decode cX8_seekBest 59 = .ok (.invokestatic 135, 3) := by decide +kernel
theorem dX8_seekBest_62 : decode cX8_seekBest 62 = .ok (.iconst (-1), 1) := by decide +kernel
theorem dX8_seekBest_63 : decode cX8_seekBest 63 = .ok (.istore 4, 2) := by decide +kernel
theorem dX8_seekBest_65 : decode cX8_seekBest 65 = .ok (.iload 4, 2) := by decide +kernel
theorem dX8_seekBest_67 : decode cX8_seekBest 67 = .ok (.aload_n 0, 1) := by decide +kernel
theorem dX8_seekBest_68 : decode cX8_seekBest 68 = .ok (.getfield 84, 3) := by decide +kernel
theorem dX8_seekBest_71 : decode cX8_seekBest 71 = .ok (.if_icmp .ge 57, 3) := by decide +kernel
theorem dX8_seekBest_74 : decode cX8_seekBest 74 = .ok (.aload_n 0, 1) := by decide +kernel
theorem dX8_seekBest_75 : decode cX8_seekBest 75 = .ok (.getfield 39, 3) := by decide +kernel
theorem dX8_seekBest_78 : decode cX8_seekBest 78 = .ok (.iload_n 1, 1) := by decide +kernel
theorem dX8_seekBest_79 : decode cX8_seekBest 79 = .ok (.iconst 1, 1) := by decide +kernel
theorem dX8_seekBest_80 : decode cX8_seekBest 80 = .ok (.iadd, 1) := by decide +kernel
theorem dX8_seekBest_81 : decode cX8_seekBest 81 = .ok (.iload 4, 2) := by decide +kernel
theorem dX8_seekBest_83 : decode cX8_seekBest 83 = .ok (.invokestatic 135, 3) := by decide +kernel
theorem dX8_seekBest_86 : decode cX8_seekBest 86 = .ok (.iconst (-1), 1) := by decide +kernel
theorem dX8_seekBest_87 : decode cX8_seekBest 87 = .ok (.istore 5, 2) := by decide +kernel
theorem dX8_seekBest_89 : decode cX8_seekBest 89 = .ok (.iload 5, 2) := by decide +kernel
theorem dX8_seekBest_91 : decode cX8_seekBest 91 = .ok (.aload_n 0, 1) := by decide +kernel
theorem dX8_seekBest_92 : decode cX8_seekBest 92 = .ok (.getfield 84, 3) := by decide +kernel
theorem dX8_seekBest_95 : decode cX8_seekBest 95 = .ok (.if_icmp .ge 27, 3) := by decide +kernel
theorem dX8_seekBest_98 : decode cX8_seekBest 98 = .ok (.aload_n 0, 1) := by decide +kernel
theorem dX8_seekBest_99 : decode cX8_seekBest 99 = .ok (.getfield 39, 3) := by decide +kernel
theorem dX8_seekBest_102 : decode cX8_seekBest 102 = .ok (.iload_n 1, 1) := by decide +kernel
theorem dX8_seekBest_103 : decode cX8_seekBest 103 = .ok (.iconst 2, 1) := by decide +kernel
theorem dX8_seekBest_104 : decode cX8_seekBest 104 = .ok (.iadd, 1) := by decide +kernel
theorem dX8_seekBest_105 : decode cX8_seekBest 105 = .ok (.iload 5, 2) := by decide +kernel
theorem dX8_seekBest_107 : decode cX8_seekBest 107 = .ok (.invokestatic 135, 3) := by decide +kernel
theorem dX8_seekBest_110 : decode cX8_seekBest 110 = .ok (.aload_n 0, 1) := by decide +kernel
theorem dX8_seekBest_111 : decode cX8_seekBest 111 = .ok (.iload_n 1, 1) := by decide +kernel
theorem dX8_seekBest_112 : decode cX8_seekBest 112 = .ok (.iload_n 2, 1) := by decide +kernel
theorem dX8_seekBest_113 : decode cX8_seekBest 113 = .ok (.invokevirtual 247, 3) := by decide +kernel
theorem dX8_seekBest_116 : decode cX8_seekBest 116 = .ok (.iinc 5 1, 3) := by decide +kernel
theorem dX8_seekBest_119 : decode cX8_seekBest 119 = .ok (.goto (-30), 3) := by decide +kernel
theorem dX8_seekBest_122 : decode cX8_seekBest 122 = .ok (.iinc 4 1, 3) := by decide +kernel
theorem dX8_seekBest_125 : decode cX8_seekBest 125 = .ok (.goto (-60), 3) := by decide +kernel
theorem dX8_seekBest_128 : decode cX8_seekBest 128 = .ok (.iinc 3 1, 3) := by decide +kernel
theorem dX8_seekBest_131 : decode cX8_seekBest 131 = .ok (.goto (-86), 3) := by decide +kernel
theorem dX8_seekBest_134 : decode cX8_seekBest 134 = .ok (.return_, 1) := by decide +kernel
set_option maxRecDepth 20000 in
theorem ggX8_weighPlan_X8_plannedDay : GoodIn wsX8_weighPlan wsX8_plannedDay := goodIn_r _ [10, 11, 12, 5, 13, 14, 15, 16, 17, 18, 19, 20, 21, 22, 23, 24, 25, 26, 27, 28, 29, 30, 31, 32, 9, 33, 34, 35, 36, 37, 38, 39, 40, 41, 42, 43, 44, 45, 46, 47, 48, 49, 50, 51, 52, 53, 54, 55, 56, 57, 58, 59, 60, 61, 62, 63, 64, 65, 66, 67, 68, 69, 70, 71, 72, 73, 74, 75, 76, 77, 78, 79, 80, 81, 82, 83, 84, 85, 86, 87, 88, 89, 90, 91, 92, 93, 94, 95, 96, 97, 98, 107, 108, 109, 110, 111, 112, 113, 114, 115, 116, 117, 118, 119, 120, 121, 122, 123, 124, 125, 126, 127, 128, 100, 101, 102, 103, 104, 105, 106, 129, 130, 131, 132, 133, 134, 135, 136, 137, 138] (by decide +kernel) (by decide +kernel)
set_option maxRecDepth 20000 in
theorem gX8_weighPlan_X8_plannedDay : GoodIn wsX8_weighPlan (wsV RX8 250 RX8 yX8_plannedDay wsX8_plannedDay) := goodIn_app (goodIn_of _ (by decide +kernel)) ggX8_weighPlan_X8_plannedDay
set_option maxRecDepth 20000 in
theorem ggX8_weighPlan_X8_at : GoodIn wsX8_weighPlan wsX8_at := goodIn_r _ [35] (by decide +kernel) (by decide +kernel)
set_option maxRecDepth 20000 in
theorem gX8_weighPlan_X8_at : GoodIn wsX8_weighPlan (va_wsS RX8 103 yX8_at wsX8_at) := goodIn_app (goodIn_of _ (by decide +kernel)) ggX8_weighPlan_X8_at
theorem dX8_weighPlan_0 : decode cX8_weighPlan 0 = .ok (.aload_n 0, 1) := by decide +kernel
theorem dX8_weighPlan_1 : decode cX8_weighPlan 1 = .ok (.invokevirtual 250, 3) := by decide +kernel
theorem dX8_weighPlan_4 : decode cX8_weighPlan 4 = .ok (.astore_n 3, 1) := by decide +kernel
theorem dX8_weighPlan_5 : decode cX8_weighPlan 5 = .ok (.aload_n 3, 1) := by decide +kernel
theorem dX8_weighPlan_6 : decode cX8_weighPlan 6 = .ok (.getfield 143, 3) := by decide +kernel
theorem dX8_weighPlan_9 : decode cX8_weighPlan 9 = .ok (.bipush 8, 2) := by decide +kernel
theorem dX8_weighPlan_11 : decode cX8_weighPlan 11 = .ok (.invokestatic 103, 3) := by decide +kernel
theorem dX8_weighPlan_14 : decode cX8_weighPlan 14 = .ok (.iload_n 2, 1) := by decide +kernel
theorem dX8_weighPlan_15 : decode cX8_weighPlan 15 = .ok (.if_icmp .lt 14, 3) := by decide +kernel
theorem dX8_weighPlan_18 : decode cX8_weighPlan 18 = .ok (.aload_n 3, 1) := by decide +kernel
theorem dX8_weighPlan_19 : decode cX8_weighPlan 19 = .ok (.getfield 170, 3) := by decide +kernel
theorem dX8_weighPlan_22 : decode cX8_weighPlan 22 = .ok (.aload_n 0, 1) := by decide +kernel
theorem dX8_weighPlan_23 : decode cX8_weighPlan 23 = .ok (.getfield 183, 3) := by decide +kernel
theorem dX8_weighPlan_26 : decode cX8_weighPlan 26 = .ok (.if_icmp .gt 4, 3) := by decide +kernel
theorem dX8_weighPlan_29 : decode cX8_weighPlan 29 = .ok (.return_, 1) := by decide +kernel
theorem dX8_weighPlan_30 : decode cX8_weighPlan 30 = .ok (.aload_n 0, 1) := by decide +kernel
theorem dX8_weighPlan_31 : decode cX8_weighPlan 31 = .ok (.aload_n 3, 1) := by decide +kernel
theorem dX8_weighPlan_32 : decode cX8_weighPlan 32 = .ok (.getfield 170, 3) := by decide +kernel
theorem dX8_weighPlan_35 : decode cX8_weighPlan 35 = .ok (.putfield 183, 3) := by decide +kernel
theorem dX8_weighPlan_38 : decode cX8_weighPlan 38 = .ok (.iconst 0, 1) := by decide +kernel
theorem dX8_weighPlan_39 : decode cX8_weighPlan 39 = .ok (.istore 4, 2) := by decide +kernel
theorem dX8_weighPlan_41 : decode cX8_weighPlan 41 = .ok (.iload 4, 2) := by decide +kernel
theorem dX8_weighPlan_43 : decode cX8_weighPlan 43 = .ok (.aload_n 0, 1) := by decide +kernel
theorem dX8_weighPlan_44 : decode cX8_weighPlan 44 = .ok (.getfield 43, 3) := by decide +kernel
theorem dX8_weighPlan_47 : decode cX8_weighPlan 47 = .ok (.arraylength, 1) := by decide +kernel
theorem dX8_weighPlan_48 : decode cX8_weighPlan 48 = .ok (.if_icmp .ge 27, 3) := by decide +kernel
theorem dX8_weighPlan_51 : decode cX8_weighPlan 51 = .ok (.aload_n 0, 1) := by decide +kernel
theorem dX8_weighPlan_52 : decode cX8_weighPlan 52 = .ok (.getfield 43, 3) := by decide +kernel
theorem dX8_weighPlan_55 : decode cX8_weighPlan 55 = .ok (.iload 4, 2) := by decide +kernel
theorem dX8_weighPlan_57 : decode cX8_weighPlan 57 = .ok (.aload_n 0, 1) := by decide +kernel
theorem dX8_weighPlan_58 : decode cX8_weighPlan 58 = .ok (.getfield 39, 3) := by decide +kernel
theorem dX8_weighPlan_61 : decode cX8_weighPlan 61 = .ok (.iload_n 1, 1) := by decide +kernel
theorem dX8_weighPlan_62 : decode cX8_weighPlan 62 = .ok (.iload 4, 2) := by decide +kernel
theorem dX8_weighPlan_64 : decode cX8_weighPlan 64 = .ok (.iadd, 1) := by decide +kernel
theorem dX8_weighPlan_65 : decode cX8_weighPlan 65 = .ok (.invokestatic 103, 3) := by decide +kernel
theorem dX8_weighPlan_68 : decode cX8_weighPlan 68 = .ok (.iastore, 1) := by decide +kernel
theorem dX8_weighPlan_69 : decode cX8_weighPlan 69 = .ok (.iinc 4 1, 3) := by decide +kernel
theorem dX8_weighPlan_72 : decode cX8_weighPlan 72 = .ok (.goto (-31), 3) := by decide +kernel
theorem dX8_weighPlan_75 : decode cX8_weighPlan 75 = .ok (.return_, 1) := by decide +kernel
set_option maxRecDepth 20000 in
theorem ggX8_swappedMerit_X8_at : GoodIn wsX8_swappedMerit wsX8_at := goodIn_r _ [6] (by decide +kernel) (by decide +kernel)
set_option maxRecDepth 20000 in
theorem gX8_swappedMerit_X8_at : GoodIn wsX8_swappedMerit (va_wsS RX8 103 yX8_at wsX8_at) := goodIn_app (goodIn_of _ (by decide +kernel)) ggX8_swappedMerit_X8_at
set_option maxRecDepth 20000 in
theorem ggX8_swappedMerit_X8_put : GoodIn wsX8_swappedMerit wsX8_put := goodIn_r _ [9] (by decide +kernel) (by decide +kernel)
set_option maxRecDepth 20000 in
theorem gX8_swappedMerit_X8_put : GoodIn wsX8_swappedMerit (va_wsS RX8 135 yX8_put wsX8_put) := goodIn_app (goodIn_of _ (by decide +kernel)) ggX8_swappedMerit_X8_put
set_option maxRecDepth 20000 in
theorem ggX8_swappedMerit_X8_plannedDay : GoodIn wsX8_swappedMerit wsX8_plannedDay := goodIn_r _ [13, 14, 15, 1, 16, 17, 18, 19, 20, 21, 22, 23, 24, 25, 26, 27, 28, 29, 30, 31, 32, 33, 34, 8, 5, 9, 4, 6, 35, 36, 37, 38, 39, 40, 41, 42, 43, 44, 45, 46, 47, 48, 49, 50, 51, 52, 53, 54, 55, 56, 57, 58, 59, 60, 61, 62, 63, 64, 65, 66, 67, 68, 69, 70, 71, 72, 73, 74, 75, 76, 77, 78, 79, 80, 81, 82, 83, 84, 85, 86, 87, 88, 89, 90, 91, 92, 93, 94, 95, 96, 97, 98, 99, 100, 101, 102, 103, 104, 105, 106, 107, 108, 109, 110, 118, 119, 120, 121, 122, 123, 124, 125, 126, 111, 112, 113, 114, 115, 116, 117, 127, 128, 129, 130, 131, 132, 133, 134, 135, 136] (by decide +kernel) (by decide +kernel)
set_option maxRecDepth 20000 in
theorem gX8_swappedMerit_X8_plannedDay : GoodIn wsX8_swappedMerit (wsV RX8 250 RX8 yX8_plannedDay wsX8_plannedDay) := goodIn_app (goodIn_of _ (by decide +kernel)) ggX8_swappedMerit_X8_plannedDay
theorem dX8_swappedMerit_0 : decode cX8_swappedMerit 0 = .ok (.aload_n 0, 1) := by decide +kernel
theorem dX8_swappedMerit_1 : decode cX8_swappedMerit 1 = .ok (.getfield 39, 3) := by decide +kernel
theorem dX8_swappedMerit_4 : decode cX8_swappedMerit 4 = .ok (.iload_n 1, 1) := by decide +kernel
theorem dX8_swappedMerit_5 : decode cX8_swappedMerit 5 = .ok (.invokestatic 103, 3) := by decide +kernel
theorem dX8_swappedMerit_8 : decode cX8_swappedMerit 8 = .ok (.istore_n 3, 1) := by decide +kernel
theorem dX8_swappedMerit_9 : decode cX8_swappedMerit 9 = .ok (.aload_n 0, 1) := by decide +kernel
theorem dX8_swappedMerit_10 : decode cX8_swappedMerit 10 = .ok (.getfield 39, 3) := by decide +kernel
theorem dX8_swappedMerit_13 : decode cX8_swappedMerit 13 = .ok (.iload_n 2, 1) := by decide +kernel
theorem dX8_swappedMerit_14 : decode cX8_swappedMerit 14 = .ok (.invokestatic 103, 3) := by decide +kernel
theorem dX8_swappedMerit_17 : decode cX8_swappedMerit 17 = .ok (.istore 4, 2) := by decide +kernel
theorem dX8_swappedMerit_19 : decode cX8_swappedMerit 19 = .ok (.iload_n 3, 1) := by decide +kernel
theorem dX8_swappedMerit_20 : decode cX8_swappedMerit 20 = .ok (.iload 4, 2) := by decide +kernel
theorem dX8_swappedMerit_22 : decode cX8_swappedMerit 22 = .ok (.if_icmp .ne 5, 3) := by decide +kernel
theorem dX8_swappedMerit_25 : decode cX8_swappedMerit 25 = .ok (.iconst (-1), 1) := by decide +kernel
theorem dX8_swappedMerit_26 : decode cX8_swappedMerit 26 = .ok (.ireturn, 1) := by decide +kernel
theorem dX8_swappedMerit_27 : decode cX8_swappedMerit 27 = .ok (.aload_n 0, 1) := by decide +kernel
theorem dX8_swappedMerit_28 : decode cX8_swappedMerit 28 = .ok (.getfield 39, 3) := by decide +kernel
theorem dX8_swappedMerit_31 : decode cX8_swappedMerit 31 = .ok (.iload_n 1, 1) := by decide +kernel
theorem dX8_swappedMerit_32 : decode cX8_swappedMerit 32 = .ok (.iload 4, 2) := by decide +kernel
theorem dX8_swappedMerit_34 : decode cX8_swappedMerit 34 = .ok (.invokestatic 135, 3) := by decide +kernel
theorem dX8_swappedMerit_37 : decode cX8_swappedMerit 37 = .ok (.aload_n 0, 1) := by decide +kernel
theorem dX8_swappedMerit_38 : decode cX8_swappedMerit 38 = .ok (.getfield 39, 3) := by decide +kernel
theorem dX8_swappedMerit_41 : decode cX8_swappedMerit 41 = .ok (.iload_n 2, 1) := by decide +kernel
theorem dX8_swappedMerit_42 : decode cX8_swappedMerit 42 = .ok (.iload_n 3, 1) := by decide +kernel
theorem dX8_swappedMerit_43 : decode cX8_swappedMerit 43 = .ok (.invokestatic 135, 3) := by decide +kernel
theorem dX8_swappedMerit_46 : decode cX8_swappedMerit 46 = .ok (.aload_n 0, 1) := by decide +kernel
theorem dX8_swappedMerit_47 : decode cX8_swappedMerit 47 = .ok (.invokevirtual 250, 3) := by decide +kernel
theorem dX8_swappedMerit_50 : decode cX8_swappedMerit 50 = .ok (.getfield 170, 3) := by decide +kernel
theorem dX8_swappedMerit_53 : decode cX8_swappedMerit 53 = .ok (.istore 5, 2) := by decide +kernel
theorem dX8_swappedMerit_55 : decode cX8_swappedMerit 55 = .ok (.aload_n 0, 1) := by decide +kernel
theorem dX8_swappedMerit_56 : decode cX8_swappedMerit 56 = .ok (.getfield 39, 3) := by decide +kernel
theorem dX8_swappedMerit_59 : decode cX8_swappedMerit 59 = .ok (.iload_n 1, 1) := by decide +kernel
theorem dX8_swappedMerit_60 : decode cX8_swappedMerit 60 = .ok (.iload_n 3, 1) := by decide +kernel
theorem dX8_swappedMerit_61 : decode cX8_swappedMerit 61 = .ok (.invokestatic 135, 3) := by decide +kernel
theorem dX8_swappedMerit_64 : decode cX8_swappedMerit 64 = .ok (.aload_n 0, 1) := by decide +kernel
theorem dX8_swappedMerit_65 : decode cX8_swappedMerit 65 = .ok (.getfield 39, 3) := by decide +kernel
theorem dX8_swappedMerit_68 : decode cX8_swappedMerit 68 = .ok (.iload_n 2, 1) := by decide +kernel
theorem dX8_swappedMerit_69 : decode cX8_swappedMerit 69 = .ok (.iload 4, 2) := by decide +kernel
theorem dX8_swappedMerit_71 : decode cX8_swappedMerit 71 = .ok (.invokestatic 135, 3) := by decide +kernel
theorem dX8_swappedMerit_74 : decode cX8_swappedMerit 74 = .ok (.iload 5, 2) := by decide +kernel
theorem dX8_swappedMerit_76 : decode cX8_swappedMerit 76 = .ok (.ireturn, 1) := by decide +kernel
set_option maxRecDepth 20000 in
theorem ggX8_whoCanBe_X8_copy : GoodIn wsX8_whoCanBe wsX8_copy := goodIn_r _ [8] (by decide +kernel) (by decide +kernel)
set_option maxRecDepth 20000 in
theorem gX8_whoCanBe_X8_copy : GoodIn wsX8_whoCanBe (va_wsS RX8 186 yX8_copy wsX8_copy) := goodIn_app (goodIn_of _ (by decide +kernel)) ggX8_whoCanBe_X8_copy
set_option maxRecDepth 20000 in
theorem ggX8_whoCanBe_X8_canBe : GoodIn wsX8_whoCanBe wsX8_canBe := goodIn_r _ [12, 3, 13, 14, 1, 15, 16, 17, 18, 19, 7, 20, 21, 22, 23, 24, 25, 26, 27, 28, 29, 30, 31, 32, 33, 34, 35, 36, 37, 38, 39, 40, 41, 42, 43, 44, 45, 46, 47, 48, 49, 50, 51, 52, 53, 54, 55, 56, 57, 58, 59, 60, 61, 62, 63, 64, 65, 66, 67, 68, 69, 70, 71, 72, 73, 74, 75, 76, 77, 78, 79, 80, 81, 82, 83, 84, 85, 86, 87, 88, 89, 90, 91, 92, 93, 94, 95, 96, 97, 98, 99, 100, 101, 102, 103, 104, 105, 106, 107, 108, 109, 110, 111, 112, 113, 114, 115, 116, 117, 118, 119, 120, 121, 122, 123, 124, 125, 126, 127, 128, 129, 130, 131, 132, 133, 134, 135, 136, 137, 138, 139, 140, 141, 142, 143, 144, 145, 146, 147, 148] (by decide +kernel) (by decide +kernel)
set_option maxRecDepth 20000 in
theorem gX8_whoCanBe_X8_canBe : GoodIn wsX8_whoCanBe (wsV RX8 253 RX8 yX8_canBe wsX8_canBe) := goodIn_app (goodIn_of _ (by decide +kernel)) ggX8_whoCanBe_X8_canBe
theorem dX8_whoCanBe_0 : decode cX8_whoCanBe 0 = .ok (.aload_n 0, 1) := by decide +kernel
theorem dX8_whoCanBe_1 : decode cX8_whoCanBe 1 = .ok (.getfield 25, 3) := by decide +kernel
theorem dX8_whoCanBe_4 : decode cX8_whoCanBe 4 = .ok (.getfield 132, 3) := by decide +kernel
theorem dX8_whoCanBe_7 : decode cX8_whoCanBe 7 = .ok (.aload_n 0, 1) := by decide +kernel
theorem dX8_whoCanBe_8 : decode cX8_whoCanBe 8 = .ok (.getfield 39, 3) := by decide +kernel
theorem dX8_whoCanBe_11 : decode cX8_whoCanBe 11 = .ok (.invokestatic 186, 3) := by decide +kernel
theorem dX8_whoCanBe_14 : decode cX8_whoCanBe 14 = .ok (.iconst 0, 1) := by decide +kernel
theorem dX8_whoCanBe_15 : decode cX8_whoCanBe 15 = .ok (.istore_n 2, 1) := by decide +kernel
theorem dX8_whoCanBe_16 : decode cX8_whoCanBe 16 = .ok (.iconst (-1), 1) := by decide +kernel
theorem dX8_whoCanBe_17 : decode cX8_whoCanBe 17 = .ok (.istore_n 3, 1) := by decide +kernel
theorem dX8_whoCanBe_18 : decode cX8_whoCanBe 18 = .ok (.iload_n 3, 1) := by decide +kernel
theorem dX8_whoCanBe_19 : decode cX8_whoCanBe 19 = .ok (.aload_n 0, 1) := by decide +kernel
theorem dX8_whoCanBe_20 : decode cX8_whoCanBe 20 = .ok (.getfield 84, 3) := by decide +kernel
theorem dX8_whoCanBe_23 : decode cX8_whoCanBe 23 = .ok (.if_icmp .ge 34, 3) := by decide +kernel
theorem dX8_whoCanBe_26 : decode cX8_whoCanBe 26 = .ok (.aload_n 0, 1) := by decide +kernel
theorem dX8_whoCanBe_27 : decode cX8_whoCanBe 27 = .ok (.iload_n 1, 1) := by decide +kernel
theorem dX8_whoCanBe_28 : decode cX8_whoCanBe 28 = .ok (.iload_n 3, 1) := by decide +kernel
theorem dX8_whoCanBe_29 : decode cX8_whoCanBe 29 = .ok (.invokevirtual 253, 3) := by decide +kernel
theorem dX8_whoCanBe_32 : decode cX8_whoCanBe 32 = .ok (.ifCond .eq 19, 3) := by decide +kernel
theorem dX8_whoCanBe_35 : decode cX8_whoCanBe 35 = .ok (.iload_n 2, 1) := by decide +kernel
theorem dX8_whoCanBe_36 : decode cX8_whoCanBe 36 = .ok (.iload_n 3, 1) := by decide +kernel
theorem dX8_whoCanBe_37 : decode cX8_whoCanBe 37 = .ok (.iconst (-1), 1) := by decide +kernel
theorem dX8_whoCanBe_38 : decode cX8_whoCanBe 38 = .ok (.if_icmp .ne 8, 3) := by decide +kernel
theorem dX8_whoCanBe_41 : decode cX8_whoCanBe 41 = .ok (.bipush 16, 2) := by decide +kernel
theorem dX8_whoCanBe_43 : decode cX8_whoCanBe 43 = .ok (.goto 6, 3) := by decide +kernel
theorem dX8_whoCanBe_46 : decode cX8_whoCanBe 46 = .ok (.iconst 1, 1) := by decide +kernel
theorem dX8_whoCanBe_47 : decode cX8_whoCanBe 47 = .ok (.iload_n 3, 1) := by decide +kernel
theorem dX8_whoCanBe_48 : decode cX8_whoCanBe 48 = .ok (.ishl, 1) := by decide +kernel
theorem dX8_whoCanBe_49 : decode cX8_whoCanBe 49 = .ok (.ior, 1) := by decide +kernel
theorem dX8_whoCanBe_50 : decode cX8_whoCanBe 50 = .ok (.istore_n 2, 1) := by decide +kernel
theorem dX8_whoCanBe_51 : decode cX8_whoCanBe 51 = .ok (.iinc 3 1, 3) := by decide +kernel
theorem dX8_whoCanBe_54 : decode cX8_whoCanBe 54 = .ok (.goto (-36), 3) := by decide +kernel
theorem dX8_whoCanBe_57 : decode cX8_whoCanBe 57 = .ok (.iload_n 2, 1) := by decide +kernel
theorem dX8_whoCanBe_58 : decode cX8_whoCanBe 58 = .ok (.ireturn, 1) := by decide +kernel
set_option maxRecDepth 20000 in
theorem ggX8_canBe_X8_put : GoodIn wsX8_canBe wsX8_put := goodIn_r _ [11] (by decide +kernel) (by decide +kernel)
set_option maxRecDepth 20000 in
theorem gX8_canBe_X8_put : GoodIn wsX8_canBe (va_wsS RX8 135 yX8_put wsX8_put) := goodIn_app (goodIn_of _ (by decide +kernel)) ggX8_canBe_X8_put
set_option maxRecDepth 20000 in
theorem ggX8_canBe_X7_live : GoodIn wsX8_canBe wsX7_live := goodIn_r _ [16, 17, 18, 19, 20, 21, 22, 23, 24, 25, 26, 27, 9, 10, 11, 28, 29, 30, 31, 32, 33, 34, 15, 35, 36, 37, 38, 39, 40, 41, 42, 43, 44, 45, 46, 47, 48, 49, 50, 51, 52, 53, 54, 55, 56, 57, 58, 59, 60, 61, 62, 63, 64, 65, 66, 67, 68, 69, 70, 71, 72, 73, 74, 75, 76, 77, 78, 79, 80, 81, 82, 83, 84, 85, 86, 87, 88, 89, 90, 91, 92, 123, 124, 125, 126, 127, 128, 129, 130, 131, 132, 133, 134, 135, 136, 137, 138, 139] (by decide +kernel) (by decide +kernel)
set_option maxRecDepth 20000 in
theorem gX8_canBe_X7_live : GoodIn wsX8_canBe (wsV RX8 203 RX7 yX7_live wsX7_live) := goodIn_app (goodIn_of _ (by decide +kernel)) ggX8_canBe_X7_live
set_option maxRecDepth 20000 in
theorem ggX8_canBe_X3_isAsFound : GoodIn wsX8_canBe wsX3_isAsFound := goodIn_r _ [97, 98, 99, 100, 28, 10, 29, 114, 115, 116, 117, 118, 119, 120, 121, 122] (by decide +kernel) (by decide +kernel)
set_option maxRecDepth 20000 in
theorem gX8_canBe_X3_isAsFound : GoodIn wsX8_canBe (wsV RX8 256 RX3 yX3_isAsFound wsX3_isAsFound) := goodIn_app (goodIn_of _ (by decide +kernel)) ggX8_canBe_X3_isAsFound
theorem dX8_canBe_0 : decode cX8_canBe 0 = .ok (.aload_n 0, 1) := by decide +kernel
theorem dX8_canBe_1 : decode cX8_canBe 1 = .ok (.getfield 39, 3) := by decide +kernel
theorem dX8_canBe_4 : decode cX8_canBe 4 = .ok (.iload_n 1, 1) := by decide +kernel
theorem dX8_canBe_5 : decode cX8_canBe 5 = .ok (.iload_n 2, 1) := by decide +kernel
theorem dX8_canBe_6 : decode cX8_canBe 6 = .ok (.invokestatic 135, 3) := by decide +kernel
theorem dX8_canBe_9 : decode cX8_canBe 9 = .ok (.aload_n 0, 1) := by decide +kernel
theorem dX8_canBe_10 : decode cX8_canBe 10 = .ok (.getfield 35, 3) := by decide +kernel
theorem dX8_canBe_13 : decode cX8_canBe 13 = .ok (.aload_n 0, 1) := by decide +kernel
theorem dX8_canBe_14 : decode cX8_canBe 14 = .ok (.getfield 18, 3) := by decide +kernel
theorem dX8_canBe_17 : decode cX8_canBe 17 = .ok (.aload_n 0, 1) := by decide +kernel
theorem dX8_canBe_18 : decode cX8_canBe 18 = .ok (.getfield 39, 3) := by decide +kernel
theorem dX8_canBe_21 : decode cX8_canBe 21 = .ok (.aload_n 0, 1) := by decide +kernel
theorem dX8_canBe_22 : decode cX8_canBe 22 = .ok (.getfield 25, 3) := by decide +kernel
theorem dX8_canBe_25 : decode cX8_canBe 25 = .ok (.getfield 164, 3) := by decide +kernel
theorem dX8_canBe_28 : decode cX8_canBe 28 = .ok (.aload_n 0, 1) := by decide +kernel
theorem dX8_canBe_29 : decode cX8_canBe 29 = .ok (.getfield 25, 3) := by decide +kernel
theorem dX8_canBe_32 : decode cX8_canBe 32 = .ok (.getfield 114, 3) := by decide +kernel
theorem dX8_canBe_35 : decode cX8_canBe 35 = .ok (.invokevirtual 203, 3) := by decide +kernel
theorem dX8_canBe_38 : decode cX8_canBe 38 = .ok (.aload_n 0, 1) := by decide +kernel
theorem dX8_canBe_39 : decode cX8_canBe 39 = .ok (.getfield 25, 3) := by decide +kernel
theorem dX8_canBe_42 : decode cX8_canBe 42 = .ok (.aload_n 0, 1) := by decide +kernel
theorem dX8_canBe_43 : decode cX8_canBe 43 = .ok (.getfield 35, 3) := by decide +kernel
theorem dX8_canBe_46 : decode cX8_canBe 46 = .ok (.getfield 143, 3) := by decide +kernel
theorem dX8_canBe_49 : decode cX8_canBe 49 = .ok (.invokevirtual 256, 3) := by decide +kernel
theorem dX8_canBe_52 : decode cX8_canBe 52 = .ok (.ireturn, 1) := by decide +kernel
set_option maxRecDepth 20000 in
theorem ggX8_whereToLook_X8_copy : GoodIn wsX8_whereToLook wsX8_copy := goodIn_r _ [9] (by decide +kernel) (by decide +kernel)
set_option maxRecDepth 20000 in
theorem gX8_whereToLook_X8_copy : GoodIn wsX8_whereToLook (va_wsS RX8 186 yX8_copy wsX8_copy) := goodIn_app (goodIn_of _ (by decide +kernel)) ggX8_whereToLook_X8_copy
set_option maxRecDepth 20000 in
theorem ggX8_whereToLook_X8_clear : GoodIn wsX8_whereToLook wsX8_clear := goodIn_r _ [12] (by decide +kernel) (by decide +kernel)
set_option maxRecDepth 20000 in
theorem gX8_whereToLook_X8_clear : GoodIn wsX8_whereToLook (va_wsS RX8 260 yX8_clear wsX8_clear) := goodIn_app (goodIn_of _ (by decide +kernel)) ggX8_whereToLook_X8_clear
set_option maxRecDepth 20000 in
theorem ggX8_whereToLook_X8_canBe : GoodIn wsX8_whereToLook wsX8_canBe := goodIn_r _ [16, 3, 17, 18, 1, 19, 20, 21, 22, 23, 8, 24, 25, 26, 27, 28, 29, 30, 31, 32, 33, 34, 35, 36, 37, 38, 39, 40, 41, 42, 43, 44, 45, 46, 47, 48, 49, 50, 51, 52, 53, 54, 55, 56, 57, 58, 59, 60, 61, 62, 63, 64, 65, 66, 67, 68, 69, 70, 71, 72, 73, 74, 75, 76, 77, 78, 79, 80, 81, 82, 83, 84, 85, 86, 87, 88, 89, 90, 91, 92, 93, 94, 95, 96, 97, 98, 99, 100, 101, 102, 103, 104, 105, 106, 107, 108, 109, 110, 111, 112, 113, 124, 125, 126, 127, 128, 129, 130, 131, 132, 133, 134, 135, 136, 137, 138, 139, 140, 141, 142, 143, 144, 145, 146, 147, 148, 149, 150, 151, 152, 153, 154, 155, 156, 157, 158, 159, 160, 161, 162] (by decide +kernel) (by decide +kernel)
set_option maxRecDepth 20000 in
theorem gX8_whereToLook_X8_canBe : GoodIn wsX8_whereToLook (wsV RX8 253 RX8 yX8_canBe wsX8_canBe) := goodIn_app (goodIn_of _ (by decide +kernel)) ggX8_whereToLook_X8_canBe
set_option maxRecDepth 20000 in
theorem ggX8_whereToLook_X8_tallyTrial : GoodIn wsX8_whereToLook wsX8_tallyTrial := goodIn_r _ [117, 17, 21, 4, 118, 41, 8, 42, 22, 23, 24, 124, 125, 126, 127, 128, 129, 130, 131, 132, 133, 134, 135, 136, 146, 147, 148, 149, 150, 151, 152] (by decide +kernel) (by decide +kernel)
set_option maxRecDepth 20000 in
theorem gX8_whereToLook_X8_tallyTrial : GoodIn wsX8_whereToLook (wsV RX8 263 RX8 yX8_tallyTrial wsX8_tallyTrial) := goodIn_app (goodIn_of _ (by decide +kernel)) ggX8_whereToLook_X8_tallyTrial
set_option maxRecDepth 20000 in
theorem ggX8_whereToLook_X8_leastWorstPlace : GoodIn wsX8_whereToLook wsX8_leastWorstPlace := goodIn_r _ [122, 4, 123, 39, 36, 40, 118, 41, 8, 42, 124, 125, 126, 127, 128, 129, 130, 131, 132, 133, 134, 135, 136] (by decide +kernel) (by decide +kernel)
set_option maxRecDepth 20000 in
theorem gX8_whereToLook_X8_leastWorstPlace : GoodIn wsX8_whereToLook (wsV RX8 266 RX8 yX8_leastWorstPlace wsX8_leastWorstPlace) := goodIn_app (goodIn_of _ (by decide +kernel)) ggX8_whereToLook_X8_leastWorstPlace
theorem dX8_whereToLook_0 : decode cX8_whereToLook 0 = .ok (.aload_n 0, 1) := by decide +kernel
theorem dX8_whereToLook_1 : decode cX8_whereToLook 1 = .ok (.getfield 25, 3) := by decide +kernel
theorem dX8_whereToLook_4 : decode cX8_whereToLook 4 = .ok (.getfield 132, 3) := by decide +kernel
theorem dX8_whereToLook_7 : decode cX8_whereToLook 7 = .ok (.aload_n 0, 1) := by decide +kernel
theorem dX8_whereToLook_8 : decode cX8_whereToLook 8 = .ok (.getfield 39, 3) := by decide +kernel
theorem dX8_whereToLook_11 : decode cX8_whereToLook 11 = .ok (.invokestatic 186, 3) := by decide +kernel
