theorem dX8_day_11 : decode cX8_day 11 = .ok (.invokevirtual 139, 3) := by decide +kernel
theorem dX8_day_14 : decode cX8_day 14 = .ok (.astore_n 1, 1) := by decide +kernel
theorem dX8_day_15 : decode cX8_day 15 = .ok (.iconst 0, 1) := by decide +kernel
theorem dX8_day_16 : decode cX8_day 16 = .ok (.istore_n 2, 1) := by decide +kernel
theorem dX8_day_17 : decode cX8_day 17 = .ok (.iload_n 2, 1) := by decide +kernel
theorem dX8_day_18 : decode cX8_day 18 = .ok (.bipush 8, 2) := by decide +kernel
theorem dX8_day_20 : decode cX8_day 20 = .ok (.if_icmp .ge 83, 3) := by decide +kernel
theorem dX8_day_23 : decode cX8_day 23 = .ok (.aload_n 0, 1) := by decide +kernel
theorem dX8_day_24 : decode cX8_day 24 = .ok (.getfield 25, 3) := by decide +kernel
theorem dX8_day_27 : decode cX8_day 27 = .ok (.getfield 132, 3) := by decide +kernel
theorem dX8_day_30 : decode cX8_day 30 = .ok (.iload_n 2, 1) := by decide +kernel
theorem dX8_day_31 : decode cX8_day 31 = .ok (.invokestatic 103, 3) := by decide +kernel
theorem dX8_day_34 : decode cX8_day 34 = .ok (.istore_n 3, 1) := by decide +kernel
theorem dX8_day_35 : decode cX8_day 35 = .ok (.aload_n 0, 1) := by decide +kernel
theorem dX8_day_36 : decode cX8_day 36 = .ok (.getfield 25, 3) := by decide +kernel
theorem dX8_day_39 : decode cX8_day 39 = .ok (.getfield 100, 3) := by decide +kernel
theorem dX8_day_42 : decode cX8_day 42 = .ok (.iload_n 3, 1) := by decide +kernel
theorem dX8_day_43 : decode cX8_day 43 = .ok (.aload_n 0, 1) := by decide +kernel
theorem dX8_day_44 : decode cX8_day 44 = .ok (.getfield 25, 3) := by decide +kernel
theorem dX8_day_47 : decode cX8_day 47 = .ok (.getfield 100, 3) := by decide +kernel
theorem dX8_day_50 : decode cX8_day 50 = .ok (.iload_n 3, 1) := by decide +kernel
theorem dX8_day_51 : decode cX8_day 51 = .ok (.invokestatic 103, 3) := by decide +kernel
theorem dX8_day_54 : decode cX8_day 54 = .ok (.aload_n 1, 1) := by decide +kernel
theorem dX8_day_55 : decode cX8_day 55 = .ok (.getfield 161, 3) := by decide +kernel
theorem dX8_day_58 : decode cX8_day 58 = .ok (.iload_n 2, 1) := by decide +kernel
theorem dX8_day_59 : decode cX8_day 59 = .ok (.invokestatic 103, 3) := by decide +kernel
theorem dX8_day_62 : decode cX8_day 62 = .ok (.iadd, 1) := by decide +kernel
theorem dX8_day_63 : decode cX8_day 63 = .ok (.invokestatic 135, 3) := by decide +kernel
theorem dX8_day_66 : decode cX8_day 66 = .ok (.aload_n 0, 1) := by decide +kernel
theorem dX8_day_67 : decode cX8_day 67 = .ok (.getfield 25, 3) := by decide +kernel
theorem dX8_day_70 : decode cX8_day 70 = .ok (.getfield 107, 3) := by decide +kernel
theorem dX8_day_73 : decode cX8_day 73 = .ok (.iload_n 3, 1) := by decide +kernel
theorem dX8_day_74 : decode cX8_day 74 = .ok (.aload_n 0, 1) := by decide +kernel
theorem dX8_day_75 : decode cX8_day 75 = .ok (.getfield 25, 3) := by decide +kernel
theorem dX8_day_78 : decode cX8_day 78 = .ok (.getfield 107, 3) := by decide +kernel
theorem dX8_day_81 : decode cX8_day 81 = .ok (.iload_n 3, 1) := by decide +kernel
theorem dX8_day_82 : decode cX8_day 82 = .ok (.invokestatic 103, 3) := by decide +kernel
theorem dX8_day_85 : decode cX8_day 85 = .ok (.aload_n 1, 1) := by decide +kernel
theorem dX8_day_86 : decode cX8_day 86 = .ok (.getfield 149, 3) := by decide +kernel
theorem dX8_day_89 : decode cX8_day 89 = .ok (.iload_n 2, 1) := by decide +kernel
theorem dX8_day_90 : decode cX8_day 90 = .ok (.invokestatic 103, 3) := by decide +kernel
theorem dX8_day_93 : decode cX8_day 93 = .ok (.iadd, 1) := by decide +kernel
theorem dX8_day_94 : decode cX8_day 94 = .ok (.invokestatic 135, 3) := by decide +kernel
theorem dX8_day_97 : decode cX8_day 97 = .ok (.iinc 2 1, 3) := by decide +kernel
theorem dX8_day_100 : decode cX8_day 100 = .ok (.goto (-83), 3) := by decide +kernel
theorem dX8_day_103 : decode cX8_day 103 = .ok (.aload_n 0, 1) := by decide +kernel
theorem dX8_day_104 : decode cX8_day 104 = .ok (.getfield 25, 3) := by decide +kernel
theorem dX8_day_107 : decode cX8_day 107 = .ok (.aload_n 1, 1) := by decide +kernel
theorem dX8_day_108 : decode cX8_day 108 = .ok (.getfield 143, 3) := by decide +kernel
theorem dX8_day_111 : decode cX8_day 111 = .ok (.bipush 8, 2) := by decide +kernel
theorem dX8_day_113 : decode cX8_day 113 = .ok (.invokestatic 103, 3) := by decide +kernel
theorem dX8_day_116 : decode cX8_day 116 = .ok (.putfield 164, 3) := by decide +kernel
theorem dX8_day_119 : decode cX8_day 119 = .ok (.aload_n 0, 1) := by decide +kernel
theorem dX8_day_120 : decode cX8_day 120 = .ok (.getfield 25, 3) := by decide +kernel
theorem dX8_day_123 : decode cX8_day 123 = .ok (.aload_n 1, 1) := by decide +kernel
theorem dX8_day_124 : decode cX8_day 124 = .ok (.getfield 166, 3) := by decide +kernel
theorem dX8_day_127 : decode cX8_day 127 = .ok (.putfield 114, 3) := by decide +kernel
theorem dX8_day_130 : decode cX8_day 130 = .ok (.aload_n 0, 1) := by decide +kernel
theorem dX8_day_131 : decode cX8_day 131 = .ok (.getfield 25, 3) := by decide +kernel
theorem dX8_day_134 : decode cX8_day 134 = .ok (.dup, 1) := by decide +kernel
theorem dX8_day_135 : decode cX8_day 135 = .ok (.getfield 167, 3) := by decide +kernel
theorem dX8_day_138 : decode cX8_day 138 = .ok (.iconst 1, 1) := by decide +kernel
theorem dX8_day_139 : decode cX8_day 139 = .ok (.iadd, 1) := by decide +kernel
theorem dX8_day_140 : decode cX8_day 140 = .ok (.putfield 167, 3) := by decide +kernel
theorem dX8_day_143 : decode cX8_day 143 = .ok (.aload_n 1, 1) := by decide +kernel
theorem dX8_day_144 : decode cX8_day 144 = .ok (.getfield 170, 3) := by decide +kernel
theorem dX8_day_147 : decode cX8_day 147 = .ok (.ireturn, 1) := by decide +kernel
set_option maxRecDepth 20000 in
theorem ggX8_best_X8_hasCave : GoodIn wsX8_best wsX8_hasCave := goodIn_r _ [8, 9, 122, 123, 124, 125, 126, 127, 128, 129, 130, 131, 132, 133, 134] (by decide +kernel) (by decide +kernel)
set_option maxRecDepth 20000 in
theorem gX8_best_X8_hasCave : GoodIn wsX8_best (wsV RX8 158 RX8 yX8_hasCave wsX8_hasCave) := goodIn_app (goodIn_of _ (by decide +kernel)) ggX8_best_X8_hasCave
set_option maxRecDepth 20000 in
theorem ggX8_best_X8_isFit : GoodIn wsX8_best wsX8_isFit := goodIn_r _ [12] (by decide +kernel) (by decide +kernel)
set_option maxRecDepth 20000 in
theorem gX8_best_X8_isFit : GoodIn wsX8_best (va_wsS RX8 173 yX8_isFit wsX8_isFit) := goodIn_app (goodIn_of _ (by decide +kernel)) ggX8_best_X8_isFit
set_option maxRecDepth 20000 in
theorem ggX8_best_X8_seekBest : GoodIn wsX8_best wsX8_seekBest := goodIn_r _ [16, 17, 18, 19, 2, 3, 9, 20, 21, 7, 22, 23, 24, 25, 26, 27, 28, 29, 30, 31, 32, 33, 34, 35, 36, 37, 38, 39, 40, 41, 42, 43, 44, 45, 46, 47, 48, 49, 50, 51, 52, 53, 54, 55, 56, 57, 58, 59, 60, 61, 62, 63, 64, 65, 66, 67, 68, 69, 70, 71, 72, 73, 74, 75, 76, 77, 78, 79, 80, 81, 82, 83, 84, 85, 86, 87, 88, 89, 90, 91, 92, 93, 94, 95, 96, 97, 98, 99, 100, 101, 102, 103, 104, 105, 106, 107, 108, 109, 110, 111, 112, 113, 114, 115, 116, 117, 118, 119, 120, 121, 122, 123, 124, 125, 126, 127, 128, 129, 130, 131, 132, 133, 134, 135, 136, 137, 138, 139, 140, 141, 142, 143, 144, 145, 146, 147, 148, 149, 150, 151, 152, 153, 154, 155, 156, 157, 158, 159, 160] (by decide +kernel) (by decide +kernel)
set_option maxRecDepth 20000 in
theorem gX8_best_X8_seekBest : GoodIn wsX8_best (wsV RX8 179 RX8 yX8_seekBest wsX8_seekBest) := goodIn_app (goodIn_of _ (by decide +kernel)) ggX8_best_X8_seekBest
set_option maxRecDepth 20000 in
theorem ggX8_best_X8_at : GoodIn wsX8_best wsX8_at := goodIn_r _ [57] (by decide +kernel) (by decide +kernel)
set_option maxRecDepth 20000 in
theorem gX8_best_X8_at : GoodIn wsX8_best (va_wsS RX8 103 yX8_at wsX8_at) := goodIn_app (goodIn_of _ (by decide +kernel)) ggX8_best_X8_at
theorem dX8_best_0 : decode cX8_best 0 = .ok (.aload_n 0, 1) := by decide +kernel
theorem dX8_best_1 : decode cX8_best 1 = .ok (.invokevirtual 158, 3) := by decide +kernel
theorem dX8_best_4 : decode cX8_best 4 = .ok (.ifCond .eq 12, 3) := by decide +kernel
theorem dX8_best_7 : decode cX8_best 7 = .ok (.iload_n 1, 1) := by decide +kernel
theorem dX8_best_8 : decode cX8_best 8 = .ok (.ifCond .lt 8, 3) := by decide +kernel
theorem dX8_best_11 : decode cX8_best 11 = .ok (.iload_n 1, 1) := by decide +kernel
theorem dX8_best_12 : decode cX8_best 12 = .ok (.iconst 5, 1) := by decide +kernel
theorem dX8_best_13 : decode cX8_best 13 = .ok (.if_icmp .le 6, 3) := by decide +kernel
theorem dX8_best_16 : decode cX8_best 16 = .ok (.bipush (-101), 2) := by decide +kernel
theorem dX8_best_18 : decode cX8_best 18 = .ok (.ireturn, 1) := by decide +kernel
theorem dX8_best_19 : decode cX8_best 19 = .ok (.iload_n 2, 1) := by decide +kernel
theorem dX8_best_20 : decode cX8_best 20 = .ok (.invokestatic 173, 3) := by decide +kernel
theorem dX8_best_23 : decode cX8_best 23 = .ok (.ifCond .eq 19, 3) := by decide +kernel
theorem dX8_best_26 : decode cX8_best 26 = .ok (.iload_n 3, 1) := by decide +kernel
theorem dX8_best_27 : decode cX8_best 27 = .ok (.ifCond .eq 18, 3) := by decide +kernel
theorem dX8_best_30 : decode cX8_best 30 = .ok (.iload_n 3, 1) := by decide +kernel
theorem dX8_best_31 : decode cX8_best 31 = .ok (.bipush 10, 2) := by decide +kernel
theorem dX8_best_33 : decode cX8_best 33 = .ok (.if_icmp .lt 9, 3) := by decide +kernel
theorem dX8_best_36 : decode cX8_best 36 = .ok (.iload_n 3, 1) := by decide +kernel
theorem dX8_best_37 : decode cX8_best 37 = .ok (.bipush 13, 2) := by decide +kernel
theorem dX8_best_39 : decode cX8_best 39 = .ok (.if_icmp .lt 6, 3) := by decide +kernel
theorem dX8_best_42 : decode cX8_best 42 = .ok (.bipush (-102), 2) := by decide +kernel
theorem dX8_best_44 : decode cX8_best 44 = .ok (.ireturn, 1) := by decide +kernel
theorem dX8_best_45 : decode cX8_best 45 = .ok (.aload_n 0, 1) := by decide +kernel
theorem dX8_best_46 : decode cX8_best 46 = .ok (.getfield 176, 3) := by decide +kernel
theorem dX8_best_49 : decode cX8_best 49 = .ok (.bipush 30, 2) := by decide +kernel
theorem dX8_best_51 : decode cX8_best 51 = .ok (.if_icmp .lt 6, 3) := by decide +kernel
theorem dX8_best_54 : decode cX8_best 54 = .ok (.bipush (-103), 2) := by decide +kernel
theorem dX8_best_56 : decode cX8_best 56 = .ok (.ireturn, 1) := by decide +kernel
theorem dX8_best_57 : decode cX8_best 57 = .ok (.aload_n 0, 1) := by decide +kernel
theorem dX8_best_58 : decode cX8_best 58 = .ok (.dup, 1) := by decide +kernel
theorem dX8_best_59 : decode cX8_best 59 = .ok (.getfield 176, 3) := by decide +kernel
theorem dX8_best_62 : decode cX8_best 62 = .ok (.iconst 1, 1) := by decide +kernel
theorem dX8_best_63 : decode cX8_best 63 = .ok (.iadd, 1) := by decide +kernel
theorem dX8_best_64 : decode cX8_best 64 = .ok (.putfield 176, 3) := by decide +kernel
theorem dX8_best_67 : decode cX8_best 67 = .ok (.aload_n 0, 1) := by decide +kernel
theorem dX8_best_68 : decode cX8_best 68 = .ok (.iload_n 1, 1) := by decide +kernel
theorem dX8_best_69 : decode cX8_best 69 = .ok (.iload_n 2, 1) := by decide +kernel
theorem dX8_best_70 : decode cX8_best 70 = .ok (.invokevirtual 179, 3) := by decide +kernel
theorem dX8_best_73 : decode cX8_best 73 = .ok (.iload_n 3, 1) := by decide +kernel
theorem dX8_best_74 : decode cX8_best 74 = .ok (.ifCond .ne 10, 3) := by decide +kernel
theorem dX8_best_77 : decode cX8_best 77 = .ok (.aload_n 0, 1) := by decide +kernel
theorem dX8_best_78 : decode cX8_best 78 = .ok (.getfield 183, 3) := by decide +kernel
theorem dX8_best_81 : decode cX8_best 81 = .ok (.goto 14, 3) := by decide +kernel
theorem dX8_best_84 : decode cX8_best 84 = .ok (.aload_n 0, 1) := by decide +kernel
theorem dX8_best_85 : decode cX8_best 85 = .ok (.getfield 43, 3) := by decide +kernel
theorem dX8_best_88 : decode cX8_best 88 = .ok (.iload_n 3, 1) := by decide +kernel
theorem dX8_best_89 : decode cX8_best 89 = .ok (.bipush 10, 2) := by decide +kernel
theorem dX8_best_91 : decode cX8_best 91 = .ok (.isub, 1) := by decide +kernel
theorem dX8_best_92 : decode cX8_best 92 = .ok (.invokestatic 103, 3) := by decide +kernel
theorem dX8_best_95 : decode cX8_best 95 = .ok (.ireturn, 1) := by decide +kernel
set_option maxRecDepth 20000 in
theorem ggX8_swaps_X8_hasCave : GoodIn wsX8_swaps wsX8_hasCave := goodIn_r _ [9, 10, 122, 123, 124, 125, 126, 127, 128, 129, 130, 131, 132, 133, 134] (by decide +kernel) (by decide +kernel)
set_option maxRecDepth 20000 in
theorem gX8_swaps_X8_hasCave : GoodIn wsX8_swaps (wsV RX8 158 RX8 yX8_hasCave wsX8_hasCave) := goodIn_app (goodIn_of _ (by decide +kernel)) ggX8_swaps_X8_hasCave
set_option maxRecDepth 20000 in
theorem ggX8_swaps_X8_nextDay : GoodIn wsX8_swaps wsX8_nextDay := goodIn_r _ [14, 15, 16, 2, 3, 17, 18, 19, 20, 21, 22, 23, 24, 25, 26, 27, 28, 29, 30, 31, 32, 33, 34, 35, 8, 36, 37, 38, 39, 40, 41, 42, 43, 44, 45, 46, 47, 48, 49, 50, 51, 52, 53, 54, 55, 56, 57, 58, 59, 60, 61, 62, 63, 64, 65, 66, 67, 68, 69, 70, 71, 72, 73, 74, 75, 76, 77, 78, 79, 80, 81, 82, 83, 84, 85, 86, 87, 88, 89, 90, 91, 92, 93, 94, 95, 96, 97, 98, 99, 100, 101, 122, 123, 124, 125, 126, 127, 128, 129, 130, 131, 132, 133, 134, 135, 136, 137, 138, 139, 140, 141, 142, 143, 115, 116, 117, 118, 119, 120, 121, 144, 145, 146, 147, 148, 149, 150, 151, 152, 153] (by decide +kernel) (by decide +kernel)
set_option maxRecDepth 20000 in
theorem gX8_swaps_X8_nextDay : GoodIn wsX8_swaps (wsV RX8 139 RX8 yX8_nextDay wsX8_nextDay) := goodIn_app (goodIn_of _ (by decide +kernel)) ggX8_swaps_X8_nextDay
set_option maxRecDepth 20000 in
theorem ggX8_swaps_X8_copy : GoodIn wsX8_swaps wsX8_copy := goodIn_r _ [104] (by decide +kernel) (by decide +kernel)
set_option maxRecDepth 20000 in
theorem gX8_swaps_X8_copy : GoodIn wsX8_swaps (va_wsS RX8 186 yX8_copy wsX8_copy) := goodIn_app (goodIn_of _ (by decide +kernel)) ggX8_swaps_X8_copy
set_option maxRecDepth 20000 in
theorem ggX8_swaps_X8_swappedMerit : GoodIn wsX8_swaps wsX8_swappedMerit := goodIn_r _ [108, 4, 1, 109, 37, 8, 38, 110, 35, 36, 111, 112, 113, 114, 15, 16, 2, 17, 18, 19, 20, 21, 22, 23, 24, 25, 26, 27, 28, 29, 30, 31, 32, 33, 34, 39, 40, 41, 42, 43, 44, 45, 46, 47, 48, 49, 50, 51, 52, 53, 54, 55, 56, 57, 58, 59, 60, 61, 62, 63, 64, 65, 66, 67, 68, 69, 70, 71, 72, 73, 74, 75, 76, 77, 78, 79, 80, 81, 82, 83, 84, 85, 86, 87, 88, 89, 90, 91, 92, 93, 94, 95, 96, 97, 98, 99, 100, 101, 122, 123, 124, 125, 126, 127, 128, 129, 130, 131, 132, 133, 134, 115, 116, 117, 118, 119, 120, 121, 135, 136, 137, 138, 139, 140, 141, 142, 143, 144, 145, 146, 147, 148, 149, 150, 151, 152, 153] (by decide +kernel) (by decide +kernel)
set_option maxRecDepth 20000 in
theorem gX8_swaps_X8_swappedMerit : GoodIn wsX8_swaps (wsV RX8 190 RX8 yX8_swappedMerit wsX8_swappedMerit) := goodIn_app (goodIn_of _ (by decide +kernel)) ggX8_swaps_X8_swappedMerit
theorem dX8_swaps_0 : decode cX8_swaps 0 = .ok (.aload_n 0, 1) := by decide +kernel
theorem dX8_swaps_1 : decode cX8_swaps 1 = .ok (.invokevirtual 158, 3) := by decide +kernel
theorem dX8_swaps_4 : decode cX8_swaps 4 = .ok (.ifCond .ne 6, 3) := by decide +kernel
theorem dX8_swaps_7 : decode cX8_swaps 7 = .ok (.bipush (-103), 2) := by decide +kernel
theorem dX8_swaps_9 : decode cX8_swaps 9 = .ok (.ireturn, 1) := by decide +kernel
theorem dX8_swaps_10 : decode cX8_swaps 10 = .ok (.aload_n 0, 1) := by decide +kernel
theorem dX8_swaps_11 : decode cX8_swaps 11 = .ok (.invokevirtual 139, 3) := by decide +kernel
theorem dX8_swaps_14 : decode cX8_swaps 14 = .ok (.getfield 170, 3) := by decide +kernel
theorem dX8_swaps_17 : decode cX8_swaps 17 = .ok (.istore_n 1, 1) := by decide +kernel
theorem dX8_swaps_18 : decode cX8_swaps 18 = .ok (.aload_n 0, 1) := by decide +kernel
theorem dX8_swaps_19 : decode cX8_swaps 19 = .ok (.getfield 25, 3) := by decide +kernel
theorem dX8_swaps_22 : decode cX8_swaps 22 = .ok (.getfield 132, 3) := by decide +kernel
theorem dX8_swaps_25 : decode cX8_swaps 25 = .ok (.aload_n 0, 1) := by decide +kernel
theorem dX8_swaps_26 : decode cX8_swaps 26 = .ok (.getfield 39, 3) := by decide +kernel
theorem dX8_swaps_29 : decode cX8_swaps 29 = .ok (.invokestatic 186, 3) := by decide +kernel
theorem dX8_swaps_32 : decode cX8_swaps 32 = .ok (.iconst 0, 1) := by decide +kernel
theorem dX8_swaps_33 : decode cX8_swaps 33 = .ok (.istore_n 2, 1) := by decide +kernel
theorem dX8_swaps_34 : decode cX8_swaps 34 = .ok (.iconst 0, 1) := by decide +kernel
theorem dX8_swaps_35 : decode cX8_swaps 35 = .ok (.istore_n 3, 1) := by decide +kernel
theorem dX8_swaps_36 : decode cX8_swaps 36 = .ok (.iload_n 3, 1) := by decide +kernel
theorem dX8_swaps_37 : decode cX8_swaps 37 = .ok (.bipush 8, 2) := by decide +kernel
theorem dX8_swaps_39 : decode cX8_swaps 39 = .ok (.if_icmp .ge 41, 3) := by decide +kernel
theorem dX8_swaps_42 : decode cX8_swaps 42 = .ok (.iload_n 3, 1) := by decide +kernel
theorem dX8_swaps_43 : decode cX8_swaps 43 = .ok (.iconst 1, 1) := by decide +kernel
theorem dX8_swaps_44 : decode cX8_swaps 44 = .ok (.iadd, 1) := by decide +kernel
theorem dX8_swaps_45 : decode cX8_swaps 45 = .ok (.istore 4, 2) := by decide +kernel
theorem dX8_swaps_47 : decode cX8_swaps 47 = .ok (.iload 4, 2) := by decide +kernel
theorem dX8_swaps_49 : decode cX8_swaps 49 = .ok (.bipush 8, 2) := by decide +kernel
theorem dX8_swaps_51 : decode cX8_swaps 51 = .ok (.if_icmp .ge 23, 3) := by decide +kernel
theorem dX8_swaps_54 : decode cX8_swaps 54 = .ok (.aload_n 0, 1) := by decide +kernel
theorem dX8_swaps_55 : decode cX8_swaps 55 = .ok (.iload_n 3, 1) := by decide +kernel
theorem dX8_swaps_56 : decode cX8_swaps 56 = .ok (.iload 4, 2) := by decide +kernel
theorem dX8_swaps_58 : decode cX8_swaps 58 = .ok (.invokevirtual 190, 3) := by decide +kernel
theorem dX8_swaps_61 : decode cX8_swaps 61 = .ok (.iload_n 1, 1) := by decide +kernel
theorem dX8_swaps_62 : decode cX8_swaps 62 = .ok (.if_icmp .le 6, 3) := by decide +kernel
theorem dX8_swaps_65 : decode cX8_swaps 65 = .ok (.iinc 2 1, 3) := by decide +kernel
theorem dX8_swaps_68 : decode cX8_swaps 68 = .ok (.iinc 4 1, 3) := by decide +kernel
theorem dX8_swaps_71 : decode cX8_swaps 71 = .ok (.goto (-24), 3) := by decide +kernel
theorem dX8_swaps_74 : decode cX8_swaps 74 = .ok (.iinc 3 1, 3) := by decide +kernel
theorem dX8_swaps_77 : decode cX8_swaps 77 = .ok (.goto (-41), 3) := by decide +kernel
theorem dX8_swaps_80 : decode cX8_swaps 80 = .ok (.iload_n 2, 1) := by decide +kernel
theorem dX8_swaps_81 : decode cX8_swaps 81 = .ok (.ireturn, 1) := by decide +kernel
set_option maxRecDepth 20000 in
theorem ggX8_found_X8_hasCave : GoodIn wsX8_found wsX8_hasCave := goodIn_r _ [7, 8, 22, 23, 24, 25, 26, 27, 28, 29, 30, 31, 32, 33, 34] (by decide +kernel) (by decide +kernel)
set_option maxRecDepth 20000 in
theorem gX8_found_X8_hasCave : GoodIn wsX8_found (wsV RX8 158 RX8 yX8_hasCave wsX8_hasCave) := goodIn_app (goodIn_of _ (by decide +kernel)) ggX8_found_X8_hasCave
set_option maxRecDepth 20000 in
theorem ggX8_found_X8_isFit : GoodIn wsX8_found wsX8_isFit := goodIn_r _ [11] (by decide +kernel) (by decide +kernel)
set_option maxRecDepth 20000 in
theorem gX8_found_X8_isFit : GoodIn wsX8_found (va_wsS RX8 173 yX8_isFit wsX8_isFit) := goodIn_app (goodIn_of _ (by decide +kernel)) ggX8_found_X8_isFit
set_option maxRecDepth 20000 in
theorem ggX8_found_X3_addFound : GoodIn wsX8_found wsX3_addFound := goodIn_r _ [16, 17, 18, 19, 20, 6, 21, 35, 36, 37, 38, 39, 40, 41, 42, 43] (by decide +kernel) (by decide +kernel)
set_option maxRecDepth 20000 in
theorem gX8_found_X3_addFound : GoodIn wsX8_found (wsV RX8 197 RX3 yX3_addFound wsX3_addFound) := goodIn_app (goodIn_of _ (by decide +kernel)) ggX8_found_X3_addFound
theorem dX8_found_0 : decode cX8_found 0 = .ok (.aload_n 0, 1) := by decide +kernel
theorem dX8_found_1 : decode cX8_found 1 = .ok (.invokevirtual 158, 3) := by decide +kernel
theorem dX8_found_4 : decode cX8_found 4 = .ok (.ifCond .eq 13, 3) := by decide +kernel
theorem dX8_found_7 : decode cX8_found 7 = .ok (.iload_n 1, 1) := by decide +kernel
theorem dX8_found_8 : decode cX8_found 8 = .ok (.ifCond .lt 9, 3) := by decide +kernel
theorem dX8_found_11 : decode cX8_found 11 = .ok (.iload_n 1, 1) := by decide +kernel
theorem dX8_found_12 : decode cX8_found 12 = .ok (.bipush 8, 2) := by decide +kernel
theorem dX8_found_14 : decode cX8_found 14 = .ok (.if_icmp .le 6, 3) := by decide +kernel
theorem dX8_found_17 : decode cX8_found 17 = .ok (.bipush (-101), 2) := by decide +kernel
theorem dX8_found_19 : decode cX8_found 19 = .ok (.ireturn, 1) := by decide +kernel
theorem dX8_found_20 : decode cX8_found 20 = .ok (.iload_n 2, 1) := by decide +kernel
theorem dX8_found_21 : decode cX8_found 21 = .ok (.invokestatic 173, 3) := by decide +kernel
theorem dX8_found_24 : decode cX8_found 24 = .ok (.ifCond .ne 6, 3) := by decide +kernel
theorem dX8_found_27 : decode cX8_found 27 = .ok (.bipush (-102), 2) := by decide +kernel
theorem dX8_found_29 : decode cX8_found 29 = .ok (.ireturn, 1) := by decide +kernel
theorem dX8_found_30 : decode cX8_found 30 = .ok (.aload_n 0, 1) := by decide +kernel
theorem dX8_found_31 : decode cX8_found 31 = .ok (.getfield 25, 3) := by decide +kernel
theorem dX8_found_34 : decode cX8_found 34 = .ok (.getfield 194, 3) := by decide +kernel
theorem dX8_found_37 : decode cX8_found 37 = .ok (.bipush 6, 2) := by decide +kernel
theorem dX8_found_39 : decode cX8_found 39 = .ok (.if_icmp .lt 6, 3) := by decide +kernel
theorem dX8_found_42 : decode cX8_found 42 = .ok (.bipush (-104), 2) := by decide +kernel
theorem dX8_found_44 : decode cX8_found 44 = .ok (.ireturn, 1) := by decide +kernel
theorem dX8_found_45 : decode cX8_found 45 = .ok (.aload_n 0, 1) := by decide +kernel
theorem dX8_found_46 : decode cX8_found 46 = .ok (.getfield 25, 3) := by decide +kernel
theorem dX8_found_49 : decode cX8_found 49 = .ok (.iload_n 1, 1) := by decide +kernel
theorem dX8_found_50 : decode cX8_found 50 = .ok (.iload_n 2, 1) := by decide +kernel
theorem dX8_found_51 : decode cX8_found 51 = .ok (.invokevirtual 197, 3) := by decide +kernel
theorem dX8_found_54 : decode cX8_found 54 = .ok (.aload_n 0, 1) := by decide +kernel
theorem dX8_found_55 : decode cX8_found 55 = .ok (.getfield 25, 3) := by decide +kernel
theorem dX8_found_58 : decode cX8_found 58 = .ok (.getfield 194, 3) := by decide +kernel
theorem dX8_found_61 : decode cX8_found 61 = .ok (.ireturn, 1) := by decide +kernel
theorem dX8_forget_0 : decode cX8_forget 0 = .ok (.aload_n 0, 1) := by decide +kernel
theorem dX8_forget_1 : decode cX8_forget 1 = .ok (.getfield 25, 3) := by decide +kernel
theorem dX8_forget_4 : decode cX8_forget 4 = .ok (.getfield 194, 3) := by decide +kernel
theorem dX8_forget_7 : decode cX8_forget 7 = .ok (.istore_n 1, 1) := by decide +kernel
theorem dX8_forget_8 : decode cX8_forget 8 = .ok (.aload_n 0, 1) := by decide +kernel
theorem dX8_forget_9 : decode cX8_forget 9 = .ok (.getfield 25, 3) := by decide +kernel
theorem dX8_forget_12 : decode cX8_forget 12 = .ok (.iconst 0, 1) := by decide +kernel
theorem dX8_forget_13 : decode cX8_forget 13 = .ok (.putfield 194, 3) := by decide +kernel
theorem dX8_forget_16 : decode cX8_forget 16 = .ok (.iload_n 1, 1) := by decide +kernel
theorem dX8_forget_17 : decode cX8_forget 17 = .ok (.ireturn, 1) := by decide +kernel
set_option maxRecDepth 20000 in
theorem ggX8_months_X8_hasCave : GoodIn wsX8_months wsX8_hasCave := goodIn_r _ [15, 16, 114, 115, 116, 117, 118, 119, 120, 121, 122, 123, 124, 125, 126] (by decide +kernel) (by decide +kernel)
set_option maxRecDepth 20000 in
theorem gX8_months_X8_hasCave : GoodIn wsX8_months (wsV RX8 158 RX8 yX8_hasCave wsX8_hasCave) := goodIn_app (goodIn_of _ (by decide +kernel)) ggX8_months_X8_hasCave
set_option maxRecDepth 20000 in
theorem ggX8_months_X8_planByDraws : GoodIn wsX8_months wsX8_planByDraws := goodIn_r _ [20, 16, 21, 22, 23, 24, 25, 6, 26, 27, 14, 28, 29, 30, 31, 32, 33, 34, 114, 115, 116, 117, 118, 119, 120, 121, 122, 123, 124, 125, 126] (by decide +kernel) (by decide +kernel)
set_option maxRecDepth 20000 in
theorem gX8_months_X8_planByDraws : GoodIn wsX8_months (wsV RX8 200 RX8 yX8_planByDraws wsX8_planByDraws) := goodIn_app (goodIn_of _ (by decide +kernel)) ggX8_months_X8_planByDraws
set_option maxRecDepth 20000 in
theorem ggX8_months_X7_live : GoodIn wsX8_months wsX7_live := goodIn_r _ [39, 40, 41, 42, 43, 44, 45, 23, 46, 47, 22, 24, 33, 14, 34, 48, 49, 50, 51, 52, 53, 54, 38, 55, 56, 57, 58, 59, 60, 61, 62, 63, 64, 65, 66, 67, 68, 69, 70, 71, 72, 73, 74, 75, 76, 77, 78, 79, 80, 81, 82, 83, 84, 85, 86, 87, 88, 89, 90, 91, 92, 93, 94, 95, 96, 97, 98, 99, 100, 101, 102, 103, 104, 105, 106, 107, 108, 109, 110, 111, 112, 136, 137, 138, 139, 140, 141, 142, 143, 144, 145, 146, 147, 148, 149, 150, 151, 152] (by decide +kernel) (by decide +kernel)
set_option maxRecDepth 20000 in
theorem gX8_months_X7_live : GoodIn wsX8_months (wsV RX8 203 RX7 yX7_live wsX7_live) := goodIn_app (goodIn_of _ (by decide +kernel)) ggX8_months_X7_live
set_option maxRecDepth 20000 in
theorem ggX8_months_X8_at : GoodIn wsX8_months wsX8_at := goodIn_r _ [49] (by decide +kernel) (by decide +kernel)
set_option maxRecDepth 20000 in
theorem gX8_months_X8_at : GoodIn wsX8_months (va_wsS RX8 103 yX8_at wsX8_at) := goodIn_app (goodIn_of _ (by decide +kernel)) ggX8_months_X8_at
theorem dX8_months_0 : decode cX8_months 0 = .ok (.iload_n 1, 1) := by decide +kernel
theorem dX8_months_1 : decode cX8_months 1 = .ok (.iconst 1, 1) := by decide +kernel
theorem dX8_months_2 : decode cX8_months 2 = .ok (.if_icmp .lt 22, 3) := by decide +kernel
theorem dX8_months_5 : decode cX8_months 5 = .ok (.iload_n 1, 1) := by decide +kernel
theorem dX8_months_6 : decode cX8_months 6 = .ok (.bipush 30, 2) := by decide +kernel
theorem dX8_months_8 : decode cX8_months 8 = .ok (.if_icmp .gt 16, 3) := by decide +kernel
theorem dX8_months_11 : decode cX8_months 11 = .ok (.iload_n 2, 1) := by decide +kernel
theorem dX8_months_12 : decode cX8_months 12 = .ok (.ifCond .lt 12, 3) := by decide +kernel
theorem dX8_months_15 : decode cX8_months 15 = .ok (.iload_n 3, 1) := by decide +kernel
theorem dX8_months_16 : decode cX8_months 16 = .ok (.ifCond .lt 8, 3) := by decide +kernel
theorem dX8_months_19 : decode cX8_months 19 = .ok (.iload_n 3, 1) := by decide +kernel
theorem dX8_months_20 : decode cX8_months 20 = .ok (.iconst 2, 1) := by decide +kernel
theorem dX8_months_21 : decode cX8_months 21 = .ok (.if_icmp .le 6, 3) := by decide +kernel
theorem dX8_months_24 : decode cX8_months 24 = .ok (.bipush (-102), 2) := by decide +kernel
theorem dX8_months_26 : decode cX8_months 26 = .ok (.ireturn, 1) := by decide +kernel
theorem dX8_months_27 : decode cX8_months 27 = .ok (.aload_n 0, 1) := by decide +kernel
theorem dX8_months_28 : decode cX8_months 28 = .ok (.invokevirtual 158, 3) := by decide +kernel
theorem dX8_months_31 : decode cX8_months 31 = .ok (.ifCond .ne 6, 3) := by decide +kernel
theorem dX8_months_34 : decode cX8_months 34 = .ok (.bipush (-103), 2) := by decide +kernel
theorem dX8_months_36 : decode cX8_months 36 = .ok (.ireturn, 1) := by decide +kernel
theorem dX8_months_37 : decode cX8_months 37 = .ok (.iconst 0, 1) := by decide +kernel
theorem dX8_months_38 : decode cX8_months 38 = .ok (.istore 4, 2) := by decide +kernel
theorem dX8_months_40 : decode cX8_months 40 = .ok (.iconst 0, 1) := by decide +kernel
theorem dX8_months_41 : decode cX8_months 41 = .ok (.istore 5, 2) := by decide +kernel
theorem dX8_months_43 : decode cX8_months 43 = .ok (.aload_n 0, 1) := by decide +kernel
theorem dX8_months_44 : decode cX8_months 44 = .ok (.getfield 25, 3) := by decide +kernel
theorem dX8_months_47 : decode cX8_months 47 = .ok (.getfield 164, 3) := by decide +kernel
theorem dX8_months_50 : decode cX8_months 50 = .ok (.istore 6, 2) := by decide +kernel
theorem dX8_months_52 : decode cX8_months 52 = .ok (.aload_n 0, 1) := by decide +kernel
theorem dX8_months_53 : decode cX8_months 53 = .ok (.getfield 25, 3) := by decide +kernel
theorem dX8_months_56 : decode cX8_months 56 = .ok (.getfield 114, 3) := by decide +kernel
theorem dX8_months_59 : decode cX8_months 59 = .ok (.istore 7, 2) := by decide +kernel
theorem dX8_months_61 : decode cX8_months 61 = .ok (.iload_n 2, 1) := by decide +kernel
theorem dX8_months_62 : decode cX8_months 62 = .ok (.istore 8, 2) := by decide +kernel
theorem dX8_months_64 : decode cX8_months 64 = .ok (.iconst 0, 1) := by decide +kernel
theorem dX8_months_65 : decode cX8_months 65 = .ok (.istore 9, 2) := by decide +kernel
theorem dX8_months_67 : decode cX8_months 67 = .ok (.iload 9, 2) := by decide +kernel
theorem dX8_months_69 : decode cX8_months 69 = .ok (.iload_n 1, 1) := by decide +kernel
theorem dX8_months_70 : decode cX8_months 70 = .ok (.if_icmp .ge 83, 3) := by decide +kernel
theorem dX8_months_73 : decode cX8_months 73 = .ok (.aload_n 0, 1) := by decide +kernel
theorem dX8_months_74 : decode cX8_months 74 = .ok (.iload 8, 2) := by decide +kernel
theorem dX8_months_76 : decode cX8_months 76 = .ok (.invokevirtual 200, 3) := by decide +kernel
theorem dX8_months_79 : decode cX8_months 79 = .ok (.istore 8, 2) := by decide +kernel
theorem dX8_months_81 : decode cX8_months 81 = .ok (.aload_n 0, 1) := by decide +kernel
theorem dX8_months_82 : decode cX8_months 82 = .ok (.getfield 35, 3) := by decide +kernel
theorem dX8_months_85 : decode cX8_months 85 = .ok (.aload_n 0, 1) := by decide +kernel
theorem dX8_months_86 : decode cX8_months 86 = .ok (.getfield 18, 3) := by decide +kernel
theorem dX8_months_89 : decode cX8_months 89 = .ok (.aload_n 0, 1) := by decide +kernel
theorem dX8_months_90 : decode cX8_months 90 = .ok (.getfield 39, 3) := by decide +kernel
theorem dX8_months_93 : decode cX8_months 93 = .ok (.iload 6, 2) := by decide +kernel
theorem dX8_months_95 : decode cX8_months 95 = .ok (.iload 7, 2) := by decide +kernel
theorem dX8_months_97 : decode cX8_months 97 = .ok (.invokevirtual 203, 3) := by decide +kernel
theorem dX8_months_100 : decode cX8_months 100 = .ok (.iload 4, 2) := by decide +kernel
theorem dX8_months_102 : decode cX8_months 102 = .ok (.aload_n 0, 1) := by decide +kernel
theorem dX8_months_103 : decode cX8_months 103 = .ok (.getfield 35, 3) := by decide +kernel
theorem dX8_months_106 : decode cX8_months 106 = .ok (.getfield 170, 3) := by decide +kernel
theorem dX8_months_109 : decode cX8_months 109 = .ok (.iadd, 1) := by decide +kernel
theorem dX8_months_110 : decode cX8_months 110 = .ok (.istore 4, 2) := by decide +kernel
theorem dX8_months_112 : decode cX8_months 112 = .ok (.iload 5, 2) := by decide +kernel
theorem dX8_months_114 : decode cX8_months 114 = .ok (.aload_n 0, 1) := by decide +kernel
theorem dX8_months_115 : decode cX8_months 115 = .ok (.getfield 35, 3) := by decide +kernel
theorem dX8_months_118 : decode cX8_months 118 = .ok (.getfield 207, 3) := by decide +kernel
theorem dX8_months_121 : decode cX8_months 121 = .ok (.iadd, 1) := by decide +kernel
theorem dX8_months_122 : decode cX8_months 122 = .ok (.istore 5, 2) := by decide +kernel
theorem dX8_months_124 : decode cX8_months 124 = .ok (.aload_n 0, 1) := by decide +kernel
theorem dX8_months_125 : decode cX8_months 125 = .ok (.getfield 35, 3) := by decide +kernel
theorem dX8_months_128 : decode cX8_months 128 = .ok (.getfield 143, 3) := by decide +kernel
theorem dX8_months_131 : decode cX8_months 131 = .ok (.bipush 8, 2) := by decide +kernel
theorem dX8_months_133 : decode cX8_months 133 = .ok (.invokestatic 103, 3) := by decide +kernel
theorem dX8_months_136 : decode cX8_months 136 = .ok (.istore 6, 2) := by decide +kernel
theorem dX8_months_138 : decode cX8_months 138 = .ok (.aload_n 0, 1) := by decide +kernel
theorem dX8_months_139 : decode cX8_months 139 = .ok (.getfield 35, 3) := by decide +kernel
theorem dX8_months_142 : decode cX8_months 142 = .ok (.getfield 166, 3) := by decide +kernel
theorem dX8_months_145 : decode cX8_months 145 = .ok (.istore 7, 2) := by decide +kernel
theorem dX8_months_147 : decode cX8_months 147 = .ok (.iinc 9 1, 3) := by decide +kernel
theorem dX8_months_150 : decode cX8_months 150 = .ok (.goto (-83), 3) := by decide +kernel
theorem dX8_months_153 : decode cX8_months 153 = .ok (.iload_n 3, 1) := by decide +kernel
theorem dX8_months_154 : decode cX8_months 154 = .ok (.ifCond .ne 8, 3) := by decide +kernel
theorem dX8_months_157 : decode cX8_months 157 = .ok (.iload 4, 2) := by decide +kernel
theorem dX8_months_159 : decode cX8_months 159 = .ok (.goto 15, 3) := by decide +kernel
theorem dX8_months_162 : decode cX8_months 162 = .ok (.iload_n 3, 1) := by decide +kernel
theorem dX8_months_163 : decode cX8_months 163 = .ok (.iconst 1, 1) := by decide +kernel
theorem dX8_months_164 : decode cX8_months 164 = .ok (.if_icmp .ne 8, 3) := by decide +kernel
theorem dX8_months_167 : decode cX8_months 167 = .ok (.iload 5, 2) := by decide +kernel
theorem dX8_months_169 : decode cX8_months 169 = .ok (.goto 5, 3) := by decide +kernel
theorem dX8_months_172 : decode cX8_months 172 = .ok (.iload 8, 2) := by decide +kernel
theorem dX8_months_174 : decode cX8_months 174 = .ok (.ireturn, 1) := by decide +kernel
set_option maxRecDepth 20000 in
theorem ggX8_image_X8_hasCave : GoodIn wsX8_image wsX8_hasCave := goodIn_r _ [9, 10, 27, 28, 29, 30, 31, 32, 33, 34, 35, 36, 37, 38, 39] (by decide +kernel) (by decide +kernel)
