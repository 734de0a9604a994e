theorem dX9_monthsNow_78 : decode cX9_monthsNow 78 = .ok (.iload 10, 2) := by decide +kernel
theorem dX9_monthsNow_80 : decode cX9_monthsNow 80 = .ok (.iastore, 1) := by decide +kernel
theorem dX9_monthsNow_81 : decode cX9_monthsNow 81 = .ok (.iinc 9 1, 3) := by decide +kernel
theorem dX9_monthsNow_84 : decode cX9_monthsNow 84 = .ok (.goto (-44), 3) := by decide +kernel
theorem dX9_monthsNow_87 : decode cX9_monthsNow 87 = .ok (.aload_n 0, 1) := by decide +kernel
theorem dX9_monthsNow_88 : decode cX9_monthsNow 88 = .ok (.iload 6, 2) := by decide +kernel
theorem dX9_monthsNow_90 : decode cX9_monthsNow 90 = .ok (.iload 7, 2) := by decide +kernel
theorem dX9_monthsNow_92 : decode cX9_monthsNow 92 = .ok (.invokevirtual 141, 3) := by decide +kernel
theorem dX9_monthsNow_95 : decode cX9_monthsNow 95 = .ok (.aload_n 0, 1) := by decide +kernel
theorem dX9_monthsNow_96 : decode cX9_monthsNow 96 = .ok (.getfield 118, 3) := by decide +kernel
theorem dX9_monthsNow_99 : decode cX9_monthsNow 99 = .ok (.istore 6, 2) := by decide +kernel
theorem dX9_monthsNow_101 : decode cX9_monthsNow 101 = .ok (.aload_n 0, 1) := by decide +kernel
theorem dX9_monthsNow_102 : decode cX9_monthsNow 102 = .ok (.getfield 124, 3) := by decide +kernel
theorem dX9_monthsNow_105 : decode cX9_monthsNow 105 = .ok (.istore 7, 2) := by decide +kernel
theorem dX9_monthsNow_107 : decode cX9_monthsNow 107 = .ok (.iload 4, 2) := by decide +kernel
theorem dX9_monthsNow_109 : decode cX9_monthsNow 109 = .ok (.aload_n 0, 1) := by decide +kernel
theorem dX9_monthsNow_110 : decode cX9_monthsNow 110 = .ok (.invokevirtual 174, 3) := by decide +kernel
theorem dX9_monthsNow_113 : decode cX9_monthsNow 113 = .ok (.iadd, 1) := by decide +kernel
theorem dX9_monthsNow_114 : decode cX9_monthsNow 114 = .ok (.istore 4, 2) := by decide +kernel
theorem dX9_monthsNow_116 : decode cX9_monthsNow 116 = .ok (.iload 5, 2) := by decide +kernel
theorem dX9_monthsNow_118 : decode cX9_monthsNow 118 = .ok (.aload_n 0, 1) := by decide +kernel
theorem dX9_monthsNow_119 : decode cX9_monthsNow 119 = .ok (.invokevirtual 215, 3) := by decide +kernel
theorem dX9_monthsNow_122 : decode cX9_monthsNow 122 = .ok (.iadd, 1) := by decide +kernel
theorem dX9_monthsNow_123 : decode cX9_monthsNow 123 = .ok (.istore 5, 2) := by decide +kernel
theorem dX9_monthsNow_125 : decode cX9_monthsNow 125 = .ok (.iinc 8 1, 3) := by decide +kernel
theorem dX9_monthsNow_128 : decode cX9_monthsNow 128 = .ok (.goto (-97), 3) := by decide +kernel
theorem dX9_monthsNow_131 : decode cX9_monthsNow 131 = .ok (.aload_n 0, 1) := by decide +kernel
theorem dX9_monthsNow_132 : decode cX9_monthsNow 132 = .ok (.invokevirtual 180, 3) := by decide +kernel
theorem dX9_monthsNow_135 : decode cX9_monthsNow 135 = .ok (.iload_n 3, 1) := by decide +kernel
theorem dX9_monthsNow_136 : decode cX9_monthsNow 136 = .ok (.ifCond .ne 8, 3) := by decide +kernel
theorem dX9_monthsNow_139 : decode cX9_monthsNow 139 = .ok (.iload 4, 2) := by decide +kernel
theorem dX9_monthsNow_141 : decode cX9_monthsNow 141 = .ok (.goto 18, 3) := by decide +kernel
theorem dX9_monthsNow_144 : decode cX9_monthsNow 144 = .ok (.iload_n 3, 1) := by decide +kernel
theorem dX9_monthsNow_145 : decode cX9_monthsNow 145 = .ok (.iconst 1, 1) := by decide +kernel
theorem dX9_monthsNow_146 : decode cX9_monthsNow 146 = .ok (.if_icmp .ne 8, 3) := by decide +kernel
theorem dX9_monthsNow_149 : decode cX9_monthsNow 149 = .ok (.iload 5, 2) := by decide +kernel
theorem dX9_monthsNow_151 : decode cX9_monthsNow 151 = .ok (.goto 8, 3) := by decide +kernel
theorem dX9_monthsNow_154 : decode cX9_monthsNow 154 = .ok (.aload_n 0, 1) := by decide +kernel
theorem dX9_monthsNow_155 : decode cX9_monthsNow 155 = .ok (.getfield 202, 3) := by decide +kernel
theorem dX9_monthsNow_158 : decode cX9_monthsNow 158 = .ok (.l2i, 1) := by decide +kernel
theorem dX9_monthsNow_159 : decode cX9_monthsNow 159 = .ok (.ireturn, 1) := by decide +kernel
set_option maxRecDepth 20000 in
theorem ggX9_months_X9_within : GoodIn wsX9_months wsX9_within := goodIn_r _ [5] (by decide +kernel) (by decide +kernel)
set_option maxRecDepth 20000 in
theorem gX9_months_X9_within : GoodIn wsX9_months (va_wsS RX9 71 yX9_within wsX9_within) := goodIn_app (goodIn_of _ (by decide +kernel)) ggX9_months_X9_within
set_option maxRecDepth 20000 in
theorem ggX9_months_X9_monthsNow : GoodIn wsX9_months wsX9_monthsNow := goodIn_r _ [9, 10, 11, 12, 1, 13, 14, 15, 16, 17, 18, 4, 19, 20, 21, 22, 23, 24, 25, 26, 27, 28, 29, 30, 31, 32, 33, 34, 35, 36, 37, 38, 39, 40, 41, 42, 43, 44, 45, 46, 47, 48, 49, 50, 51, 52, 53, 54, 55, 56, 57, 58, 59, 60, 61, 62, 63, 64, 65, 66, 67, 68, 69, 70, 71, 72, 73, 74, 75, 76, 77, 78, 79, 80, 81, 82, 83, 84, 85, 86, 87, 88, 89, 90, 91, 92, 93, 94, 95, 96, 97, 98, 99, 100, 101, 102, 103, 104, 105, 106, 107] (by decide +kernel) (by decide +kernel)
set_option maxRecDepth 20000 in
theorem gX9_months_X9_monthsNow : GoodIn wsX9_months (wsV RX9 218 RX9 yX9_monthsNow wsX9_monthsNow) := goodIn_app (goodIn_of _ (by decide +kernel)) ggX9_months_X9_monthsNow
theorem dX9_months_0 : decode cX9_months 0 = .ok (.iload_n 1, 1) := by decide +kernel
theorem dX9_months_1 : decode cX9_months 1 = .ok (.iconst 1, 1) := by decide +kernel
theorem dX9_months_2 : decode cX9_months 2 = .ok (.bipush 30, 2) := by decide +kernel
theorem dX9_months_4 : decode cX9_months 4 = .ok (.invokestatic 71, 3) := by decide +kernel
theorem dX9_months_7 : decode cX9_months 7 = .ok (.ifCond .eq 16, 3) := by decide +kernel
theorem dX9_months_10 : decode cX9_months 10 = .ok (.iload_n 2, 1) := by decide +kernel
theorem dX9_months_11 : decode cX9_months 11 = .ok (.ifCond .lt 12, 3) := by decide +kernel
theorem dX9_months_14 : decode cX9_months 14 = .ok (.iload_n 3, 1) := by decide +kernel
theorem dX9_months_15 : decode cX9_months 15 = .ok (.iconst 0, 1) := by decide +kernel
theorem dX9_months_16 : decode cX9_months 16 = .ok (.iconst 2, 1) := by decide +kernel
theorem dX9_months_17 : decode cX9_months 17 = .ok (.invokestatic 71, 3) := by decide +kernel
theorem dX9_months_20 : decode cX9_months 20 = .ok (.ifCond .ne 6, 3) := by decide +kernel
theorem dX9_months_23 : decode cX9_months 23 = .ok (.bipush (-102), 2) := by decide +kernel
theorem dX9_months_25 : decode cX9_months 25 = .ok (.ireturn, 1) := by decide +kernel
theorem dX9_months_26 : decode cX9_months 26 = .ok (.aload_n 0, 1) := by decide +kernel
theorem dX9_months_27 : decode cX9_months 27 = .ok (.getfield 100, 3) := by decide +kernel
theorem dX9_months_30 : decode cX9_months 30 = .ok (.ifCond .ne 8, 3) := by decide +kernel
theorem dX9_months_33 : decode cX9_months 33 = .ok (.bipush (-103), 2) := by decide +kernel
theorem dX9_months_35 : decode cX9_months 35 = .ok (.goto 10, 3) := by decide +kernel
theorem dX9_months_38 : decode cX9_months 38 = .ok (.aload_n 0, 1) := by decide +kernel
theorem dX9_months_39 : decode cX9_months 39 = .ok (.iload_n 1, 1) := by decide +kernel
theorem dX9_months_40 : decode cX9_months 40 = .ok (.iload_n 2, 1) := by decide +kernel
theorem dX9_months_41 : decode cX9_months 41 = .ok (.iload_n 3, 1) := by decide +kernel
theorem dX9_months_42 : decode cX9_months 42 = .ok (.invokevirtual 218, 3) := by decide +kernel
theorem dX9_months_45 : decode cX9_months 45 = .ok (.ireturn, 1) := by decide +kernel
theorem dX9_image_0 : decode cX9_image 0 = .ok (.aload_n 0, 1) := by decide +kernel
theorem dX9_image_1 : decode cX9_image 1 = .ok (.getfield 100, 3) := by decide +kernel
theorem dX9_image_4 : decode cX9_image 4 = .ok (.ifCond .ne 6, 3) := by decide +kernel
theorem dX9_image_7 : decode cX9_image 7 = .ok (.bipush (-103), 2) := by decide +kernel
theorem dX9_image_9 : decode cX9_image 9 = .ok (.ireturn, 1) := by decide +kernel
theorem dX9_image_10 : decode cX9_image 10 = .ok (.aload_n 0, 1) := by decide +kernel
theorem dX9_image_11 : decode cX9_image 11 = .ok (.iconst 1, 1) := by decide +kernel
theorem dX9_image_12 : decode cX9_image 12 = .ok (.putfield 221, 3) := by decide +kernel
theorem dX9_image_15 : decode cX9_image 15 = .ok (.aload_n 0, 1) := by decide +kernel
theorem dX9_image_16 : decode cX9_image 16 = .ok (.aload_n 0, 1) := by decide +kernel
theorem dX9_image_17 : decode cX9_image 17 = .ok (.getfield 106, 3) := by decide +kernel
theorem dX9_image_20 : decode cX9_image 20 = .ok (.putfield 224, 3) := by decide +kernel
theorem dX9_image_23 : decode cX9_image 23 = .ok (.aload_n 0, 1) := by decide +kernel
theorem dX9_image_24 : decode cX9_image 24 = .ok (.aload_n 0, 1) := by decide +kernel
theorem dX9_image_25 : decode cX9_image 25 = .ok (.getfield 103, 3) := by decide +kernel
theorem dX9_image_28 : decode cX9_image 28 = .ok (.putfield 227, 3) := by decide +kernel
theorem dX9_image_31 : decode cX9_image 31 = .ok (.aload_n 0, 1) := by decide +kernel
theorem dX9_image_32 : decode cX9_image 32 = .ok (.aload_n 0, 1) := by decide +kernel
theorem dX9_image_33 : decode cX9_image 33 = .ok (.getfield 109, 3) := by decide +kernel
theorem dX9_image_36 : decode cX9_image 36 = .ok (.putfield 230, 3) := by decide +kernel
theorem dX9_image_39 : decode cX9_image 39 = .ok (.aload_n 0, 1) := by decide +kernel
theorem dX9_image_40 : decode cX9_image 40 = .ok (.aload_n 0, 1) := by decide +kernel
theorem dX9_image_41 : decode cX9_image 41 = .ok (.getfield 112, 3) := by decide +kernel
theorem dX9_image_44 : decode cX9_image 44 = .ok (.putfield 233, 3) := by decide +kernel
theorem dX9_image_47 : decode cX9_image 47 = .ok (.aload_n 0, 1) := by decide +kernel
theorem dX9_image_48 : decode cX9_image 48 = .ok (.aload_n 0, 1) := by decide +kernel
theorem dX9_image_49 : decode cX9_image 49 = .ok (.getfield 115, 3) := by decide +kernel
theorem dX9_image_52 : decode cX9_image 52 = .ok (.putfield 236, 3) := by decide +kernel
theorem dX9_image_55 : decode cX9_image 55 = .ok (.iconst 0, 1) := by decide +kernel
theorem dX9_image_56 : decode cX9_image 56 = .ok (.istore_n 1, 1) := by decide +kernel
theorem dX9_image_57 : decode cX9_image 57 = .ok (.iload_n 1, 1) := by decide +kernel
theorem dX9_image_58 : decode cX9_image 58 = .ok (.bipush 8, 2) := by decide +kernel
theorem dX9_image_60 : decode cX9_image 60 = .ok (.if_icmp .ge 21, 3) := by decide +kernel
theorem dX9_image_63 : decode cX9_image 63 = .ok (.aload_n 0, 1) := by decide +kernel
theorem dX9_image_64 : decode cX9_image 64 = .ok (.getfield 56, 3) := by decide +kernel
theorem dX9_image_67 : decode cX9_image 67 = .ok (.iload_n 1, 1) := by decide +kernel
theorem dX9_image_68 : decode cX9_image 68 = .ok (.aload_n 0, 1) := by decide +kernel
theorem dX9_image_69 : decode cX9_image 69 = .ok (.getfield 25, 3) := by decide +kernel
theorem dX9_image_72 : decode cX9_image 72 = .ok (.iload_n 1, 1) := by decide +kernel
theorem dX9_image_73 : decode cX9_image 73 = .ok (.iaload, 1) := by decide +kernel
theorem dX9_image_74 : decode cX9_image 74 = .ok (.iastore, 1) := by decide +kernel
theorem dX9_image_75 : decode cX9_image 75 = .ok (.iinc 1 1, 3) := by decide +kernel
theorem dX9_image_78 : decode cX9_image 78 = .ok (.goto (-21), 3) := by decide +kernel
theorem dX9_image_81 : decode cX9_image 81 = .ok (.iconst 0, 1) := by decide +kernel
theorem dX9_image_82 : decode cX9_image 82 = .ok (.istore_n 1, 1) := by decide +kernel
theorem dX9_image_83 : decode cX9_image 83 = .ok (.iload_n 1, 1) := by decide +kernel
theorem dX9_image_84 : decode cX9_image 84 = .ok (.iconst 4, 1) := by decide +kernel
theorem dX9_image_85 : decode cX9_image 85 = .ok (.if_icmp .ge 33, 3) := by decide +kernel
theorem dX9_image_88 : decode cX9_image 88 = .ok (.aload_n 0, 1) := by decide +kernel
theorem dX9_image_89 : decode cX9_image 89 = .ok (.getfield 59, 3) := by decide +kernel
theorem dX9_image_92 : decode cX9_image 92 = .ok (.iload_n 1, 1) := by decide +kernel
theorem dX9_image_93 : decode cX9_image 93 = .ok (.aload_n 0, 1) := by decide +kernel
theorem dX9_image_94 : decode cX9_image 94 = .ok (.getfield 19, 3) := by decide +kernel
theorem dX9_image_97 : decode cX9_image 97 = .ok (.iload_n 1, 1) := by decide +kernel
theorem dX9_image_98 : decode cX9_image 98 = .ok (.iaload, 1) := by decide +kernel
theorem dX9_image_99 : decode cX9_image 99 = .ok (.iastore, 1) := by decide +kernel
theorem dX9_image_100 : decode cX9_image 100 = .ok (.aload_n 0, 1) := by decide +kernel
theorem dX9_image_101 : decode cX9_image 101 = .ok (.getfield 62, 3) := by decide +kernel
theorem dX9_image_104 : decode cX9_image 104 = .ok (.iload_n 1, 1) := by decide +kernel
theorem dX9_image_105 : decode cX9_image 105 = .ok (.aload_n 0, 1) := by decide +kernel
theorem dX9_image_106 : decode cX9_image 106 = .ok (.getfield 22, 3) := by decide +kernel
theorem dX9_image_109 : decode cX9_image 109 = .ok (.iload_n 1, 1) := by decide +kernel
theorem dX9_image_110 : decode cX9_image 110 = .ok (.iaload, 1) := by decide +kernel
theorem dX9_image_111 : decode cX9_image 111 = .ok (.iastore, 1) := by decide +kernel
theorem dX9_image_112 : decode cX9_image 112 = .ok (.iinc 1 1, 3) := by decide +kernel
theorem dX9_image_115 : decode cX9_image 115 = .ok (.goto (-32), 3) := by decide +kernel
theorem dX9_image_118 : decode cX9_image 118 = .ok (.iconst 0, 1) := by decide +kernel
theorem dX9_image_119 : decode cX9_image 119 = .ok (.istore_n 1, 1) := by decide +kernel
theorem dX9_image_120 : decode cX9_image 120 = .ok (.iload_n 1, 1) := by decide +kernel
theorem dX9_image_121 : decode cX9_image 121 = .ok (.bipush 6, 2) := by decide +kernel
theorem dX9_image_123 : decode cX9_image 123 = .ok (.if_icmp .ge 33, 3) := by decide +kernel
theorem dX9_image_126 : decode cX9_image 126 = .ok (.aload_n 0, 1) := by decide +kernel
theorem dX9_image_127 : decode cX9_image 127 = .ok (.getfield 65, 3) := by decide +kernel
theorem dX9_image_130 : decode cX9_image 130 = .ok (.iload_n 1, 1) := by decide +kernel
theorem dX9_image_131 : decode cX9_image 131 = .ok (.aload_n 0, 1) := by decide +kernel
theorem dX9_image_132 : decode cX9_image 132 = .ok (.getfield 28, 3) := by decide +kernel
theorem dX9_image_135 : decode cX9_image 135 = .ok (.iload_n 1, 1) := by decide +kernel
theorem dX9_image_136 : decode cX9_image 136 = .ok (.iaload, 1) := by decide +kernel
theorem dX9_image_137 : decode cX9_image 137 = .ok (.iastore, 1) := by decide +kernel
theorem dX9_image_138 : decode cX9_image 138 = .ok (.aload_n 0, 1) := by decide +kernel
theorem dX9_image_139 : decode cX9_image 139 = .ok (.getfield 68, 3) := by decide +kernel
theorem dX9_image_142 : decode cX9_image 142 = .ok (.iload_n 1, 1) := by decide +kernel
theorem dX9_image_143 : decode cX9_image 143 = .ok (.aload_n 0, 1) := by decide +kernel
theorem dX9_image_144 : decode cX9_image 144 = .ok (.getfield 31, 3) := by decide +kernel
theorem dX9_image_147 : decode cX9_image 147 = .ok (.iload_n 1, 1) := by decide +kernel
theorem dX9_image_148 : decode cX9_image 148 = .ok (.iaload, 1) := by decide +kernel
theorem dX9_image_149 : decode cX9_image 149 = .ok (.iastore, 1) := by decide +kernel
theorem dX9_image_150 : decode cX9_image 150 = .ok (.iinc 1 1, 3) := by decide +kernel
theorem dX9_image_153 : decode cX9_image 153 = .ok (.goto (-33), 3) := by decide +kernel
theorem dX9_image_156 : decode cX9_image 156 = .ok (.aload_n 0, 1) := by decide +kernel
theorem dX9_image_157 : decode cX9_image 157 = .ok (.getfield 112, 3) := by decide +kernel
theorem dX9_image_160 : decode cX9_image 160 = .ok (.ireturn, 1) := by decide +kernel
theorem dX9_restore_0 : decode cX9_restore 0 = .ok (.aload_n 0, 1) := by decide +kernel
theorem dX9_restore_1 : decode cX9_restore 1 = .ok (.getfield 221, 3) := by decide +kernel
theorem dX9_restore_4 : decode cX9_restore 4 = .ok (.ifCond .eq 14, 3) := by decide +kernel
theorem dX9_restore_7 : decode cX9_restore 7 = .ok (.aload_n 0, 1) := by decide +kernel
theorem dX9_restore_8 : decode cX9_restore 8 = .ok (.getfield 224, 3) := by decide +kernel
theorem dX9_restore_11 : decode cX9_restore 11 = .ok (.aload_n 0, 1) := by decide +kernel
theorem dX9_restore_12 : decode cX9_restore 12 = .ok (.getfield 106, 3) := by decide +kernel
theorem dX9_restore_15 : decode cX9_restore 15 = .ok (.if_icmp .eq 6, 3) := by decide +kernel
theorem dX9_restore_18 : decode cX9_restore 18 = .ok (.bipush (-103), 2) := by decide +kernel
theorem dX9_restore_20 : decode cX9_restore 20 = .ok (.ireturn, 1) := by decide +kernel
theorem dX9_restore_21 : decode cX9_restore 21 = .ok (.aload_n 0, 1) := by decide +kernel
theorem dX9_restore_22 : decode cX9_restore 22 = .ok (.aload_n 0, 1) := by decide +kernel
theorem dX9_restore_23 : decode cX9_restore 23 = .ok (.getfield 227, 3) := by decide +kernel
theorem dX9_restore_26 : decode cX9_restore 26 = .ok (.putfield 103, 3) := by decide +kernel
theorem dX9_restore_29 : decode cX9_restore 29 = .ok (.aload_n 0, 1) := by decide +kernel
theorem dX9_restore_30 : decode cX9_restore 30 = .ok (.aload_n 0, 1) := by decide +kernel
theorem dX9_restore_31 : decode cX9_restore 31 = .ok (.getfield 230, 3) := by decide +kernel
theorem dX9_restore_34 : decode cX9_restore 34 = .ok (.putfield 109, 3) := by decide +kernel
theorem dX9_restore_37 : decode cX9_restore 37 = .ok (.aload_n 0, 1) := by decide +kernel
theorem dX9_restore_38 : decode cX9_restore 38 = .ok (.aload_n 0, 1) := by decide +kernel
theorem dX9_restore_39 : decode cX9_restore 39 = .ok (.getfield 233, 3) := by decide +kernel
theorem dX9_restore_42 : decode cX9_restore 42 = .ok (.putfield 112, 3) := by decide +kernel
theorem dX9_restore_45 : decode cX9_restore 45 = .ok (.aload_n 0, 1) := by decide +kernel
theorem dX9_restore_46 : decode cX9_restore 46 = .ok (.aload_n 0, 1) := by decide +kernel
theorem dX9_restore_47 : decode cX9_restore 47 = .ok (.getfield 236, 3) := by decide +kernel
theorem dX9_restore_50 : decode cX9_restore 50 = .ok (.putfield 115, 3) := by decide +kernel
theorem dX9_restore_53 : decode cX9_restore 53 = .ok (.iconst 0, 1) := by decide +kernel
theorem dX9_restore_54 : decode cX9_restore 54 = .ok (.istore_n 1, 1) := by decide +kernel
theorem dX9_restore_55 : decode cX9_restore 55 = .ok (.iload_n 1, 1) := by decide +kernel
theorem dX9_restore_56 : decode cX9_restore 56 = .ok (.bipush 8, 2) := by decide +kernel
theorem dX9_restore_58 : decode cX9_restore 58 = .ok (.if_icmp .ge 21, 3) := by decide +kernel
theorem dX9_restore_61 : decode cX9_restore 61 = .ok (.aload_n 0, 1) := by decide +kernel
theorem dX9_restore_62 : decode cX9_restore 62 = .ok (.getfield 25, 3) := by decide +kernel
theorem dX9_restore_65 : decode cX9_restore 65 = .ok (.iload_n 1, 1) := by decide +kernel
theorem dX9_restore_66 : decode cX9_restore 66 = .ok (.aload_n 0, 1) := by decide +kernel
theorem dX9_restore_67 : decode cX9_restore 67 = .ok (.getfield 56, 3) := by decide +kernel
theorem dX9_restore_70 : decode cX9_restore 70 = .ok (.iload_n 1, 1) := by decide +kernel
theorem dX9_restore_71 : decode cX9_restore 71 = .ok (.iaload, 1) := by decide +kernel
theorem dX9_restore_72 : decode cX9_restore 72 = .ok (.iastore, 1) := by decide +kernel
theorem dX9_restore_73 : decode cX9_restore 73 = .ok (.iinc 1 1, 3) := by decide +kernel
theorem dX9_restore_76 : decode cX9_restore 76 = .ok (.goto (-21), 3) := by decide +kernel
theorem dX9_restore_79 : decode cX9_restore 79 = .ok (.iconst 0, 1) := by decide +kernel
theorem dX9_restore_80 : decode cX9_restore 80 = .ok (.istore_n 1, 1) := by decide +kernel
theorem dX9_restore_81 : decode cX9_restore 81 = .ok (.iload_n 1, 1) := by decide +kernel
theorem dX9_restore_82 : decode cX9_restore 82 = .ok (.iconst 4, 1) := by decide +kernel
theorem dX9_restore_83 : decode cX9_restore 83 = .ok (.if_icmp .ge 33, 3) := by decide +kernel
theorem dX9_restore_86 : decode cX9_restore 86 = .ok (.aload_n 0, 1) := by decide +kernel
theorem dX9_restore_87 : decode cX9_restore 87 = .ok (.getfield 19, 3) := by decide +kernel
theorem dX9_restore_90 : decode cX9_restore 90 = .ok (.iload_n 1, 1) := by decide +kernel
theorem dX9_restore_91 : decode cX9_restore 91 = .ok (.aload_n 0, 1) := by decide +kernel
theorem dX9_restore_92 : decode cX9_restore 92 = .ok (.getfield 59, 3) := by decide +kernel
theorem dX9_restore_95 : decode cX9_restore 95 = .ok (.iload_n 1, 1) := by decide +kernel
theorem dX9_restore_96 : decode cX9_restore 96 = .ok (.iaload, 1) := by decide +kernel
theorem dX9_restore_97 : decode cX9_restore 97 = .ok (.iastore, 1) := by decide +kernel
theorem dX9_restore_98 : decode cX9_restore 98 = .ok (.aload_n 0, 1) := by decide +kernel
theorem dX9_restore_99 : decode cX9_restore 99 = .ok (.getfield 22, 3) := by decide +kernel
theorem dX9_restore_102 : decode cX9_restore 102 = .ok (.iload_n 1, 1) := by decide +kernel
theorem dX9_restore_103 : decode cX9_restore 103 = .ok (.aload_n 0, 1) := by decide +kernel
theorem dX9_restore_104 : decode cX9_restore 104 = .ok (.getfield 62, 3) := by decide +kernel
theorem dX9_restore_107 : decode cX9_restore 107 = .ok (.iload_n 1, 1) := by decide +kernel
theorem dX9_restore_108 : decode cX9_restore 108 = .ok (.iaload, 1) := by decide +kernel
theorem dX9_restore_109 : decode cX9_restore 109 = .ok (.iastore, 1) := by decide +kernel
theorem dX9_restore_110 : decode cX9_restore 110 = .ok (.iinc 1 1, 3) := by decide +kernel
theorem dX9_restore_113 : decode cX9_restore 113 = .ok (.goto (-32), 3) := by decide +kernel
theorem dX9_restore_116 : decode cX9_restore 116 = .ok (.iconst 0, 1) := by decide +kernel
theorem dX9_restore_117 : decode cX9_restore 117 = .ok (.istore_n 1, 1) := by decide +kernel
theorem dX9_restore_118 : decode cX9_restore 118 = .ok (.iload_n 1, 1) := by decide +kernel
theorem dX9_restore_119 : decode cX9_restore 119 = .ok (.bipush 6, 2) := by decide +kernel
theorem dX9_restore_121 : decode cX9_restore 121 = .ok (.if_icmp .ge 33, 3) := by decide +kernel
theorem dX9_restore_124 : decode cX9_restore 124 = .ok (.aload_n 0, 1) := by decide +kernel
theorem dX9_restore_125 : decode cX9_restore 125 = .ok (.getfield 28, 3) := by decide +kernel
theorem dX9_restore_128 : decode cX9_restore 128 = .ok (.iload_n 1, 1) := by decide +kernel
theorem dX9_restore_129 : decode cX9_restore 129 = .ok (.aload_n 0, 1) := by decide +kernel
theorem dX9_restore_130 : decode cX9_restore 130 = .ok (.getfield 65, 3) := by decide +kernel
theorem dX9_restore_133 : decode cX9_restore 133 = .ok (.iload_n 1, 1) := by decide +kernel
theorem dX9_restore_134 : decode cX9_restore 134 = .ok (.iaload, 1) := by decide +kernel
theorem dX9_restore_135 : decode cX9_restore 135 = .ok (.iastore, 1) := by decide +kernel
theorem dX9_restore_136 : decode cX9_restore 136 = .ok (.aload_n 0, 1) := by decide +kernel
theorem dX9_restore_137 : decode cX9_restore 137 = .ok (.getfield 31, 3) := by decide +kernel
theorem dX9_restore_140 : decode cX9_restore 140 = .ok (.iload_n 1, 1) := by decide +kernel
theorem dX9_restore_141 : decode cX9_restore 141 = .ok (.aload_n 0, 1) := by decide +kernel
theorem dX9_restore_142 : decode cX9_restore 142 = .ok (.getfield 68, 3) := by decide +kernel
theorem dX9_restore_145 : decode cX9_restore 145 = .ok (.iload_n 1, 1) := by decide +kernel
theorem dX9_restore_146 : decode cX9_restore 146 = .ok (.iaload, 1) := by decide +kernel
theorem dX9_restore_147 : decode cX9_restore 147 = .ok (.iastore, 1) := by decide +kernel
theorem dX9_restore_148 : decode cX9_restore 148 = .ok (.iinc 1 1, 3) := by decide +kernel
theorem dX9_restore_151 : decode cX9_restore 151 = .ok (.goto (-33), 3) := by decide +kernel
theorem dX9_restore_154 : decode cX9_restore 154 = .ok (.aload_n 0, 1) := by decide +kernel
theorem dX9_restore_155 : decode cX9_restore 155 = .ok (.getfield 112, 3) := by decide +kernel
theorem dX9_restore_158 : decode cX9_restore 158 = .ok (.ireturn, 1) := by decide +kernel
theorem dX9_sum_0 : decode cX9_sum 0 = .ok (.iconst 0, 1) := by decide +kernel
theorem dX9_sum_1 : decode cX9_sum 1 = .ok (.istore_n 2, 1) := by decide +kernel
theorem dX9_sum_2 : decode cX9_sum 2 = .ok (.iconst 0, 1) := by decide +kernel
theorem dX9_sum_3 : decode cX9_sum 3 = .ok (.istore_n 3, 1) := by decide +kernel
theorem dX9_sum_4 : decode cX9_sum 4 = .ok (.iload_n 3, 1) := by decide +kernel
theorem dX9_sum_5 : decode cX9_sum 5 = .ok (.aload_n 0, 1) := by decide +kernel
theorem dX9_sum_6 : decode cX9_sum 6 = .ok (.getfield 100, 3) := by decide +kernel
theorem dX9_sum_9 : decode cX9_sum 9 = .ok (.if_icmp .ge 32, 3) := by decide +kernel
theorem dX9_sum_12 : decode cX9_sum 12 = .ok (.iload_n 2, 1) := by decide +kernel
theorem dX9_sum_13 : decode cX9_sum 13 = .ok (.iload_n 1, 1) := by decide +kernel
theorem dX9_sum_14 : decode cX9_sum 14 = .ok (.iconst 3, 1) := by decide +kernel
theorem dX9_sum_15 : decode cX9_sum 15 = .ok (.if_icmp .ne 12, 3) := by decide +kernel
theorem dX9_sum_18 : decode cX9_sum 18 = .ok (.aload_n 0, 1) := by decide +kernel
theorem dX9_sum_19 : decode cX9_sum 19 = .ok (.getfield 19, 3) := by decide +kernel
theorem dX9_sum_22 : decode cX9_sum 22 = .ok (.iload_n 3, 1) := by decide +kernel
theorem dX9_sum_23 : decode cX9_sum 23 = .ok (.iaload, 1) := by decide +kernel
theorem dX9_sum_24 : decode cX9_sum 24 = .ok (.goto 9, 3) := by decide +kernel
theorem dX9_sum_27 : decode cX9_sum 27 = .ok (.aload_n 0, 1) := by decide +kernel
theorem dX9_sum_28 : decode cX9_sum 28 = .ok (.getfield 22, 3) := by decide +kernel
theorem dX9_sum_31 : decode cX9_sum 31 = .ok (.iload_n 3, 1) := by decide +kernel
theorem dX9_sum_32 : decode cX9_sum 32 = .ok (.iaload, 1) := by decide +kernel
theorem dX9_sum_33 : decode cX9_sum 33 = .ok (.iadd, 1) := by decide +kernel
theorem dX9_sum_34 : decode cX9_sum 34 = .ok (.istore_n 2, 1) := by decide +kernel
theorem dX9_sum_35 : decode cX9_sum 35 = .ok (.iinc 3 1, 3) := by decide +kernel
theorem dX9_sum_38 : decode cX9_sum 38 = .ok (.goto (-34), 3) := by decide +kernel
theorem dX9_sum_41 : decode cX9_sum 41 = .ok (.iload_n 2, 1) := by decide +kernel
theorem dX9_sum_42 : decode cX9_sum 42 = .ok (.ireturn, 1) := by decide +kernel
set_option maxRecDepth 20000 in
theorem ggX9_fitInTheEnd_X9_thinkDay : GoodIn wsX9_fitInTheEnd wsX9_thinkDay := goodIn_r _ [7, 8, 9, 10, 11, 12, 6, 13, 2, 14, 15, 16, 17, 18, 19, 20, 21, 22, 23, 24, 25, 26, 27, 28, 29, 30, 31, 32, 33, 34, 35, 36, 37, 38, 39, 40, 41, 42, 43, 44, 45, 46, 47, 48, 49, 50, 51, 52, 53, 54, 55, 56, 57, 58, 59, 60, 61, 62, 63, 64, 65, 66, 67, 68, 69, 70, 71, 72, 73, 74, 75, 76, 77, 78] (by decide +kernel) (by decide +kernel)
set_option maxRecDepth 20000 in
theorem gX9_fitInTheEnd_X9_thinkDay : GoodIn wsX9_fitInTheEnd (wsV RX9 145 RX9 yX9_thinkDay wsX9_thinkDay) := goodIn_app (goodIn_of _ (by decide +kernel)) ggX9_fitInTheEnd_X9_thinkDay
theorem dX9_fitInTheEnd_0 : decode cX9_fitInTheEnd 0 = .ok (.aload_n 0, 1) := by decide +kernel
theorem dX9_fitInTheEnd_1 : decode cX9_fitInTheEnd 1 = .ok (.getfield 100, 3) := by decide +kernel
theorem dX9_fitInTheEnd_4 : decode cX9_fitInTheEnd 4 = .ok (.ifCond .ne 5, 3) := by decide +kernel
theorem dX9_fitInTheEnd_7 : decode cX9_fitInTheEnd 7 = .ok (.iconst 0, 1) := by decide +kernel
theorem dX9_fitInTheEnd_8 : decode cX9_fitInTheEnd 8 = .ok (.ireturn, 1) := by decide +kernel
theorem dX9_fitInTheEnd_9 : decode cX9_fitInTheEnd 9 = .ok (.aload_n 0, 1) := by decide +kernel
theorem dX9_fitInTheEnd_10 : decode cX9_fitInTheEnd 10 = .ok (.invokevirtual 145, 3) := by decide +kernel
theorem dX9_fitInTheEnd_13 : decode cX9_fitInTheEnd 13 = .ok (.aload_n 0, 1) := by decide +kernel
theorem dX9_fitInTheEnd_14 : decode cX9_fitInTheEnd 14 = .ok (.getfield 118, 3) := by decide +kernel
theorem dX9_fitInTheEnd_17 : decode cX9_fitInTheEnd 17 = .ok (.ireturn, 1) := by decide +kernel
set_option maxRecDepth 20000 in
theorem ggX9_howMany_X9_size : GoodIn wsX9_howMany wsX9_size := goodIn_r _ [12] (by decide +kernel) (by decide +kernel)
set_option maxRecDepth 20000 in
theorem gX9_howMany_X9_size : GoodIn wsX9_howMany (va_wsS RX9 239 yX9_size wsX9_size) := goodIn_app (goodIn_of _ (by decide +kernel)) ggX9_howMany_X9_size
set_option maxRecDepth 20000 in
theorem ggX9_howMany_X9_sum : GoodIn wsX9_howMany wsX9_sum := goodIn_r _ [16, 1, 17, 18, 56, 57, 58, 59, 60, 61, 62, 63, 64, 65, 66, 67, 68, 69, 70, 71, 72, 73, 74, 75, 76, 77, 78, 79, 80, 81, 82, 83, 84, 85, 86, 87, 88, 89, 90, 91, 92, 93, 94, 95, 96] (by decide +kernel) (by decide +kernel)
set_option maxRecDepth 20000 in
theorem gX9_howMany_X9_sum : GoodIn wsX9_howMany (wsV RX9 242 RX9 yX9_sum wsX9_sum) := goodIn_app (goodIn_of _ (by decide +kernel)) ggX9_howMany_X9_sum
set_option maxRecDepth 20000 in
theorem ggX9_howMany_X9_fitInTheEnd : GoodIn wsX9_howMany wsX9_fitInTheEnd := goodIn_r _ [22, 1, 23, 24, 25, 26, 11, 27, 2, 3, 28, 29, 30, 31, 32, 33, 34, 35, 36, 37, 38, 39, 40, 41, 42, 43, 44, 45, 46, 47, 48, 49, 50, 51, 52, 53, 54, 55, 56, 57, 58, 59, 60, 61, 62, 63, 64, 65, 66, 67, 68, 69, 70, 71, 72, 73, 74, 75, 76, 77, 78, 79, 80, 81, 82, 83, 84, 85, 86, 87, 88, 89, 90, 91, 92, 93, 94, 95, 96] (by decide +kernel) (by decide +kernel)
set_option maxRecDepth 20000 in
theorem gX9_howMany_X9_fitInTheEnd : GoodIn wsX9_howMany (wsV RX9 245 RX9 yX9_fitInTheEnd wsX9_fitInTheEnd) := goodIn_app (goodIn_of _ (by decide +kernel)) ggX9_howMany_X9_fitInTheEnd
theorem dX9_howMany_0 : decode cX9_howMany 0 = .ok (.iload_n 1, 1) := by decide +kernel
theorem dX9_howMany_1 : decode cX9_howMany 1 = .ok (.tableswitch 119 0 10 #[59, 64, 69, 77, 83, 89, 94, 99, 104, 109, 114], 59) := by decide +kernel
theorem dX9_howMany_60 : decode cX9_howMany 60 = .ok (.aload_n 0, 1) := by decide +kernel
theorem dX9_howMany_61 : decode cX9_howMany 61 = .ok (.getfield 100, 3) := by decide +kernel
theorem dX9_howMany_64 : decode cX9_howMany 64 = .ok (.ireturn, 1) := by decide +kernel
theorem dX9_howMany_65 : decode cX9_howMany 65 = .ok (.aload_n 0, 1) := by decide +kernel
theorem dX9_howMany_66 : decode cX9_howMany 66 = .ok (.getfield 103, 3) := by decide +kernel
theorem dX9_howMany_69 : decode cX9_howMany 69 = .ok (.ireturn, 1) := by decide +kernel
theorem dX9_howMany_70 : decode cX9_howMany 70 = .ok (.aload_n 0, 1) := by decide +kernel
theorem dX9_howMany_71 : decode cX9_howMany 71 = .ok (.getfield 109, 3) := by decide +kernel
theorem dX9_howMany_74 : decode cX9_howMany 74 = .ok (.invokestatic 239, 3) := by decide +kernel
theorem dX9_howMany_77 : decode cX9_howMany 77 = .ok (.ireturn, 1) := by decide +kernel
theorem dX9_howMany_78 : decode cX9_howMany 78 = .ok (.aload_n 0, 1) := by decide +kernel
theorem dX9_howMany_79 : decode cX9_howMany 79 = .ok (.iconst 3, 1) := by decide +kernel
theorem dX9_howMany_80 : decode cX9_howMany 80 = .ok (.invokevirtual 242, 3) := by decide +kernel
theorem dX9_howMany_83 : decode cX9_howMany 83 = .ok (.ireturn, 1) := by decide +kernel
theorem dX9_howMany_84 : decode cX9_howMany 84 = .ok (.aload_n 0, 1) := by decide +kernel
theorem dX9_howMany_85 : decode cX9_howMany 85 = .ok (.iconst 4, 1) := by decide +kernel
theorem dX9_howMany_86 : decode cX9_howMany 86 = .ok (.invokevirtual 242, 3) := by decide +kernel
theorem dX9_howMany_89 : decode cX9_howMany 89 = .ok (.ireturn, 1) := by decide +kernel
theorem dX9_howMany_90 : decode cX9_howMany 90 = .ok (.aload_n 0, 1) := by decide +kernel
theorem dX9_howMany_91 : decode cX9_howMany 91 = .ok (.getfield 112, 3) := by decide +kernel
theorem dX9_howMany_94 : decode cX9_howMany 94 = .ok (.ireturn, 1) := by decide +kernel
theorem dX9_howMany_95 : decode cX9_howMany 95 = .ok (.aload_n 0, 1) := by decide +kernel
theorem dX9_howMany_96 : decode cX9_howMany 96 = .ok (.getfield 115, 3) := by decide +kernel
theorem dX9_howMany_99 : decode cX9_howMany 99 = .ok (.ireturn, 1) := by decide +kernel
theorem dX9_howMany_100 : decode cX9_howMany 100 = .ok (.aload_n 0, 1) := by decide +kernel
theorem dX9_howMany_101 : decode cX9_howMany 101 = .ok (.getfield 75, 3) := by decide +kernel
theorem dX9_howMany_104 : decode cX9_howMany 104 = .ok (.ireturn, 1) := by decide +kernel
theorem dX9_howMany_105 : decode cX9_howMany 105 = .ok (.aload_n 0, 1) := by decide +kernel
theorem dX9_howMany_106 : decode cX9_howMany 106 = .ok (.getfield 106, 3) := by decide +kernel
theorem dX9_howMany_109 : decode cX9_howMany 109 = .ok (.ireturn, 1) := by decide +kernel
theorem dX9_howMany_110 : decode cX9_howMany 110 = .ok (.aload_n 0, 1) := by decide +kernel
theorem dX9_howMany_111 : decode cX9_howMany 111 = .ok (.getfield 183, 3) := by decide +kernel
theorem dX9_howMany_114 : decode cX9_howMany 114 = .ok (.ireturn, 1) := by decide +kernel
theorem dX9_howMany_115 : decode cX9_howMany 115 = .ok (.aload_n 0, 1) := by decide +kernel
theorem dX9_howMany_116 : decode cX9_howMany 116 = .ok (.invokevirtual 245, 3) := by decide +kernel
theorem dX9_howMany_119 : decode cX9_howMany 119 = .ok (.ireturn, 1) := by decide +kernel
theorem dX9_howMany_120 : decode cX9_howMany 120 = .ok (.bipush (-102), 2) := by decide +kernel
theorem dX9_howMany_122 : decode cX9_howMany 122 = .ok (.ireturn, 1) := by decide +kernel
set_option maxRecDepth 20000 in
theorem ggX9_count_X9_howMany : GoodIn wsX9_count wsX9_howMany := goodIn_r _ [5, 6, 7, 8, 9, 10, 11, 12, 13, 14, 15, 4, 16, 17, 18, 19, 20, 21, 22, 23, 24, 25, 26, 27, 28, 29, 30, 31, 32, 33, 34, 35, 36, 37, 38, 39, 40, 41, 42, 43, 44, 45, 46, 47, 48, 49, 50, 51, 52, 53, 54, 55, 56, 57, 58, 59, 60, 61, 62, 63, 64, 65, 66, 67, 68, 69, 70, 71, 72, 73, 74, 75, 76, 77, 78, 79, 80, 81, 82, 83, 84, 85, 86, 87, 88, 89, 90, 91, 92, 93, 94, 95, 96, 97, 98, 99, 100] (by decide +kernel) (by decide +kernel)
