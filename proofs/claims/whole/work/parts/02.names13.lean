theorem dX9_day_77 : decode cX9_day 77 = .ok (.dup, 1) := by decide +kernel
theorem dX9_day_78 : decode cX9_day 78 = .ok (.getfield 112, 3) := by decide +kernel
theorem dX9_day_81 : decode cX9_day 81 = .ok (.iconst 1, 1) := by decide +kernel
theorem dX9_day_82 : decode cX9_day 82 = .ok (.iadd, 1) := by decide +kernel
theorem dX9_day_83 : decode cX9_day 83 = .ok (.putfield 112, 3) := by decide +kernel
theorem dX9_day_86 : decode cX9_day 86 = .ok (.aload_n 0, 1) := by decide +kernel
theorem dX9_day_87 : decode cX9_day 87 = .ok (.invokevirtual 174, 3) := by decide +kernel
theorem dX9_day_90 : decode cX9_day 90 = .ok (.ireturn, 1) := by decide +kernel
theorem dX9_save_0 : decode cX9_save 0 = .ok (.iconst 0, 1) := by decide +kernel
theorem dX9_save_1 : decode cX9_save 1 = .ok (.istore_n 1, 1) := by decide +kernel
theorem dX9_save_2 : decode cX9_save 2 = .ok (.iload_n 1, 1) := by decide +kernel
theorem dX9_save_3 : decode cX9_save 3 = .ok (.bipush 8, 2) := by decide +kernel
theorem dX9_save_5 : decode cX9_save 5 = .ok (.if_icmp .ge 21, 3) := by decide +kernel
theorem dX9_save_8 : decode cX9_save 8 = .ok (.aload_n 0, 1) := by decide +kernel
theorem dX9_save_9 : decode cX9_save 9 = .ok (.getfield 50, 3) := by decide +kernel
theorem dX9_save_12 : decode cX9_save 12 = .ok (.iload_n 1, 1) := by decide +kernel
theorem dX9_save_13 : decode cX9_save 13 = .ok (.aload_n 0, 1) := by decide +kernel
theorem dX9_save_14 : decode cX9_save 14 = .ok (.getfield 25, 3) := by decide +kernel
theorem dX9_save_17 : decode cX9_save 17 = .ok (.iload_n 1, 1) := by decide +kernel
theorem dX9_save_18 : decode cX9_save 18 = .ok (.iaload, 1) := by decide +kernel
theorem dX9_save_19 : decode cX9_save 19 = .ok (.iastore, 1) := by decide +kernel
theorem dX9_save_20 : decode cX9_save 20 = .ok (.iinc 1 1, 3) := by decide +kernel
theorem dX9_save_23 : decode cX9_save 23 = .ok (.goto (-21), 3) := by decide +kernel
theorem dX9_save_26 : decode cX9_save 26 = .ok (.return_, 1) := by decide +kernel
theorem dX9_load_0 : decode cX9_load 0 = .ok (.iconst 0, 1) := by decide +kernel
theorem dX9_load_1 : decode cX9_load 1 = .ok (.istore_n 1, 1) := by decide +kernel
theorem dX9_load_2 : decode cX9_load 2 = .ok (.iload_n 1, 1) := by decide +kernel
theorem dX9_load_3 : decode cX9_load 3 = .ok (.bipush 8, 2) := by decide +kernel
theorem dX9_load_5 : decode cX9_load 5 = .ok (.if_icmp .ge 21, 3) := by decide +kernel
theorem dX9_load_8 : decode cX9_load 8 = .ok (.aload_n 0, 1) := by decide +kernel
theorem dX9_load_9 : decode cX9_load 9 = .ok (.getfield 25, 3) := by decide +kernel
theorem dX9_load_12 : decode cX9_load 12 = .ok (.iload_n 1, 1) := by decide +kernel
theorem dX9_load_13 : decode cX9_load 13 = .ok (.aload_n 0, 1) := by decide +kernel
theorem dX9_load_14 : decode cX9_load 14 = .ok (.getfield 50, 3) := by decide +kernel
theorem dX9_load_17 : decode cX9_load 17 = .ok (.iload_n 1, 1) := by decide +kernel
theorem dX9_load_18 : decode cX9_load 18 = .ok (.iaload, 1) := by decide +kernel
theorem dX9_load_19 : decode cX9_load 19 = .ok (.iastore, 1) := by decide +kernel
theorem dX9_load_20 : decode cX9_load 20 = .ok (.iinc 1 1, 3) := by decide +kernel
theorem dX9_load_23 : decode cX9_load 23 = .ok (.goto (-21), 3) := by decide +kernel
theorem dX9_load_26 : decode cX9_load 26 = .ok (.return_, 1) := by decide +kernel
set_option maxRecDepth 20000 in
theorem ggX9_bestNow_X9_save : GoodIn wsX9_bestNow wsX9_save := goodIn_r _ [8, 9, 2, 51, 52, 53, 54, 55, 56, 57, 58, 59, 60, 61, 62, 63, 64, 65, 66, 67, 68, 69, 70, 71, 72, 73, 74, 75, 76, 77, 78, 79, 80, 81, 82, 83, 84, 85, 86, 87, 88, 89, 90, 91] (by decide +kernel) (by decide +kernel)
set_option maxRecDepth 20000 in
theorem gX9_bestNow_X9_save : GoodIn wsX9_bestNow (wsV RX9 177 RX9 yX9_save wsX9_save) := goodIn_app (goodIn_of _ (by decide +kernel)) ggX9_bestNow_X9_save
set_option maxRecDepth 20000 in
theorem ggX9_bestNow_X9_thinkDay : GoodIn wsX9_bestNow wsX9_thinkDay := goodIn_r _ [13, 14, 15, 16, 17, 18, 7, 19, 3, 20, 21, 22, 23, 24, 25, 26, 27, 28, 2, 29, 30, 31, 32, 33, 34, 35, 36, 37, 38, 39, 40, 41, 42, 51, 52, 53, 54, 55, 56, 57, 58, 59, 60, 61, 62, 63, 64, 65, 66, 67, 68, 69, 70, 71, 72, 73, 74, 75, 76, 77, 78, 79, 80, 81, 82, 83, 84, 85, 86, 87, 88, 89, 90, 91] (by decide +kernel) (by decide +kernel)
set_option maxRecDepth 20000 in
theorem gX9_bestNow_X9_thinkDay : GoodIn wsX9_bestNow (wsV RX9 145 RX9 yX9_thinkDay wsX9_thinkDay) := goodIn_app (goodIn_of _ (by decide +kernel)) ggX9_bestNow_X9_thinkDay
set_option maxRecDepth 20000 in
theorem ggX9_bestNow_X9_gainAll : GoodIn wsX9_bestNow wsX9_gainAll := goodIn_r _ [46, 1, 22, 51, 52, 53, 54, 55, 56, 57, 58, 59, 60, 61, 62, 63, 64, 65, 66, 67, 68, 69, 70, 71, 72, 73, 74, 75, 76, 77, 78, 79, 80, 81, 82, 83, 84, 85, 86, 87, 88, 89, 90, 91] (by decide +kernel) (by decide +kernel)
set_option maxRecDepth 20000 in
theorem gX9_bestNow_X9_gainAll : GoodIn wsX9_bestNow (wsV RX9 174 RX9 yX9_gainAll wsX9_gainAll) := goodIn_app (goodIn_of _ (by decide +kernel)) ggX9_bestNow_X9_gainAll
set_option maxRecDepth 20000 in
theorem ggX9_bestNow_X9_load : GoodIn wsX9_bestNow wsX9_load := goodIn_r _ [50, 2, 9, 51, 52, 53, 54, 55, 56, 57, 58, 59, 60, 61, 62, 63, 64, 65, 66, 67, 68, 69, 70, 71, 72, 73, 74, 75, 76, 77, 78, 79, 80, 81, 82, 83, 84, 85, 86, 87, 88, 89, 90, 91] (by decide +kernel) (by decide +kernel)
set_option maxRecDepth 20000 in
theorem gX9_bestNow_X9_load : GoodIn wsX9_bestNow (wsV RX9 180 RX9 yX9_load wsX9_load) := goodIn_app (goodIn_of _ (by decide +kernel)) ggX9_bestNow_X9_load
theorem dX9_bestNow_0 : decode cX9_bestNow 0 = .ok (.aload_n 0, 1) := by decide +kernel
theorem dX9_bestNow_1 : decode cX9_bestNow 1 = .ok (.invokevirtual 177, 3) := by decide +kernel
theorem dX9_bestNow_4 : decode cX9_bestNow 4 = .ok (.aload_n 0, 1) := by decide +kernel
theorem dX9_bestNow_5 : decode cX9_bestNow 5 = .ok (.getfield 100, 3) := by decide +kernel
theorem dX9_bestNow_8 : decode cX9_bestNow 8 = .ok (.iconst 1, 1) := by decide +kernel
theorem dX9_bestNow_9 : decode cX9_bestNow 9 = .ok (.iadd, 1) := by decide +kernel
theorem dX9_bestNow_10 : decode cX9_bestNow 10 = .ok (.istore 4, 2) := by decide +kernel
theorem dX9_bestNow_12 : decode cX9_bestNow 12 = .ok (.iconst (-1), 1) := by decide +kernel
theorem dX9_bestNow_13 : decode cX9_bestNow 13 = .ok (.istore 5, 2) := by decide +kernel
theorem dX9_bestNow_15 : decode cX9_bestNow 15 = .ok (.iconst (-1), 1) := by decide +kernel
theorem dX9_bestNow_16 : decode cX9_bestNow 16 = .ok (.istore 6, 2) := by decide +kernel
theorem dX9_bestNow_18 : decode cX9_bestNow 18 = .ok (.iconst 0, 1) := by decide +kernel
theorem dX9_bestNow_19 : decode cX9_bestNow 19 = .ok (.istore 7, 2) := by decide +kernel
theorem dX9_bestNow_21 : decode cX9_bestNow 21 = .ok (.iload 7, 2) := by decide +kernel
theorem dX9_bestNow_23 : decode cX9_bestNow 23 = .ok (.iload 4, 2) := by decide +kernel
theorem dX9_bestNow_25 : decode cX9_bestNow 25 = .ok (.iload 4, 2) := by decide +kernel
theorem dX9_bestNow_27 : decode cX9_bestNow 27 = .ok (.imul, 1) := by decide +kernel
theorem dX9_bestNow_28 : decode cX9_bestNow 28 = .ok (.iload 4, 2) := by decide +kernel
theorem dX9_bestNow_30 : decode cX9_bestNow 30 = .ok (.imul, 1) := by decide +kernel
theorem dX9_bestNow_31 : decode cX9_bestNow 31 = .ok (.if_icmp .ge 116, 3) := by decide +kernel
theorem dX9_bestNow_34 : decode cX9_bestNow 34 = .ok (.aload_n 0, 1) := by decide +kernel
theorem dX9_bestNow_35 : decode cX9_bestNow 35 = .ok (.getfield 25, 3) := by decide +kernel
theorem dX9_bestNow_38 : decode cX9_bestNow 38 = .ok (.iload_n 1, 1) := by decide +kernel
theorem dX9_bestNow_39 : decode cX9_bestNow 39 = .ok (.iload 7, 2) := by decide +kernel
theorem dX9_bestNow_41 : decode cX9_bestNow 41 = .ok (.iload 4, 2) := by decide +kernel
theorem dX9_bestNow_43 : decode cX9_bestNow 43 = .ok (.iload 4, 2) := by decide +kernel
theorem dX9_bestNow_45 : decode cX9_bestNow 45 = .ok (.imul, 1) := by decide +kernel
theorem dX9_bestNow_46 : decode cX9_bestNow 46 = .ok (.idiv, 1) := by decide +kernel
theorem dX9_bestNow_47 : decode cX9_bestNow 47 = .ok (.iconst 1, 1) := by decide +kernel
theorem dX9_bestNow_48 : decode cX9_bestNow 48 = .ok (.isub, 1) := by decide +kernel
theorem dX9_bestNow_49 : decode cX9_bestNow 49 = .ok (.iastore, 1) := by decide +kernel
theorem dX9_bestNow_50 : decode cX9_bestNow 50 = .ok (.aload_n 0, 1) := by decide +kernel
theorem dX9_bestNow_51 : decode cX9_bestNow 51 = .ok (.getfield 25, 3) := by decide +kernel
theorem dX9_bestNow_54 : decode cX9_bestNow 54 = .ok (.iload_n 1, 1) := by decide +kernel
theorem dX9_bestNow_55 : decode cX9_bestNow 55 = .ok (.iconst 1, 1) := by decide +kernel
theorem dX9_bestNow_56 : decode cX9_bestNow 56 = .ok (.iadd, 1) := by decide +kernel
theorem dX9_bestNow_57 : decode cX9_bestNow 57 = .ok (.iload 7, 2) := by decide +kernel
theorem dX9_bestNow_59 : decode cX9_bestNow 59 = .ok (.iload 4, 2) := by decide +kernel
theorem dX9_bestNow_61 : decode cX9_bestNow 61 = .ok (.idiv, 1) := by decide +kernel
theorem dX9_bestNow_62 : decode cX9_bestNow 62 = .ok (.iload 4, 2) := by decide +kernel
theorem dX9_bestNow_64 : decode cX9_bestNow 64 = .ok (.irem, 1) := by decide +kernel
theorem dX9_bestNow_65 : decode cX9_bestNow 65 = .ok (.iconst 1, 1) := by decide +kernel
theorem dX9_bestNow_66 : decode cX9_bestNow 66 = .ok (.isub, 1) := by decide +kernel
theorem dX9_bestNow_67 : decode cX9_bestNow 67 = .ok (.iastore, 1) := by decide +kernel
theorem dX9_bestNow_68 : decode cX9_bestNow 68 = .ok (.aload_n 0, 1) := by decide +kernel
theorem dX9_bestNow_69 : decode cX9_bestNow 69 = .ok (.getfield 25, 3) := by decide +kernel
theorem dX9_bestNow_72 : decode cX9_bestNow 72 = .ok (.iload_n 1, 1) := by decide +kernel
theorem dX9_bestNow_73 : decode cX9_bestNow 73 = .ok (.iconst 2, 1) := by decide +kernel
theorem dX9_bestNow_74 : decode cX9_bestNow 74 = .ok (.iadd, 1) := by decide +kernel
theorem dX9_bestNow_75 : decode cX9_bestNow 75 = .ok (.iload 7, 2) := by decide +kernel
theorem dX9_bestNow_77 : decode cX9_bestNow 77 = .ok (.iload 4, 2) := by decide +kernel
theorem dX9_bestNow_79 : decode cX9_bestNow 79 = .ok (.irem, 1) := by decide +kernel
theorem dX9_bestNow_80 : decode cX9_bestNow 80 = .ok (.iconst 1, 1) := by decide +kernel
theorem dX9_bestNow_81 : decode cX9_bestNow 81 = .ok (.isub, 1) := by decide +kernel
theorem dX9_bestNow_82 : decode cX9_bestNow 82 = .ok (.iastore, 1) := by decide +kernel
theorem dX9_bestNow_83 : decode cX9_bestNow 83 = .ok (.aload_n 0, 1) := by decide +kernel
theorem dX9_bestNow_84 : decode cX9_bestNow 84 = .ok (.invokevirtual 145, 3) := by decide +kernel
theorem dX9_bestNow_87 : decode cX9_bestNow 87 = .ok (.aload_n 0, 1) := by decide +kernel
theorem dX9_bestNow_88 : decode cX9_bestNow 88 = .ok (.getfield 118, 3) := by decide +kernel
theorem dX9_bestNow_91 : decode cX9_bestNow 91 = .ok (.iload_n 2, 1) := by decide +kernel
theorem dX9_bestNow_92 : decode cX9_bestNow 92 = .ok (.if_icmp .lt 16, 3) := by decide +kernel
theorem dX9_bestNow_95 : decode cX9_bestNow 95 = .ok (.aload_n 0, 1) := by decide +kernel
theorem dX9_bestNow_96 : decode cX9_bestNow 96 = .ok (.invokevirtual 174, 3) := by decide +kernel
theorem dX9_bestNow_99 : decode cX9_bestNow 99 = .ok (.iload 6, 2) := by decide +kernel
theorem dX9_bestNow_101 : decode cX9_bestNow 101 = .ok (.if_icmp .le 7, 3) := by decide +kernel
theorem dX9_bestNow_104 : decode cX9_bestNow 104 = .ok (.iconst 1, 1) := by decide +kernel
theorem dX9_bestNow_105 : decode cX9_bestNow 105 = .ok (.goto 4, 3) := by decide +kernel
theorem dX9_bestNow_108 : decode cX9_bestNow 108 = .ok (.iconst 0, 1) := by decide +kernel
theorem dX9_bestNow_109 : decode cX9_bestNow 109 = .ok (.istore 8, 2) := by decide +kernel
theorem dX9_bestNow_111 : decode cX9_bestNow 111 = .ok (.iload 8, 2) := by decide +kernel
theorem dX9_bestNow_113 : decode cX9_bestNow 113 = .ok (.ifCond .eq 8, 3) := by decide +kernel
theorem dX9_bestNow_116 : decode cX9_bestNow 116 = .ok (.iload 7, 2) := by decide +kernel
theorem dX9_bestNow_118 : decode cX9_bestNow 118 = .ok (.goto 5, 3) := by decide +kernel
theorem dX9_bestNow_121 : decode cX9_bestNow 121 = .ok (.iload 5, 2) := by decide +kernel
theorem dX9_bestNow_123 : decode cX9_bestNow 123 = .ok (.istore 5, 2) := by decide +kernel
theorem dX9_bestNow_125 : decode cX9_bestNow 125 = .ok (.iload 8, 2) := by decide +kernel
theorem dX9_bestNow_127 : decode cX9_bestNow 127 = .ok (.ifCond .eq 10, 3) := by decide +kernel
theorem dX9_bestNow_130 : decode cX9_bestNow 130 = .ok (.aload_n 0, 1) := by decide +kernel
theorem dX9_bestNow_131 : decode cX9_bestNow 131 = .ok (.invokevirtual 174, 3) := by decide +kernel
theorem dX9_bestNow_134 : decode cX9_bestNow 134 = .ok (.goto 5, 3) := by decide +kernel
theorem dX9_bestNow_137 : decode cX9_bestNow 137 = .ok (.iload 6, 2) := by decide +kernel
theorem dX9_bestNow_139 : decode cX9_bestNow 139 = .ok (.istore 6, 2) := by decide +kernel
theorem dX9_bestNow_141 : decode cX9_bestNow 141 = .ok (.iinc 7 1, 3) := by decide +kernel
theorem dX9_bestNow_144 : decode cX9_bestNow 144 = .ok (.goto (-123), 3) := by decide +kernel
theorem dX9_bestNow_147 : decode cX9_bestNow 147 = .ok (.aload_n 0, 1) := by decide +kernel
theorem dX9_bestNow_148 : decode cX9_bestNow 148 = .ok (.invokevirtual 180, 3) := by decide +kernel
theorem dX9_bestNow_151 : decode cX9_bestNow 151 = .ok (.iload 5, 2) := by decide +kernel
theorem dX9_bestNow_153 : decode cX9_bestNow 153 = .ok (.iconst (-1), 1) := by decide +kernel
theorem dX9_bestNow_154 : decode cX9_bestNow 154 = .ok (.if_icmp .eq 7, 3) := by decide +kernel
theorem dX9_bestNow_157 : decode cX9_bestNow 157 = .ok (.iload_n 3, 1) := by decide +kernel
theorem dX9_bestNow_158 : decode cX9_bestNow 158 = .ok (.ifCond .ne 16, 3) := by decide +kernel
theorem dX9_bestNow_161 : decode cX9_bestNow 161 = .ok (.iload 5, 2) := by decide +kernel
theorem dX9_bestNow_163 : decode cX9_bestNow 163 = .ok (.iconst (-1), 1) := by decide +kernel
theorem dX9_bestNow_164 : decode cX9_bestNow 164 = .ok (.if_icmp .ne 7, 3) := by decide +kernel
theorem dX9_bestNow_167 : decode cX9_bestNow 167 = .ok (.iconst (-1), 1) := by decide +kernel
theorem dX9_bestNow_168 : decode cX9_bestNow 168 = .ok (.goto 5, 3) := by decide +kernel
theorem dX9_bestNow_171 : decode cX9_bestNow 171 = .ok (.iload 6, 2) := by decide +kernel
theorem dX9_bestNow_173 : decode cX9_bestNow 173 = .ok (.ireturn, 1) := by decide +kernel
theorem dX9_bestNow_174 : decode cX9_bestNow 174 = .ok (.iload_n 3, 1) := by decide +kernel
theorem dX9_bestNow_175 : decode cX9_bestNow 175 = .ok (.bipush 10, 2) := by decide +kernel
theorem dX9_bestNow_177 : decode cX9_bestNow 177 = .ok (.if_icmp .ne 16, 3) := by decide +kernel
theorem dX9_bestNow_180 : decode cX9_bestNow 180 = .ok (.iload 5, 2) := by decide +kernel
theorem dX9_bestNow_182 : decode cX9_bestNow 182 = .ok (.iload 4, 2) := by decide +kernel
theorem dX9_bestNow_184 : decode cX9_bestNow 184 = .ok (.iload 4, 2) := by decide +kernel
theorem dX9_bestNow_186 : decode cX9_bestNow 186 = .ok (.imul, 1) := by decide +kernel
theorem dX9_bestNow_187 : decode cX9_bestNow 187 = .ok (.idiv, 1) := by decide +kernel
theorem dX9_bestNow_188 : decode cX9_bestNow 188 = .ok (.iconst 1, 1) := by decide +kernel
theorem dX9_bestNow_189 : decode cX9_bestNow 189 = .ok (.isub, 1) := by decide +kernel
theorem dX9_bestNow_190 : decode cX9_bestNow 190 = .ok (.goto 29, 3) := by decide +kernel
theorem dX9_bestNow_193 : decode cX9_bestNow 193 = .ok (.iload_n 3, 1) := by decide +kernel
theorem dX9_bestNow_194 : decode cX9_bestNow 194 = .ok (.bipush 11, 2) := by decide +kernel
theorem dX9_bestNow_196 : decode cX9_bestNow 196 = .ok (.if_icmp .ne 16, 3) := by decide +kernel
theorem dX9_bestNow_199 : decode cX9_bestNow 199 = .ok (.iload 5, 2) := by decide +kernel
theorem dX9_bestNow_201 : decode cX9_bestNow 201 = .ok (.iload 4, 2) := by decide +kernel
theorem dX9_bestNow_203 : decode cX9_bestNow 203 = .ok (.idiv, 1) := by decide +kernel
theorem dX9_bestNow_204 : decode cX9_bestNow 204 = .ok (.iload 4, 2) := by decide +kernel
theorem dX9_bestNow_206 : decode cX9_bestNow 206 = .ok (.irem, 1) := by decide +kernel
theorem dX9_bestNow_207 : decode cX9_bestNow 207 = .ok (.iconst 1, 1) := by decide +kernel
theorem dX9_bestNow_208 : decode cX9_bestNow 208 = .ok (.isub, 1) := by decide +kernel
theorem dX9_bestNow_209 : decode cX9_bestNow 209 = .ok (.goto 10, 3) := by decide +kernel
theorem dX9_bestNow_212 : decode cX9_bestNow 212 = .ok (.iload 5, 2) := by decide +kernel
theorem dX9_bestNow_214 : decode cX9_bestNow 214 = .ok (.iload 4, 2) := by decide +kernel
theorem dX9_bestNow_216 : decode cX9_bestNow 216 = .ok (.irem, 1) := by decide +kernel
theorem dX9_bestNow_217 : decode cX9_bestNow 217 = .ok (.iconst 1, 1) := by decide +kernel
theorem dX9_bestNow_218 : decode cX9_bestNow 218 = .ok (.isub, 1) := by decide +kernel
theorem dX9_bestNow_219 : decode cX9_bestNow 219 = .ok (.ireturn, 1) := by decide +kernel
set_option maxRecDepth 20000 in
theorem ggX9_best_X9_within : GoodIn wsX9_best wsX9_within := goodIn_r _ [6] (by decide +kernel) (by decide +kernel)
set_option maxRecDepth 20000 in
theorem gX9_best_X9_within : GoodIn wsX9_best (va_wsS RX9 71 yX9_within wsX9_within) := goodIn_app (goodIn_of _ (by decide +kernel)) ggX9_best_X9_within
set_option maxRecDepth 20000 in
theorem ggX9_best_X9_bestNow : GoodIn wsX9_best wsX9_bestNow := goodIn_r _ [10, 1, 11, 12, 13, 14, 15, 5, 16, 17, 18, 19, 20, 21, 22, 23, 24, 25, 26, 27, 28, 29, 30, 31, 32, 33, 34, 35, 36, 37, 38, 39, 40, 41, 42, 43, 44, 45, 46, 47, 48, 49, 50, 51, 52, 53, 54, 55, 56, 57, 58, 59, 60, 61, 62, 63, 64, 65, 66, 67, 68, 69, 70, 71, 72, 73, 74, 75, 76, 77, 78, 79, 80, 81, 82, 83, 84, 85, 86, 87, 88, 89, 90, 91, 92, 93, 94, 95, 96, 97, 98, 99] (by decide +kernel) (by decide +kernel)
set_option maxRecDepth 20000 in
theorem gX9_best_X9_bestNow : GoodIn wsX9_best (wsV RX9 186 RX9 yX9_bestNow wsX9_bestNow) := goodIn_app (goodIn_of _ (by decide +kernel)) ggX9_best_X9_bestNow
theorem dX9_best_0 : decode cX9_best 0 = .ok (.aload_n 0, 1) := by decide +kernel
theorem dX9_best_1 : decode cX9_best 1 = .ok (.getfield 100, 3) := by decide +kernel
theorem dX9_best_4 : decode cX9_best 4 = .ok (.ifCond .eq 12, 3) := by decide +kernel
theorem dX9_best_7 : decode cX9_best 7 = .ok (.iload_n 1, 1) := by decide +kernel
theorem dX9_best_8 : decode cX9_best 8 = .ok (.iconst 0, 1) := by decide +kernel
theorem dX9_best_9 : decode cX9_best 9 = .ok (.iconst 5, 1) := by decide +kernel
theorem dX9_best_10 : decode cX9_best 10 = .ok (.invokestatic 71, 3) := by decide +kernel
theorem dX9_best_13 : decode cX9_best 13 = .ok (.ifCond .ne 6, 3) := by decide +kernel
theorem dX9_best_16 : decode cX9_best 16 = .ok (.bipush (-101), 2) := by decide +kernel
theorem dX9_best_18 : decode cX9_best 18 = .ok (.ireturn, 1) := by decide +kernel
theorem dX9_best_19 : decode cX9_best 19 = .ok (.iload_n 2, 1) := by decide +kernel
theorem dX9_best_20 : decode cX9_best 20 = .ok (.iconst 0, 1) := by decide +kernel
theorem dX9_best_21 : decode cX9_best 21 = .ok (.bipush 9, 2) := by decide +kernel
theorem dX9_best_23 : decode cX9_best 23 = .ok (.invokestatic 71, 3) := by decide +kernel
theorem dX9_best_26 : decode cX9_best 26 = .ok (.ifCond .eq 18, 3) := by decide +kernel
theorem dX9_best_29 : decode cX9_best 29 = .ok (.iload_n 3, 1) := by decide +kernel
theorem dX9_best_30 : decode cX9_best 30 = .ok (.ifCond .eq 17, 3) := by decide +kernel
theorem dX9_best_33 : decode cX9_best 33 = .ok (.iload_n 3, 1) := by decide +kernel
theorem dX9_best_34 : decode cX9_best 34 = .ok (.bipush 10, 2) := by decide +kernel
theorem dX9_best_36 : decode cX9_best 36 = .ok (.bipush 12, 2) := by decide +kernel
theorem dX9_best_38 : decode cX9_best 38 = .ok (.invokestatic 71, 3) := by decide +kernel
theorem dX9_best_41 : decode cX9_best 41 = .ok (.ifCond .ne 6, 3) := by decide +kernel
theorem dX9_best_44 : decode cX9_best 44 = .ok (.bipush (-102), 2) := by decide +kernel
theorem dX9_best_46 : decode cX9_best 46 = .ok (.ireturn, 1) := by decide +kernel
theorem dX9_best_47 : decode cX9_best 47 = .ok (.aload_n 0, 1) := by decide +kernel
theorem dX9_best_48 : decode cX9_best 48 = .ok (.getfield 183, 3) := by decide +kernel
theorem dX9_best_51 : decode cX9_best 51 = .ok (.bipush 30, 2) := by decide +kernel
theorem dX9_best_53 : decode cX9_best 53 = .ok (.if_icmp .ne 6, 3) := by decide +kernel
theorem dX9_best_56 : decode cX9_best 56 = .ok (.bipush (-103), 2) := by decide +kernel
theorem dX9_best_58 : decode cX9_best 58 = .ok (.ireturn, 1) := by decide +kernel
theorem dX9_best_59 : decode cX9_best 59 = .ok (.aload_n 0, 1) := by decide +kernel
theorem dX9_best_60 : decode cX9_best 60 = .ok (.dup, 1) := by decide +kernel
theorem dX9_best_61 : decode cX9_best 61 = .ok (.getfield 183, 3) := by decide +kernel
theorem dX9_best_64 : decode cX9_best 64 = .ok (.iconst 1, 1) := by decide +kernel
theorem dX9_best_65 : decode cX9_best 65 = .ok (.iadd, 1) := by decide +kernel
theorem dX9_best_66 : decode cX9_best 66 = .ok (.putfield 183, 3) := by decide +kernel
theorem dX9_best_69 : decode cX9_best 69 = .ok (.aload_n 0, 1) := by decide +kernel
theorem dX9_best_70 : decode cX9_best 70 = .ok (.iload_n 1, 1) := by decide +kernel
theorem dX9_best_71 : decode cX9_best 71 = .ok (.iload_n 2, 1) := by decide +kernel
theorem dX9_best_72 : decode cX9_best 72 = .ok (.iload_n 3, 1) := by decide +kernel
theorem dX9_best_73 : decode cX9_best 73 = .ok (.invokevirtual 186, 3) := by decide +kernel
theorem dX9_best_76 : decode cX9_best 76 = .ok (.ireturn, 1) := by decide +kernel
set_option maxRecDepth 20000 in
theorem ggX9_swapsNow_X9_thinkDay : GoodIn wsX9_swapsNow wsX9_thinkDay := goodIn_r _ [6, 7, 8, 9, 10, 11, 5, 12, 13, 14, 15, 16, 17, 18, 19, 20, 21, 22, 1, 23, 24, 25, 26, 27, 28, 29, 30, 31, 32, 33, 34, 35, 36, 42, 43, 44, 45, 46, 47, 48, 49, 50, 51, 52, 53, 54, 55, 56, 57, 58, 59, 60, 61, 62, 63, 64, 65, 66, 67, 68, 69, 70, 71, 72, 73, 74, 75, 76, 77, 78, 79, 80, 81, 82] (by decide +kernel) (by decide +kernel)
set_option maxRecDepth 20000 in
theorem gX9_swapsNow_X9_thinkDay : GoodIn wsX9_swapsNow (wsV RX9 145 RX9 yX9_thinkDay wsX9_thinkDay) := goodIn_app (goodIn_of _ (by decide +kernel)) ggX9_swapsNow_X9_thinkDay
set_option maxRecDepth 20000 in
theorem ggX9_swapsNow_X9_gainAll : GoodIn wsX9_swapsNow wsX9_gainAll := goodIn_r _ [40, 41, 16, 42, 43, 44, 45, 46, 47, 48, 49, 50, 51, 52, 53, 54, 55, 56, 57, 58, 59, 60, 61, 62, 63, 64, 65, 66, 67, 68, 69, 70, 71, 72, 73, 74, 75, 76, 77, 78, 79, 80, 81, 82] (by decide +kernel) (by decide +kernel)
set_option maxRecDepth 20000 in
theorem gX9_swapsNow_X9_gainAll : GoodIn wsX9_swapsNow (wsV RX9 174 RX9 yX9_gainAll wsX9_gainAll) := goodIn_app (goodIn_of _ (by decide +kernel)) ggX9_swapsNow_X9_gainAll
theorem dX9_swapsNow_0 : decode cX9_swapsNow 0 = .ok (.aload_n 0, 1) := by decide +kernel
theorem dX9_swapsNow_1 : decode cX9_swapsNow 1 = .ok (.invokevirtual 145, 3) := by decide +kernel
theorem dX9_swapsNow_4 : decode cX9_swapsNow 4 = .ok (.aload_n 0, 1) := by decide +kernel
theorem dX9_swapsNow_5 : decode cX9_swapsNow 5 = .ok (.invokevirtual 174, 3) := by decide +kernel
theorem dX9_swapsNow_8 : decode cX9_swapsNow 8 = .ok (.istore_n 1, 1) := by decide +kernel
theorem dX9_swapsNow_9 : decode cX9_swapsNow 9 = .ok (.iconst 0, 1) := by decide +kernel
theorem dX9_swapsNow_10 : decode cX9_swapsNow 10 = .ok (.istore_n 2, 1) := by decide +kernel
theorem dX9_swapsNow_11 : decode cX9_swapsNow 11 = .ok (.iconst 0, 1) := by decide +kernel
theorem dX9_swapsNow_12 : decode cX9_swapsNow 12 = .ok (.istore_n 3, 1) := by decide +kernel
theorem dX9_swapsNow_13 : decode cX9_swapsNow 13 = .ok (.iload_n 3, 1) := by decide +kernel
theorem dX9_swapsNow_14 : decode cX9_swapsNow 14 = .ok (.bipush 8, 2) := by decide +kernel
theorem dX9_swapsNow_16 : decode cX9_swapsNow 16 = .ok (.if_icmp .ge 98, 3) := by decide +kernel
theorem dX9_swapsNow_19 : decode cX9_swapsNow 19 = .ok (.iload_n 3, 1) := by decide +kernel
theorem dX9_swapsNow_20 : decode cX9_swapsNow 20 = .ok (.iconst 1, 1) := by decide +kernel
theorem dX9_swapsNow_21 : decode cX9_swapsNow 21 = .ok (.iadd, 1) := by decide +kernel
theorem dX9_swapsNow_22 : decode cX9_swapsNow 22 = .ok (.istore 4, 2) := by decide +kernel
theorem dX9_swapsNow_24 : decode cX9_swapsNow 24 = .ok (.iload 4, 2) := by decide +kernel
theorem dX9_swapsNow_26 : decode cX9_swapsNow 26 = .ok (.bipush 8, 2) := by decide +kernel
theorem dX9_swapsNow_28 : decode cX9_swapsNow 28 = .ok (.if_icmp .ge 80, 3) := by decide +kernel
theorem dX9_swapsNow_31 : decode cX9_swapsNow 31 = .ok (.aload_n 0, 1) := by decide +kernel
theorem dX9_swapsNow_32 : decode cX9_swapsNow 32 = .ok (.getfield 25, 3) := by decide +kernel
theorem dX9_swapsNow_35 : decode cX9_swapsNow 35 = .ok (.iload_n 3, 1) := by decide +kernel
theorem dX9_swapsNow_36 : decode cX9_swapsNow 36 = .ok (.iaload, 1) := by decide +kernel
theorem dX9_swapsNow_37 : decode cX9_swapsNow 37 = .ok (.istore 5, 2) := by decide +kernel
theorem dX9_swapsNow_39 : decode cX9_swapsNow 39 = .ok (.aload_n 0, 1) := by decide +kernel
theorem dX9_swapsNow_40 : decode cX9_swapsNow 40 = .ok (.getfield 25, 3) := by decide +kernel
theorem dX9_swapsNow_43 : decode cX9_swapsNow 43 = .ok (.iload 4, 2) := by decide +kernel
theorem dX9_swapsNow_45 : decode cX9_swapsNow 45 = .ok (.iaload, 1) := by decide +kernel
theorem dX9_swapsNow_46 : decode cX9_swapsNow 46 = .ok (.istore 6, 2) := by decide +kernel
theorem dX9_swapsNow_48 : decode cX9_swapsNow 48 = .ok (.aload_n 0, 1) := by decide +kernel
theorem dX9_swapsNow_49 : decode cX9_swapsNow 49 = .ok (.getfield 25, 3) := by decide +kernel
theorem dX9_swapsNow_52 : decode cX9_swapsNow 52 = .ok (.iload_n 3, 1) := by decide +kernel
theorem dX9_swapsNow_53 : decode cX9_swapsNow 53 = .ok (.iload 6, 2) := by decide +kernel
theorem dX9_swapsNow_55 : decode cX9_swapsNow 55 = .ok (.iastore, 1) := by decide +kernel
theorem dX9_swapsNow_56 : decode cX9_swapsNow 56 = .ok (.aload_n 0, 1) := by decide +kernel
theorem dX9_swapsNow_57 : decode cX9_swapsNow 57 = .ok (.getfield 25, 3) := by decide +kernel
theorem dX9_swapsNow_60 : decode cX9_swapsNow 60 = .ok (.iload 4, 2) := by decide +kernel
theorem dX9_swapsNow_62 : decode cX9_swapsNow 62 = .ok (.iload 5, 2) := by decide +kernel
theorem dX9_swapsNow_64 : decode cX9_swapsNow 64 = .ok (.iastore, 1) := by decide +kernel
theorem dX9_swapsNow_65 : decode cX9_swapsNow 65 = .ok (.aload_n 0, 1) := by decide +kernel
theorem dX9_swapsNow_66 : decode cX9_swapsNow 66 = .ok (.invokevirtual 145, 3) := by decide +kernel
theorem dX9_swapsNow_69 : decode cX9_swapsNow 69 = .ok (.iload_n 2, 1) := by decide +kernel
theorem dX9_swapsNow_70 : decode cX9_swapsNow 70 = .ok (.aload_n 0, 1) := by decide +kernel
theorem dX9_swapsNow_71 : decode cX9_swapsNow 71 = .ok (.invokevirtual 174, 3) := by decide +kernel
theorem dX9_swapsNow_74 : decode cX9_swapsNow 74 = .ok (.iload_n 1, 1) := by decide +kernel
theorem dX9_swapsNow_75 : decode cX9_swapsNow 75 = .ok (.if_icmp .le 7, 3) := by decide +kernel
theorem dX9_swapsNow_78 : decode cX9_swapsNow 78 = .ok (.iconst 1, 1) := by decide +kernel
theorem dX9_swapsNow_79 : decode cX9_swapsNow 79 = .ok (.goto 4, 3) := by decide +kernel
theorem dX9_swapsNow_82 : decode cX9_swapsNow 82 = .ok (.iconst 0, 1) := by decide +kernel
theorem dX9_swapsNow_83 : decode cX9_swapsNow 83 = .ok (.iadd, 1) := by decide +kernel
theorem dX9_swapsNow_84 : decode cX9_swapsNow 84 = .ok (.istore_n 2, 1) := by decide +kernel
theorem dX9_swapsNow_85 : decode cX9_swapsNow 85 = .ok (.aload_n 0, 1) := by decide +kernel
theorem dX9_swapsNow_86 : decode cX9_swapsNow 86 = .ok (.getfield 25, 3) := by decide +kernel
theorem dX9_swapsNow_89 : decode cX9_swapsNow 89 = .ok (.iload_n 3, 1) := by decide +kernel
theorem dX9_swapsNow_90 : decode cX9_swapsNow 90 = .ok (.iload 5, 2) := by decide +kernel
theorem dX9_swapsNow_92 : decode cX9_swapsNow 92 = .ok (.iastore, 1) := by decide +kernel
theorem dX9_swapsNow_93 : decode cX9_swapsNow 93 = .ok (.aload_n 0, 1) := by decide +kernel
theorem dX9_swapsNow_94 : decode cX9_swapsNow 94 = .ok (.getfield 25, 3) := by decide +kernel
theorem dX9_swapsNow_97 : decode cX9_swapsNow 97 = .ok (.iload 4, 2) := by decide +kernel
theorem dX9_swapsNow_99 : decode cX9_swapsNow 99 = .ok (.iload 6, 2) := by decide +kernel
theorem dX9_swapsNow_101 : decode cX9_swapsNow 101 = .ok (.iastore, 1) := by decide +kernel
theorem dX9_swapsNow_102 : decode cX9_swapsNow 102 = .ok (.iinc 4 1, 3) := by decide +kernel
theorem dX9_swapsNow_105 : decode cX9_swapsNow 105 = .ok (.goto (-81), 3) := by decide +kernel
theorem dX9_swapsNow_108 : decode cX9_swapsNow 108 = .ok (.iinc 3 1, 3) := by decide +kernel
theorem dX9_swapsNow_111 : decode cX9_swapsNow 111 = .ok (.goto (-98), 3) := by decide +kernel
theorem dX9_swapsNow_114 : decode cX9_swapsNow 114 = .ok (.iload_n 2, 1) := by decide +kernel
theorem dX9_swapsNow_115 : decode cX9_swapsNow 115 = .ok (.ireturn, 1) := by decide +kernel
set_option maxRecDepth 20000 in
theorem ggX9_swaps_X9_swapsNow : GoodIn wsX9_swaps wsX9_swapsNow := goodIn_r _ [6, 7, 8, 9, 10, 5, 11, 12, 13, 14, 15, 16, 17, 18, 19, 20, 21, 22, 23, 24, 25, 26, 27, 28, 29, 30, 31, 32, 33, 34, 35, 36, 37, 38, 39, 40, 41, 42, 43, 44, 45, 1, 46, 47, 48, 49, 50, 51, 52, 53, 54, 55, 56, 57, 58, 59, 60, 61, 62, 63, 64, 65, 66, 67, 68, 69, 70, 71, 72, 73, 74, 75, 76, 77, 78, 79, 80, 81, 82, 83, 84, 85, 86] (by decide +kernel) (by decide +kernel)
set_option maxRecDepth 20000 in
theorem gX9_swaps_X9_swapsNow : GoodIn wsX9_swaps (wsV RX9 190 RX9 yX9_swapsNow wsX9_swapsNow) := goodIn_app (goodIn_of _ (by decide +kernel)) ggX9_swaps_X9_swapsNow
theorem dX9_swaps_0 : decode cX9_swaps 0 = .ok (.aload_n 0, 1) := by decide +kernel
theorem dX9_swaps_1 : decode cX9_swaps 1 = .ok (.getfield 100, 3) := by decide +kernel
theorem dX9_swaps_4 : decode cX9_swaps 4 = .ok (.ifCond .ne 8, 3) := by decide +kernel
theorem dX9_swaps_7 : decode cX9_swaps 7 = .ok (.bipush (-103), 2) := by decide +kernel
theorem dX9_swaps_9 : decode cX9_swaps 9 = .ok (.goto 7, 3) := by decide +kernel
theorem dX9_swaps_12 : decode cX9_swaps 12 = .ok (.aload_n 0, 1) := by decide +kernel
theorem dX9_swaps_13 : decode cX9_swaps 13 = .ok (.invokevirtual 190, 3) := by decide +kernel
theorem dX9_swaps_16 : decode cX9_swaps 16 = .ok (.ireturn, 1) := by decide +kernel
set_option maxRecDepth 20000 in
theorem ggX9_found_X9_within : GoodIn wsX9_found wsX9_within := goodIn_r _ [8] (by decide +kernel) (by decide +kernel)
set_option maxRecDepth 20000 in
theorem gX9_found_X9_within : GoodIn wsX9_found (va_wsS RX9 71 yX9_within wsX9_within) := goodIn_app (goodIn_of _ (by decide +kernel)) ggX9_found_X9_within
theorem dX9_found_0 : decode cX9_found 0 = .ok (.aload_n 0, 1) := by decide +kernel
theorem dX9_found_1 : decode cX9_found 1 = .ok (.getfield 100, 3) := by decide +kernel
theorem dX9_found_4 : decode cX9_found 4 = .ok (.ifCond .eq 13, 3) := by decide +kernel
theorem dX9_found_7 : decode cX9_found 7 = .ok (.iload_n 1, 1) := by decide +kernel
theorem dX9_found_8 : decode cX9_found 8 = .ok (.iconst 0, 1) := by decide +kernel
theorem dX9_found_9 : decode cX9_found 9 = .ok (.bipush 8, 2) := by decide +kernel
theorem dX9_found_11 : decode cX9_found 11 = .ok (.invokestatic 71, 3) := by decide +kernel
theorem dX9_found_14 : decode cX9_found 14 = .ok (.ifCond .ne 6, 3) := by decide +kernel
theorem dX9_found_17 : decode cX9_found 17 = .ok (.bipush (-101), 2) := by decide +kernel
theorem dX9_found_19 : decode cX9_found 19 = .ok (.ireturn, 1) := by decide +kernel
theorem dX9_found_20 : decode cX9_found 20 = .ok (.iload_n 2, 1) := by decide +kernel
theorem dX9_found_21 : decode cX9_found 21 = .ok (.iconst 0, 1) := by decide +kernel
theorem dX9_found_22 : decode cX9_found 22 = .ok (.bipush 9, 2) := by decide +kernel
theorem dX9_found_24 : decode cX9_found 24 = .ok (.invokestatic 71, 3) := by decide +kernel
theorem dX9_found_27 : decode cX9_found 27 = .ok (.ifCond .ne 6, 3) := by decide +kernel
theorem dX9_found_30 : decode cX9_found 30 = .ok (.bipush (-102), 2) := by decide +kernel
theorem dX9_found_32 : decode cX9_found 32 = .ok (.ireturn, 1) := by decide +kernel
theorem dX9_found_33 : decode cX9_found 33 = .ok (.aload_n 0, 1) := by decide +kernel
theorem dX9_found_34 : decode cX9_found 34 = .ok (.getfield 115, 3) := by decide +kernel
theorem dX9_found_37 : decode cX9_found 37 = .ok (.bipush 6, 2) := by decide +kernel
theorem dX9_found_39 : decode cX9_found 39 = .ok (.if_icmp .ne 6, 3) := by decide +kernel
theorem dX9_found_42 : decode cX9_found 42 = .ok (.bipush (-104), 2) := by decide +kernel
theorem dX9_found_44 : decode cX9_found 44 = .ok (.ireturn, 1) := by decide +kernel
theorem dX9_found_45 : decode cX9_found 45 = .ok (.aload_n 0, 1) := by decide +kernel
theorem dX9_found_46 : decode cX9_found 46 = .ok (.getfield 28, 3) := by decide +kernel
theorem dX9_found_49 : decode cX9_found 49 = .ok (.aload_n 0, 1) := by decide +kernel
theorem dX9_found_50 : decode cX9_found 50 = .ok (.getfield 115, 3) := by decide +kernel
