theorem dX9_cave_80 : decode cX9_cave 80 = .ok (.bipush 48, 2) := by decide +kernel
theorem dX9_cave_82 : decode cX9_cave 82 = .ok (.isub, 1) := by decide +kernel
theorem dX9_cave_83 : decode cX9_cave 83 = .ok (.iastore, 1) := by decide +kernel
theorem dX9_cave_84 : decode cX9_cave 84 = .ok (.aload_n 0, 1) := by decide +kernel
theorem dX9_cave_85 : decode cX9_cave 85 = .ok (.getfield 16, 3) := by decide +kernel
theorem dX9_cave_88 : decode cX9_cave 88 = .ok (.iload_n 2, 1) := by decide +kernel
theorem dX9_cave_89 : decode cX9_cave 89 = .ok (.aload_n 0, 1) := by decide +kernel
theorem dX9_cave_90 : decode cX9_cave 90 = .ok (.getfield 34, 3) := by decide +kernel
theorem dX9_cave_93 : decode cX9_cave 93 = .ok (.iconst 4, 1) := by decide +kernel
theorem dX9_cave_94 : decode cX9_cave 94 = .ok (.iload_n 2, 1) := by decide +kernel
theorem dX9_cave_95 : decode cX9_cave 95 = .ok (.imul, 1) := by decide +kernel
theorem dX9_cave_96 : decode cX9_cave 96 = .ok (.iconst 2, 1) := by decide +kernel
theorem dX9_cave_97 : decode cX9_cave 97 = .ok (.iadd, 1) := by decide +kernel
theorem dX9_cave_98 : decode cX9_cave 98 = .ok (.baload, 1) := by decide +kernel
theorem dX9_cave_99 : decode cX9_cave 99 = .ok (.bipush 48, 2) := by decide +kernel
theorem dX9_cave_101 : decode cX9_cave 101 = .ok (.isub, 1) := by decide +kernel
theorem dX9_cave_102 : decode cX9_cave 102 = .ok (.iastore, 1) := by decide +kernel
theorem dX9_cave_103 : decode cX9_cave 103 = .ok (.aload_n 0, 1) := by decide +kernel
theorem dX9_cave_104 : decode cX9_cave 104 = .ok (.getfield 19, 3) := by decide +kernel
theorem dX9_cave_107 : decode cX9_cave 107 = .ok (.iload_n 2, 1) := by decide +kernel
theorem dX9_cave_108 : decode cX9_cave 108 = .ok (.iconst 0, 1) := by decide +kernel
theorem dX9_cave_109 : decode cX9_cave 109 = .ok (.iastore, 1) := by decide +kernel
theorem dX9_cave_110 : decode cX9_cave 110 = .ok (.aload_n 0, 1) := by decide +kernel
theorem dX9_cave_111 : decode cX9_cave 111 = .ok (.getfield 22, 3) := by decide +kernel
theorem dX9_cave_114 : decode cX9_cave 114 = .ok (.iload_n 2, 1) := by decide +kernel
theorem dX9_cave_115 : decode cX9_cave 115 = .ok (.iconst 0, 1) := by decide +kernel
theorem dX9_cave_116 : decode cX9_cave 116 = .ok (.iastore, 1) := by decide +kernel
theorem dX9_cave_117 : decode cX9_cave 117 = .ok (.iinc 2 1, 3) := by decide +kernel
theorem dX9_cave_120 : decode cX9_cave 120 = .ok (.goto (-80), 3) := by decide +kernel
theorem dX9_cave_123 : decode cX9_cave 123 = .ok (.iconst 0, 1) := by decide +kernel
theorem dX9_cave_124 : decode cX9_cave 124 = .ok (.istore_n 2, 1) := by decide +kernel
theorem dX9_cave_125 : decode cX9_cave 125 = .ok (.iload_n 2, 1) := by decide +kernel
theorem dX9_cave_126 : decode cX9_cave 126 = .ok (.bipush 8, 2) := by decide +kernel
theorem dX9_cave_128 : decode cX9_cave 128 = .ok (.if_icmp .ge 16, 3) := by decide +kernel
theorem dX9_cave_131 : decode cX9_cave 131 = .ok (.aload_n 0, 1) := by decide +kernel
theorem dX9_cave_132 : decode cX9_cave 132 = .ok (.getfield 25, 3) := by decide +kernel
theorem dX9_cave_135 : decode cX9_cave 135 = .ok (.iload_n 2, 1) := by decide +kernel
theorem dX9_cave_136 : decode cX9_cave 136 = .ok (.iconst (-1), 1) := by decide +kernel
theorem dX9_cave_137 : decode cX9_cave 137 = .ok (.iastore, 1) := by decide +kernel
theorem dX9_cave_138 : decode cX9_cave 138 = .ok (.iinc 2 1, 3) := by decide +kernel
theorem dX9_cave_141 : decode cX9_cave 141 = .ok (.goto (-16), 3) := by decide +kernel
theorem dX9_cave_144 : decode cX9_cave 144 = .ok (.aload_n 0, 1) := by decide +kernel
theorem dX9_cave_145 : decode cX9_cave 145 = .ok (.dup, 1) := by decide +kernel
theorem dX9_cave_146 : decode cX9_cave 146 = .ok (.getfield 106, 3) := by decide +kernel
theorem dX9_cave_149 : decode cX9_cave 149 = .ok (.iconst 1, 1) := by decide +kernel
theorem dX9_cave_150 : decode cX9_cave 150 = .ok (.iadd, 1) := by decide +kernel
theorem dX9_cave_151 : decode cX9_cave 151 = .ok (.putfield 106, 3) := by decide +kernel
theorem dX9_cave_154 : decode cX9_cave 154 = .ok (.aload_n 0, 1) := by decide +kernel
theorem dX9_cave_155 : decode cX9_cave 155 = .ok (.iconst 0, 1) := by decide +kernel
theorem dX9_cave_156 : decode cX9_cave 156 = .ok (.putfield 109, 3) := by decide +kernel
theorem dX9_cave_159 : decode cX9_cave 159 = .ok (.aload_n 0, 1) := by decide +kernel
theorem dX9_cave_160 : decode cX9_cave 160 = .ok (.iconst 0, 1) := by decide +kernel
theorem dX9_cave_161 : decode cX9_cave 161 = .ok (.putfield 112, 3) := by decide +kernel
theorem dX9_cave_164 : decode cX9_cave 164 = .ok (.aload_n 0, 1) := by decide +kernel
theorem dX9_cave_165 : decode cX9_cave 165 = .ok (.iconst 0, 1) := by decide +kernel
theorem dX9_cave_166 : decode cX9_cave 166 = .ok (.putfield 115, 3) := by decide +kernel
theorem dX9_cave_169 : decode cX9_cave 169 = .ok (.aload_n 0, 1) := by decide +kernel
theorem dX9_cave_170 : decode cX9_cave 170 = .ok (.iconst 0, 1) := by decide +kernel
theorem dX9_cave_171 : decode cX9_cave 171 = .ok (.putfield 75, 3) := by decide +kernel
theorem dX9_cave_174 : decode cX9_cave 174 = .ok (.aload_n 0, 1) := by decide +kernel
theorem dX9_cave_175 : decode cX9_cave 175 = .ok (.getfield 100, 3) := by decide +kernel
theorem dX9_cave_178 : decode cX9_cave 178 = .ok (.ireturn, 1) := by decide +kernel
set_option maxRecDepth 20000 in
theorem ggX9_isFather_X9_within : GoodIn wsX9_isFather wsX9_within := goodIn_r _ [5] (by decide +kernel) (by decide +kernel)
set_option maxRecDepth 20000 in
theorem gX9_isFather_X9_within : GoodIn wsX9_isFather (va_wsS RX9 71 yX9_within wsX9_within) := goodIn_app (goodIn_of _ (by decide +kernel)) ggX9_isFather_X9_within
theorem dX9_isFather_0 : decode cX9_isFather 0 = .ok (.iload_n 1, 1) := by decide +kernel
theorem dX9_isFather_1 : decode cX9_isFather 1 = .ok (.iconst 0, 1) := by decide +kernel
theorem dX9_isFather_2 : decode cX9_isFather 2 = .ok (.aload_n 0, 1) := by decide +kernel
theorem dX9_isFather_3 : decode cX9_isFather 3 = .ok (.getfield 100, 3) := by decide +kernel
theorem dX9_isFather_6 : decode cX9_isFather 6 = .ok (.iconst 1, 1) := by decide +kernel
theorem dX9_isFather_7 : decode cX9_isFather 7 = .ok (.isub, 1) := by decide +kernel
theorem dX9_isFather_8 : decode cX9_isFather 8 = .ok (.invokestatic 71, 3) := by decide +kernel
theorem dX9_isFather_11 : decode cX9_isFather 11 = .ok (.ireturn, 1) := by decide +kernel
set_option maxRecDepth 20000 in
theorem ggX9_isShift_X9_within : GoodIn wsX9_isShift wsX9_within := goodIn_r _ [5] (by decide +kernel) (by decide +kernel)
set_option maxRecDepth 20000 in
theorem gX9_isShift_X9_within : GoodIn wsX9_isShift (va_wsS RX9 71 yX9_within wsX9_within) := goodIn_app (goodIn_of _ (by decide +kernel)) ggX9_isShift_X9_within
theorem dX9_isShift_0 : decode cX9_isShift 0 = .ok (.aload_n 0, 1) := by decide +kernel
theorem dX9_isShift_1 : decode cX9_isShift 1 = .ok (.getfield 100, 3) := by decide +kernel
theorem dX9_isShift_4 : decode cX9_isShift 4 = .ok (.ifCond .le 17, 3) := by decide +kernel
theorem dX9_isShift_7 : decode cX9_isShift 7 = .ok (.iload_n 1, 1) := by decide +kernel
theorem dX9_isShift_8 : decode cX9_isShift 8 = .ok (.iconst 0, 1) := by decide +kernel
theorem dX9_isShift_9 : decode cX9_isShift 9 = .ok (.bipush 7, 2) := by decide +kernel
theorem dX9_isShift_11 : decode cX9_isShift 11 = .ok (.invokestatic 71, 3) := by decide +kernel
theorem dX9_isShift_14 : decode cX9_isShift 14 = .ok (.ifCond .eq 7, 3) := by decide +kernel
theorem dX9_isShift_17 : decode cX9_isShift 17 = .ok (.iconst 1, 1) := by decide +kernel
theorem dX9_isShift_18 : decode cX9_isShift 18 = .ok (.goto 4, 3) := by decide +kernel
theorem dX9_isShift_21 : decode cX9_isShift 21 = .ok (.iconst 0, 1) := by decide +kernel
theorem dX9_isShift_22 : decode cX9_isShift 22 = .ok (.ireturn, 1) := by decide +kernel
theorem dX9_atMost_0 : decode cX9_atMost 0 = .ok (.iload_n 0, 1) := by decide +kernel
theorem dX9_atMost_1 : decode cX9_atMost 1 = .ok (.bipush 9, 2) := by decide +kernel
theorem dX9_atMost_3 : decode cX9_atMost 3 = .ok (.if_icmp .le 8, 3) := by decide +kernel
theorem dX9_atMost_6 : decode cX9_atMost 6 = .ok (.bipush 9, 2) := by decide +kernel
theorem dX9_atMost_8 : decode cX9_atMost 8 = .ok (.goto 12, 3) := by decide +kernel
theorem dX9_atMost_11 : decode cX9_atMost 11 = .ok (.iload_n 0, 1) := by decide +kernel
theorem dX9_atMost_12 : decode cX9_atMost 12 = .ok (.ifCond .ge 7, 3) := by decide +kernel
theorem dX9_atMost_15 : decode cX9_atMost 15 = .ok (.iconst 0, 1) := by decide +kernel
theorem dX9_atMost_16 : decode cX9_atMost 16 = .ok (.goto 4, 3) := by decide +kernel
theorem dX9_atMost_19 : decode cX9_atMost 19 = .ok (.iload_n 0, 1) := by decide +kernel
theorem dX9_atMost_20 : decode cX9_atMost 20 = .ok (.ireturn, 1) := by decide +kernel
theorem dX9_isEnough_0 : decode cX9_isEnough 0 = .ok (.aload_n 0, 1) := by decide +kernel
theorem dX9_isEnough_1 : decode cX9_isEnough 1 = .ok (.getfield 7, 3) := by decide +kernel
theorem dX9_isEnough_4 : decode cX9_isEnough 4 = .ok (.iload_n 1, 1) := by decide +kernel
theorem dX9_isEnough_5 : decode cX9_isEnough 5 = .ok (.iaload, 1) := by decide +kernel
theorem dX9_isEnough_6 : decode cX9_isEnough 6 = .ok (.iconst 4, 1) := by decide +kernel
theorem dX9_isEnough_7 : decode cX9_isEnough 7 = .ok (.if_icmp .eq 18, 3) := by decide +kernel
theorem dX9_isEnough_10 : decode cX9_isEnough 10 = .ok (.aload_n 0, 1) := by decide +kernel
theorem dX9_isEnough_11 : decode cX9_isEnough 11 = .ok (.getfield 7, 3) := by decide +kernel
theorem dX9_isEnough_14 : decode cX9_isEnough 14 = .ok (.iload_n 1, 1) := by decide +kernel
theorem dX9_isEnough_15 : decode cX9_isEnough 15 = .ok (.iaload, 1) := by decide +kernel
theorem dX9_isEnough_16 : decode cX9_isEnough 16 = .ok (.iconst 1, 1) := by decide +kernel
theorem dX9_isEnough_17 : decode cX9_isEnough 17 = .ok (.if_icmp .ne 12, 3) := by decide +kernel
theorem dX9_isEnough_20 : decode cX9_isEnough 20 = .ok (.iload_n 2, 1) := by decide +kernel
theorem dX9_isEnough_21 : decode cX9_isEnough 21 = .ok (.iconst 4, 1) := by decide +kernel
theorem dX9_isEnough_22 : decode cX9_isEnough 22 = .ok (.if_icmp .ge 7, 3) := by decide +kernel
theorem dX9_isEnough_25 : decode cX9_isEnough 25 = .ok (.iconst 1, 1) := by decide +kernel
theorem dX9_isEnough_26 : decode cX9_isEnough 26 = .ok (.goto 4, 3) := by decide +kernel
theorem dX9_isEnough_29 : decode cX9_isEnough 29 = .ok (.iconst 0, 1) := by decide +kernel
theorem dX9_isEnough_30 : decode cX9_isEnough 30 = .ok (.istore 4, 2) := by decide +kernel
theorem dX9_isEnough_32 : decode cX9_isEnough 32 = .ok (.iload_n 3, 1) := by decide +kernel
theorem dX9_isEnough_33 : decode cX9_isEnough 33 = .ok (.aload_n 0, 1) := by decide +kernel
theorem dX9_isEnough_34 : decode cX9_isEnough 34 = .ok (.getfield 16, 3) := by decide +kernel
theorem dX9_isEnough_37 : decode cX9_isEnough 37 = .ok (.iload_n 1, 1) := by decide +kernel
theorem dX9_isEnough_38 : decode cX9_isEnough 38 = .ok (.iaload, 1) := by decide +kernel
theorem dX9_isEnough_39 : decode cX9_isEnough 39 = .ok (.iload 4, 2) := by decide +kernel
theorem dX9_isEnough_41 : decode cX9_isEnough 41 = .ok (.ifCond .eq 7, 3) := by decide +kernel
theorem dX9_isEnough_44 : decode cX9_isEnough 44 = .ok (.iconst 2, 1) := by decide +kernel
theorem dX9_isEnough_45 : decode cX9_isEnough 45 = .ok (.goto 4, 3) := by decide +kernel
theorem dX9_isEnough_48 : decode cX9_isEnough 48 = .ok (.iconst 0, 1) := by decide +kernel
theorem dX9_isEnough_49 : decode cX9_isEnough 49 = .ok (.iadd, 1) := by decide +kernel
theorem dX9_isEnough_50 : decode cX9_isEnough 50 = .ok (.if_icmp .gt 7, 3) := by decide +kernel
theorem dX9_isEnough_53 : decode cX9_isEnough 53 = .ok (.iconst 1, 1) := by decide +kernel
theorem dX9_isEnough_54 : decode cX9_isEnough 54 = .ok (.goto 4, 3) := by decide +kernel
theorem dX9_isEnough_57 : decode cX9_isEnough 57 = .ok (.iconst 0, 1) := by decide +kernel
theorem dX9_isEnough_58 : decode cX9_isEnough 58 = .ok (.ireturn, 1) := by decide +kernel
set_option maxRecDepth 20000 in
theorem ggX9_passShift_X9_atMost : GoodIn wsX9_passShift wsX9_atMost := goodIn_r _ [14] (by decide +kernel) (by decide +kernel)
set_option maxRecDepth 20000 in
theorem gX9_passShift_X9_atMost : GoodIn wsX9_passShift (va_wsS RX9 121 yX9_atMost wsX9_atMost) := goodIn_app (goodIn_of _ (by decide +kernel)) ggX9_passShift_X9_atMost
set_option maxRecDepth 20000 in
theorem ggX9_passShift_X9_isIn : GoodIn wsX9_passShift wsX9_isIn := goodIn_r _ [17] (by decide +kernel) (by decide +kernel)
set_option maxRecDepth 20000 in
theorem gX9_passShift_X9_isIn : GoodIn wsX9_passShift (va_wsS RX9 127 yX9_isIn wsX9_isIn) := goodIn_app (goodIn_of _ (by decide +kernel)) ggX9_passShift_X9_isIn
set_option maxRecDepth 20000 in
theorem ggX9_passShift_X9_isEnough : GoodIn wsX9_passShift wsX9_isEnough := goodIn_r _ [21, 7, 22, 23, 24, 25, 26, 27, 28, 29, 30, 31, 32, 33, 34, 35, 36, 37, 38, 39, 40, 41, 42, 43, 44, 45, 46, 47, 48, 49, 50, 51, 52, 53, 54, 55, 56, 57, 58, 59, 60, 61, 62, 63] (by decide +kernel) (by decide +kernel)
set_option maxRecDepth 20000 in
theorem gX9_passShift_X9_isEnough : GoodIn wsX9_passShift (wsV RX9 131 RX9 yX9_isEnough wsX9_isEnough) := goodIn_app (goodIn_of _ (by decide +kernel)) ggX9_passShift_X9_isEnough
theorem dX9_passShift_0 : decode cX9_passShift 0 = .ok (.aload_n 0, 1) := by decide +kernel
theorem dX9_passShift_1 : decode cX9_passShift 1 = .ok (.getfield 25, 3) := by decide +kernel
theorem dX9_passShift_4 : decode cX9_passShift 4 = .ok (.iload_n 1, 1) := by decide +kernel
theorem dX9_passShift_5 : decode cX9_passShift 5 = .ok (.iaload, 1) := by decide +kernel
theorem dX9_passShift_6 : decode cX9_passShift 6 = .ok (.istore_n 2, 1) := by decide +kernel
theorem dX9_passShift_7 : decode cX9_passShift 7 = .ok (.aload_n 0, 1) := by decide +kernel
theorem dX9_passShift_8 : decode cX9_passShift 8 = .ok (.getfield 38, 3) := by decide +kernel
theorem dX9_passShift_11 : decode cX9_passShift 11 = .ok (.iload_n 1, 1) := by decide +kernel
theorem dX9_passShift_12 : decode cX9_passShift 12 = .ok (.aload_n 0, 1) := by decide +kernel
theorem dX9_passShift_13 : decode cX9_passShift 13 = .ok (.getfield 118, 3) := by decide +kernel
theorem dX9_passShift_16 : decode cX9_passShift 16 = .ok (.iastore, 1) := by decide +kernel
theorem dX9_passShift_17 : decode cX9_passShift 17 = .ok (.aload_n 0, 1) := by decide +kernel
theorem dX9_passShift_18 : decode cX9_passShift 18 = .ok (.getfield 41, 3) := by decide +kernel
theorem dX9_passShift_21 : decode cX9_passShift 21 = .ok (.iload_n 1, 1) := by decide +kernel
theorem dX9_passShift_22 : decode cX9_passShift 22 = .ok (.iconst 0, 1) := by decide +kernel
theorem dX9_passShift_23 : decode cX9_passShift 23 = .ok (.iastore, 1) := by decide +kernel
theorem dX9_passShift_24 : decode cX9_passShift 24 = .ok (.iload_n 2, 1) := by decide +kernel
theorem dX9_passShift_25 : decode cX9_passShift 25 = .ok (.iconst (-1), 1) := by decide +kernel
theorem dX9_passShift_26 : decode cX9_passShift 26 = .ok (.if_icmp .ne 17, 3) := by decide +kernel
theorem dX9_passShift_29 : decode cX9_passShift 29 = .ok (.aload_n 0, 1) := by decide +kernel
theorem dX9_passShift_30 : decode cX9_passShift 30 = .ok (.aload_n 0, 1) := by decide +kernel
theorem dX9_passShift_31 : decode cX9_passShift 31 = .ok (.getfield 118, 3) := by decide +kernel
theorem dX9_passShift_34 : decode cX9_passShift 34 = .ok (.iconst 2, 1) := by decide +kernel
theorem dX9_passShift_35 : decode cX9_passShift 35 = .ok (.iadd, 1) := by decide +kernel
theorem dX9_passShift_36 : decode cX9_passShift 36 = .ok (.invokestatic 121, 3) := by decide +kernel
theorem dX9_passShift_39 : decode cX9_passShift 39 = .ok (.putfield 118, 3) := by decide +kernel
theorem dX9_passShift_42 : decode cX9_passShift 42 = .ok (.return_, 1) := by decide +kernel
theorem dX9_passShift_43 : decode cX9_passShift 43 = .ok (.aload_n 0, 1) := by decide +kernel
theorem dX9_passShift_44 : decode cX9_passShift 44 = .ok (.getfield 41, 3) := by decide +kernel
theorem dX9_passShift_47 : decode cX9_passShift 47 = .ok (.iload_n 1, 1) := by decide +kernel
theorem dX9_passShift_48 : decode cX9_passShift 48 = .ok (.aload_n 0, 1) := by decide +kernel
theorem dX9_passShift_49 : decode cX9_passShift 49 = .ok (.getfield 118, 3) := by decide +kernel
theorem dX9_passShift_52 : decode cX9_passShift 52 = .ok (.aload_n 0, 1) := by decide +kernel
theorem dX9_passShift_53 : decode cX9_passShift 53 = .ok (.getfield 124, 3) := by decide +kernel
theorem dX9_passShift_56 : decode cX9_passShift 56 = .ok (.aload_n 0, 1) := by decide +kernel
theorem dX9_passShift_57 : decode cX9_passShift 57 = .ok (.getfield 13, 3) := by decide +kernel
theorem dX9_passShift_60 : decode cX9_passShift 60 = .ok (.iload_n 2, 1) := by decide +kernel
theorem dX9_passShift_61 : decode cX9_passShift 61 = .ok (.iaload, 1) := by decide +kernel
theorem dX9_passShift_62 : decode cX9_passShift 62 = .ok (.invokestatic 127, 3) := by decide +kernel
theorem dX9_passShift_65 : decode cX9_passShift 65 = .ok (.ifCond .eq 7, 3) := by decide +kernel
theorem dX9_passShift_68 : decode cX9_passShift 68 = .ok (.iconst 2, 1) := by decide +kernel
theorem dX9_passShift_69 : decode cX9_passShift 69 = .ok (.goto 4, 3) := by decide +kernel
theorem dX9_passShift_72 : decode cX9_passShift 72 = .ok (.iconst 0, 1) := by decide +kernel
theorem dX9_passShift_73 : decode cX9_passShift 73 = .ok (.iadd, 1) := by decide +kernel
theorem dX9_passShift_74 : decode cX9_passShift 74 = .ok (.iastore, 1) := by decide +kernel
theorem dX9_passShift_75 : decode cX9_passShift 75 = .ok (.aload_n 0, 1) := by decide +kernel
theorem dX9_passShift_76 : decode cX9_passShift 76 = .ok (.dup, 1) := by decide +kernel
theorem dX9_passShift_77 : decode cX9_passShift 77 = .ok (.getfield 124, 3) := by decide +kernel
theorem dX9_passShift_80 : decode cX9_passShift 80 = .ok (.iconst 1, 1) := by decide +kernel
theorem dX9_passShift_81 : decode cX9_passShift 81 = .ok (.aload_n 0, 1) := by decide +kernel
theorem dX9_passShift_82 : decode cX9_passShift 82 = .ok (.getfield 13, 3) := by decide +kernel
theorem dX9_passShift_85 : decode cX9_passShift 85 = .ok (.iload_n 2, 1) := by decide +kernel
theorem dX9_passShift_86 : decode cX9_passShift 86 = .ok (.iaload, 1) := by decide +kernel
theorem dX9_passShift_87 : decode cX9_passShift 87 = .ok (.ishl, 1) := by decide +kernel
theorem dX9_passShift_88 : decode cX9_passShift 88 = .ok (.ior, 1) := by decide +kernel
theorem dX9_passShift_89 : decode cX9_passShift 89 = .ok (.putfield 124, 3) := by decide +kernel
theorem dX9_passShift_92 : decode cX9_passShift 92 = .ok (.aload_n 0, 1) := by decide +kernel
theorem dX9_passShift_93 : decode cX9_passShift 93 = .ok (.getfield 7, 3) := by decide +kernel
theorem dX9_passShift_96 : decode cX9_passShift 96 = .ok (.iload_n 2, 1) := by decide +kernel
theorem dX9_passShift_97 : decode cX9_passShift 97 = .ok (.iaload, 1) := by decide +kernel
theorem dX9_passShift_98 : decode cX9_passShift 98 = .ok (.iconst 2, 1) := by decide +kernel
theorem dX9_passShift_99 : decode cX9_passShift 99 = .ok (.if_icmp .ne 19, 3) := by decide +kernel
theorem dX9_passShift_102 : decode cX9_passShift 102 = .ok (.aload_n 0, 1) := by decide +kernel
theorem dX9_passShift_103 : decode cX9_passShift 103 = .ok (.aload_n 0, 1) := by decide +kernel
theorem dX9_passShift_104 : decode cX9_passShift 104 = .ok (.getfield 118, 3) := by decide +kernel
theorem dX9_passShift_107 : decode cX9_passShift 107 = .ok (.iconst 2, 1) := by decide +kernel
theorem dX9_passShift_108 : decode cX9_passShift 108 = .ok (.iadd, 1) := by decide +kernel
theorem dX9_passShift_109 : decode cX9_passShift 109 = .ok (.invokestatic 121, 3) := by decide +kernel
theorem dX9_passShift_112 : decode cX9_passShift 112 = .ok (.putfield 118, 3) := by decide +kernel
theorem dX9_passShift_115 : decode cX9_passShift 115 = .ok (.goto 103, 3) := by decide +kernel
theorem dX9_passShift_118 : decode cX9_passShift 118 = .ok (.aload_n 0, 1) := by decide +kernel
theorem dX9_passShift_119 : decode cX9_passShift 119 = .ok (.iload_n 2, 1) := by decide +kernel
theorem dX9_passShift_120 : decode cX9_passShift 120 = .ok (.iload_n 1, 1) := by decide +kernel
theorem dX9_passShift_121 : decode cX9_passShift 121 = .ok (.aload_n 0, 1) := by decide +kernel
theorem dX9_passShift_122 : decode cX9_passShift 122 = .ok (.getfield 41, 3) := by decide +kernel
theorem dX9_passShift_125 : decode cX9_passShift 125 = .ok (.iload_n 1, 1) := by decide +kernel
theorem dX9_passShift_126 : decode cX9_passShift 126 = .ok (.iaload, 1) := by decide +kernel
theorem dX9_passShift_127 : decode cX9_passShift 127 = .ok (.invokevirtual 131, 3) := by decide +kernel
theorem dX9_passShift_130 : decode cX9_passShift 130 = .ok (.ifCond .eq 53, 3) := by decide +kernel
theorem dX9_passShift_133 : decode cX9_passShift 133 = .ok (.aload_n 0, 1) := by decide +kernel
theorem dX9_passShift_134 : decode cX9_passShift 134 = .ok (.getfield 44, 3) := by decide +kernel
theorem dX9_passShift_137 : decode cX9_passShift 137 = .ok (.iload_n 2, 1) := by decide +kernel
theorem dX9_passShift_138 : decode cX9_passShift 138 = .ok (.dup2, 1) := by decide +kernel
theorem dX9_passShift_139 : decode cX9_passShift 139 = .ok (.iaload, 1) := by decide +kernel
theorem dX9_passShift_140 : decode cX9_passShift 140 = .ok (.aload_n 0, 1) := by decide +kernel
theorem dX9_passShift_141 : decode cX9_passShift 141 = .ok (.getfield 41, 3) := by decide +kernel
theorem dX9_passShift_144 : decode cX9_passShift 144 = .ok (.iload_n 1, 1) := by decide +kernel
theorem dX9_passShift_145 : decode cX9_passShift 145 = .ok (.iaload, 1) := by decide +kernel
theorem dX9_passShift_146 : decode cX9_passShift 146 = .ok (.iadd, 1) := by decide +kernel
theorem dX9_passShift_147 : decode cX9_passShift 147 = .ok (.iastore, 1) := by decide +kernel
theorem dX9_passShift_148 : decode cX9_passShift 148 = .ok (.aload_n 0, 1) := by decide +kernel
theorem dX9_passShift_149 : decode cX9_passShift 149 = .ok (.aload_n 0, 1) := by decide +kernel
theorem dX9_passShift_150 : decode cX9_passShift 150 = .ok (.getfield 7, 3) := by decide +kernel
theorem dX9_passShift_153 : decode cX9_passShift 153 = .ok (.iload_n 2, 1) := by decide +kernel
theorem dX9_passShift_154 : decode cX9_passShift 154 = .ok (.iaload, 1) := by decide +kernel
theorem dX9_passShift_155 : decode cX9_passShift 155 = .ok (.iconst 3, 1) := by decide +kernel
theorem dX9_passShift_156 : decode cX9_passShift 156 = .ok (.if_icmp .ne 12, 3) := by decide +kernel
theorem dX9_passShift_159 : decode cX9_passShift 159 = .ok (.aload_n 0, 1) := by decide +kernel
theorem dX9_passShift_160 : decode cX9_passShift 160 = .ok (.getfield 118, 3) := by decide +kernel
theorem dX9_passShift_163 : decode cX9_passShift 163 = .ok (.iconst 1, 1) := by decide +kernel
theorem dX9_passShift_164 : decode cX9_passShift 164 = .ok (.iadd, 1) := by decide +kernel
theorem dX9_passShift_165 : decode cX9_passShift 165 = .ok (.goto 9, 3) := by decide +kernel
theorem dX9_passShift_168 : decode cX9_passShift 168 = .ok (.aload_n 0, 1) := by decide +kernel
theorem dX9_passShift_169 : decode cX9_passShift 169 = .ok (.getfield 118, 3) := by decide +kernel
theorem dX9_passShift_172 : decode cX9_passShift 172 = .ok (.iconst 1, 1) := by decide +kernel
theorem dX9_passShift_173 : decode cX9_passShift 173 = .ok (.isub, 1) := by decide +kernel
theorem dX9_passShift_174 : decode cX9_passShift 174 = .ok (.invokestatic 121, 3) := by decide +kernel
theorem dX9_passShift_177 : decode cX9_passShift 177 = .ok (.putfield 118, 3) := by decide +kernel
theorem dX9_passShift_180 : decode cX9_passShift 180 = .ok (.goto 38, 3) := by decide +kernel
theorem dX9_passShift_183 : decode cX9_passShift 183 = .ok (.aload_n 0, 1) := by decide +kernel
theorem dX9_passShift_184 : decode cX9_passShift 184 = .ok (.getfield 47, 3) := by decide +kernel
theorem dX9_passShift_187 : decode cX9_passShift 187 = .ok (.iload_n 2, 1) := by decide +kernel
theorem dX9_passShift_188 : decode cX9_passShift 188 = .ok (.dup2, 1) := by decide +kernel
theorem dX9_passShift_189 : decode cX9_passShift 189 = .ok (.iaload, 1) := by decide +kernel
theorem dX9_passShift_190 : decode cX9_passShift 190 = .ok (.iconst 1, 1) := by decide +kernel
theorem dX9_passShift_191 : decode cX9_passShift 191 = .ok (.iadd, 1) := by decide +kernel
theorem dX9_passShift_192 : decode cX9_passShift 192 = .ok (.iastore, 1) := by decide +kernel
theorem dX9_passShift_193 : decode cX9_passShift 193 = .ok (.aload_n 0, 1) := by decide +kernel
theorem dX9_passShift_194 : decode cX9_passShift 194 = .ok (.dup, 1) := by decide +kernel
theorem dX9_passShift_195 : decode cX9_passShift 195 = .ok (.getfield 134, 3) := by decide +kernel
theorem dX9_passShift_198 : decode cX9_passShift 198 = .ok (.iconst 1, 1) := by decide +kernel
theorem dX9_passShift_199 : decode cX9_passShift 199 = .ok (.iload_n 1, 1) := by decide +kernel
theorem dX9_passShift_200 : decode cX9_passShift 200 = .ok (.ishl, 1) := by decide +kernel
theorem dX9_passShift_201 : decode cX9_passShift 201 = .ok (.ior, 1) := by decide +kernel
theorem dX9_passShift_202 : decode cX9_passShift 202 = .ok (.putfield 134, 3) := by decide +kernel
theorem dX9_passShift_205 : decode cX9_passShift 205 = .ok (.aload_n 0, 1) := by decide +kernel
theorem dX9_passShift_206 : decode cX9_passShift 206 = .ok (.aload_n 0, 1) := by decide +kernel
theorem dX9_passShift_207 : decode cX9_passShift 207 = .ok (.getfield 118, 3) := by decide +kernel
theorem dX9_passShift_210 : decode cX9_passShift 210 = .ok (.iconst 1, 1) := by decide +kernel
theorem dX9_passShift_211 : decode cX9_passShift 211 = .ok (.iadd, 1) := by decide +kernel
theorem dX9_passShift_212 : decode cX9_passShift 212 = .ok (.invokestatic 121, 3) := by decide +kernel
theorem dX9_passShift_215 : decode cX9_passShift 215 = .ok (.putfield 118, 3) := by decide +kernel
theorem dX9_passShift_218 : decode cX9_passShift 218 = .ok (.return_, 1) := by decide +kernel
set_option maxRecDepth 20000 in
theorem ggX9_passDay_X9_passShift : GoodIn wsX9_passDay wsX9_passShift := goodIn_r _ [11, 12, 6, 1, 13, 2, 14, 15, 4, 5, 3, 16, 17, 10, 18, 19, 20, 21, 22, 23, 24, 25, 26, 27, 28, 29, 30, 31, 32, 33, 34, 35, 36, 37, 38, 39, 40, 41, 42, 43, 44, 45, 46, 47, 48, 49, 50, 51, 52, 53, 54, 55, 56, 57, 58, 59, 60, 61, 62, 63, 64, 65, 66, 67] (by decide +kernel) (by decide +kernel)
set_option maxRecDepth 20000 in
theorem gX9_passDay_X9_passShift : GoodIn wsX9_passDay (wsV RX9 137 RX9 yX9_passShift wsX9_passShift) := goodIn_app (goodIn_of _ (by decide +kernel)) ggX9_passDay_X9_passShift
theorem dX9_passDay_0 : decode cX9_passDay 0 = .ok (.aload_n 0, 1) := by decide +kernel
theorem dX9_passDay_1 : decode cX9_passDay 1 = .ok (.iload_n 1, 1) := by decide +kernel
theorem dX9_passDay_2 : decode cX9_passDay 2 = .ok (.putfield 118, 3) := by decide +kernel
theorem dX9_passDay_5 : decode cX9_passDay 5 = .ok (.aload_n 0, 1) := by decide +kernel
theorem dX9_passDay_6 : decode cX9_passDay 6 = .ok (.iload_n 2, 1) := by decide +kernel
theorem dX9_passDay_7 : decode cX9_passDay 7 = .ok (.putfield 124, 3) := by decide +kernel
theorem dX9_passDay_10 : decode cX9_passDay 10 = .ok (.aload_n 0, 1) := by decide +kernel
theorem dX9_passDay_11 : decode cX9_passDay 11 = .ok (.iconst 0, 1) := by decide +kernel
theorem dX9_passDay_12 : decode cX9_passDay 12 = .ok (.putfield 134, 3) := by decide +kernel
theorem dX9_passDay_15 : decode cX9_passDay 15 = .ok (.iconst 0, 1) := by decide +kernel
theorem dX9_passDay_16 : decode cX9_passDay 16 = .ok (.istore_n 3, 1) := by decide +kernel
theorem dX9_passDay_17 : decode cX9_passDay 17 = .ok (.iload_n 3, 1) := by decide +kernel
theorem dX9_passDay_18 : decode cX9_passDay 18 = .ok (.iconst 4, 1) := by decide +kernel
theorem dX9_passDay_19 : decode cX9_passDay 19 = .ok (.if_icmp .ge 23, 3) := by decide +kernel
theorem dX9_passDay_22 : decode cX9_passDay 22 = .ok (.aload_n 0, 1) := by decide +kernel
theorem dX9_passDay_23 : decode cX9_passDay 23 = .ok (.getfield 44, 3) := by decide +kernel
theorem dX9_passDay_26 : decode cX9_passDay 26 = .ok (.iload_n 3, 1) := by decide +kernel
theorem dX9_passDay_27 : decode cX9_passDay 27 = .ok (.iconst 0, 1) := by decide +kernel
theorem dX9_passDay_28 : decode cX9_passDay 28 = .ok (.iastore, 1) := by decide +kernel
theorem dX9_passDay_29 : decode cX9_passDay 29 = .ok (.aload_n 0, 1) := by decide +kernel
theorem dX9_passDay_30 : decode cX9_passDay 30 = .ok (.getfield 47, 3) := by decide +kernel
theorem dX9_passDay_33 : decode cX9_passDay 33 = .ok (.iload_n 3, 1) := by decide +kernel
theorem dX9_passDay_34 : decode cX9_passDay 34 = .ok (.iconst 0, 1) := by decide +kernel
theorem dX9_passDay_35 : decode cX9_passDay 35 = .ok (.iastore, 1) := by decide +kernel
theorem dX9_passDay_36 : decode cX9_passDay 36 = .ok (.iinc 3 1, 3) := by decide +kernel
theorem dX9_passDay_39 : decode cX9_passDay 39 = .ok (.goto (-22), 3) := by decide +kernel
theorem dX9_passDay_42 : decode cX9_passDay 42 = .ok (.iconst 0, 1) := by decide +kernel
theorem dX9_passDay_43 : decode cX9_passDay 43 = .ok (.istore_n 3, 1) := by decide +kernel
theorem dX9_passDay_44 : decode cX9_passDay 44 = .ok (.iload_n 3, 1) := by decide +kernel
theorem dX9_passDay_45 : decode cX9_passDay 45 = .ok (.bipush 8, 2) := by decide +kernel
theorem dX9_passDay_47 : decode cX9_passDay 47 = .ok (.if_icmp .ge 14, 3) := by decide +kernel
theorem dX9_passDay_50 : decode cX9_passDay 50 = .ok (.aload_n 0, 1) := by decide +kernel
theorem dX9_passDay_51 : decode cX9_passDay 51 = .ok (.iload_n 3, 1) := by decide +kernel
theorem dX9_passDay_52 : decode cX9_passDay 52 = .ok (.invokevirtual 137, 3) := by decide +kernel
theorem dX9_passDay_55 : decode cX9_passDay 55 = .ok (.iinc 3 1, 3) := by decide +kernel
theorem dX9_passDay_58 : decode cX9_passDay 58 = .ok (.goto (-14), 3) := by decide +kernel
theorem dX9_passDay_61 : decode cX9_passDay 61 = .ok (.aload_n 0, 1) := by decide +kernel
theorem dX9_passDay_62 : decode cX9_passDay 62 = .ok (.getfield 38, 3) := by decide +kernel
theorem dX9_passDay_65 : decode cX9_passDay 65 = .ok (.bipush 8, 2) := by decide +kernel
theorem dX9_passDay_67 : decode cX9_passDay 67 = .ok (.aload_n 0, 1) := by decide +kernel
theorem dX9_passDay_68 : decode cX9_passDay 68 = .ok (.getfield 118, 3) := by decide +kernel
theorem dX9_passDay_71 : decode cX9_passDay 71 = .ok (.iastore, 1) := by decide +kernel
theorem dX9_passDay_72 : decode cX9_passDay 72 = .ok (.return_, 1) := by decide +kernel
set_option maxRecDepth 20000 in
theorem ggX9_thinkDay_X9_passDay : GoodIn wsX9_thinkDay wsX9_passDay := goodIn_r _ [7, 8, 9, 10, 11, 12, 13, 14, 15, 16, 6, 17, 18, 19, 20, 21, 22, 23, 24, 25, 26, 27, 28, 29, 30, 31, 32, 33, 34, 35, 36, 37, 38, 39, 40, 41, 42, 43, 44, 45, 46, 47, 48, 49, 50, 51, 52, 53, 54, 55, 56, 57, 58, 59, 60, 61, 62, 63, 64, 65, 66, 67, 68, 69, 70, 71, 72, 73] (by decide +kernel) (by decide +kernel)
set_option maxRecDepth 20000 in
theorem gX9_thinkDay_X9_passDay : GoodIn wsX9_thinkDay (wsV RX9 141 RX9 yX9_passDay wsX9_passDay) := goodIn_app (goodIn_of _ (by decide +kernel)) ggX9_thinkDay_X9_passDay
theorem dX9_thinkDay_0 : decode cX9_thinkDay 0 = .ok (.aload_n 0, 1) := by decide +kernel
theorem dX9_thinkDay_1 : decode cX9_thinkDay 1 = .ok (.aload_n 0, 1) := by decide +kernel
theorem dX9_thinkDay_2 : decode cX9_thinkDay 2 = .ok (.getfield 103, 3) := by decide +kernel
theorem dX9_thinkDay_5 : decode cX9_thinkDay 5 = .ok (.aload_n 0, 1) := by decide +kernel
theorem dX9_thinkDay_6 : decode cX9_thinkDay 6 = .ok (.getfield 109, 3) := by decide +kernel
theorem dX9_thinkDay_9 : decode cX9_thinkDay 9 = .ok (.invokevirtual 141, 3) := by decide +kernel
theorem dX9_thinkDay_12 : decode cX9_thinkDay 12 = .ok (.return_, 1) := by decide +kernel
theorem dX9_gainAll_0 : decode cX9_gainAll 0 = .ok (.iconst 0, 1) := by decide +kernel
theorem dX9_gainAll_1 : decode cX9_gainAll 1 = .ok (.istore_n 1, 1) := by decide +kernel
theorem dX9_gainAll_2 : decode cX9_gainAll 2 = .ok (.iconst 0, 1) := by decide +kernel
theorem dX9_gainAll_3 : decode cX9_gainAll 3 = .ok (.istore_n 2, 1) := by decide +kernel
theorem dX9_gainAll_4 : decode cX9_gainAll 4 = .ok (.iload_n 2, 1) := by decide +kernel
theorem dX9_gainAll_5 : decode cX9_gainAll 5 = .ok (.aload_n 0, 1) := by decide +kernel
theorem dX9_gainAll_6 : decode cX9_gainAll 6 = .ok (.getfield 100, 3) := by decide +kernel
theorem dX9_gainAll_9 : decode cX9_gainAll 9 = .ok (.if_icmp .ge 18, 3) := by decide +kernel
theorem dX9_gainAll_12 : decode cX9_gainAll 12 = .ok (.iload_n 1, 1) := by decide +kernel
theorem dX9_gainAll_13 : decode cX9_gainAll 13 = .ok (.aload_n 0, 1) := by decide +kernel
theorem dX9_gainAll_14 : decode cX9_gainAll 14 = .ok (.getfield 44, 3) := by decide +kernel
