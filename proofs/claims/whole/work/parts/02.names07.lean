set_option maxRecDepth 20000 in
theorem gX8_image_X8_hasCave : GoodIn wsX8_image (wsV RX8 158 RX8 yX8_hasCave wsX8_hasCave) := goodIn_app (goodIn_of _ (by decide +kernel)) ggX8_image_X8_hasCave
set_option maxRecDepth 20000 in
theorem ggX8_image_X3_takeOver : GoodIn wsX8_image wsX3_takeOver := goodIn_r _ [15, 16, 17, 18, 19, 20, 21, 22, 23, 24, 25, 8, 26, 40, 41, 42, 43, 44, 45, 46, 47, 48] (by decide +kernel) (by decide +kernel)
set_option maxRecDepth 20000 in
theorem gX8_image_X3_takeOver : GoodIn wsX8_image (wsV RX8 209 RX3 yX3_takeOver wsX3_takeOver) := goodIn_app (goodIn_of _ (by decide +kernel)) ggX8_image_X3_takeOver
theorem dX8_image_0 : decode cX8_image 0 = .ok (.aload_n 0, 1) := by decide +kernel
theorem dX8_image_1 : decode cX8_image 1 = .ok (.invokevirtual 158, 3) := by decide +kernel
theorem dX8_image_4 : decode cX8_image 4 = .ok (.ifCond .ne 6, 3) := by decide +kernel
theorem dX8_image_7 : decode cX8_image 7 = .ok (.bipush (-103), 2) := by decide +kernel
theorem dX8_image_9 : decode cX8_image 9 = .ok (.ireturn, 1) := by decide +kernel
theorem dX8_image_10 : decode cX8_image 10 = .ok (.aload_n 0, 1) := by decide +kernel
theorem dX8_image_11 : decode cX8_image 11 = .ok (.getfield 29, 3) := by decide +kernel
theorem dX8_image_14 : decode cX8_image 14 = .ok (.aload_n 0, 1) := by decide +kernel
theorem dX8_image_15 : decode cX8_image 15 = .ok (.getfield 25, 3) := by decide +kernel
theorem dX8_image_18 : decode cX8_image 18 = .ok (.invokevirtual 209, 3) := by decide +kernel
theorem dX8_image_21 : decode cX8_image 21 = .ok (.aload_n 0, 1) := by decide +kernel
theorem dX8_image_22 : decode cX8_image 22 = .ok (.iconst 1, 1) := by decide +kernel
theorem dX8_image_23 : decode cX8_image 23 = .ok (.putfield 77, 3) := by decide +kernel
theorem dX8_image_26 : decode cX8_image 26 = .ok (.aload_n 0, 1) := by decide +kernel
theorem dX8_image_27 : decode cX8_image 27 = .ok (.getfield 29, 3) := by decide +kernel
theorem dX8_image_30 : decode cX8_image 30 = .ok (.getfield 167, 3) := by decide +kernel
theorem dX8_image_33 : decode cX8_image 33 = .ok (.ireturn, 1) := by decide +kernel
set_option maxRecDepth 20000 in
theorem ggX8_restore_X3_takeOver : GoodIn wsX8_restore wsX3_takeOver := goodIn_r _ [9, 10, 11, 12, 13, 14, 15, 16, 17, 18, 19, 20, 21, 35, 36, 37, 38, 39, 40, 41, 42, 43] (by decide +kernel) (by decide +kernel)
set_option maxRecDepth 20000 in
theorem gX8_restore_X3_takeOver : GoodIn wsX8_restore (wsV RX8 209 RX3 yX3_takeOver wsX3_takeOver) := goodIn_app (goodIn_of _ (by decide +kernel)) ggX8_restore_X3_takeOver
theorem dX8_restore_0 : decode cX8_restore 0 = .ok (.aload_n 0, 1) := by decide +kernel
theorem dX8_restore_1 : decode cX8_restore 1 = .ok (.getfield 77, 3) := by decide +kernel
theorem dX8_restore_4 : decode cX8_restore 4 = .ok (.ifCond .ne 6, 3) := by decide +kernel
theorem dX8_restore_7 : decode cX8_restore 7 = .ok (.bipush (-103), 2) := by decide +kernel
theorem dX8_restore_9 : decode cX8_restore 9 = .ok (.ireturn, 1) := by decide +kernel
theorem dX8_restore_10 : decode cX8_restore 10 = .ok (.aload_n 0, 1) := by decide +kernel
theorem dX8_restore_11 : decode cX8_restore 11 = .ok (.getfield 25, 3) := by decide +kernel
theorem dX8_restore_14 : decode cX8_restore 14 = .ok (.aload_n 0, 1) := by decide +kernel
theorem dX8_restore_15 : decode cX8_restore 15 = .ok (.getfield 29, 3) := by decide +kernel
theorem dX8_restore_18 : decode cX8_restore 18 = .ok (.invokevirtual 209, 3) := by decide +kernel
theorem dX8_restore_21 : decode cX8_restore 21 = .ok (.aload_n 0, 1) := by decide +kernel
theorem dX8_restore_22 : decode cX8_restore 22 = .ok (.getfield 25, 3) := by decide +kernel
theorem dX8_restore_25 : decode cX8_restore 25 = .ok (.getfield 167, 3) := by decide +kernel
theorem dX8_restore_28 : decode cX8_restore 28 = .ok (.ireturn, 1) := by decide +kernel
set_option maxRecDepth 20000 in
theorem ggX8_count_J6_bitCount_0f7a4 : GoodIn wsX8_count wsJ6_bitCount_0f7a4 := goodIn_r _ [17, 18, 19, 20] (by decide +kernel) (by decide +kernel)
set_option maxRecDepth 20000 in
theorem gX8_count_J6_bitCount_0f7a4 : GoodIn wsX8_count (va_wsS RX8 213 yJ6_bitCount_0f7a4 wsJ6_bitCount_0f7a4) := goodIn_app (goodIn_of _ (by decide +kernel)) ggX8_count_J6_bitCount_0f7a4
set_option maxRecDepth 20000 in
theorem ggX8_count_X8_sum : GoodIn wsX8_count wsX8_sum := goodIn_r _ [24] (by decide +kernel) (by decide +kernel)
set_option maxRecDepth 20000 in
theorem gX8_count_X8_sum : GoodIn wsX8_count (va_wsS RX8 218 yX8_sum wsX8_sum) := goodIn_app (goodIn_of _ (by decide +kernel)) ggX8_count_X8_sum
set_option maxRecDepth 20000 in
theorem ggX8_count_X8_hasCave : GoodIn wsX8_count wsX8_hasCave := goodIn_r _ [28, 1, 120, 121, 122, 123, 124, 125, 126, 127, 128, 129, 130, 131, 132] (by decide +kernel) (by decide +kernel)
set_option maxRecDepth 20000 in
theorem gX8_count_X8_hasCave : GoodIn wsX8_count (wsV RX8 158 RX8 yX8_hasCave wsX8_hasCave) := goodIn_app (goodIn_of _ (by decide +kernel)) ggX8_count_X8_hasCave
set_option maxRecDepth 20000 in
theorem ggX8_count_X8_nextDay : GoodIn wsX8_count wsX8_nextDay := goodIn_r _ [32, 33, 34, 2, 35, 3, 4, 36, 37, 38, 39, 40, 41, 42, 43, 44, 45, 46, 47, 48, 49, 50, 51, 52, 23, 53, 54, 55, 56, 57, 58, 59, 60, 61, 62, 63, 64, 65, 66, 67, 68, 69, 70, 71, 72, 73, 74, 75, 76, 77, 78, 79, 80, 81, 82, 83, 84, 85, 86, 87, 88, 89, 90, 91, 92, 93, 94, 95, 96, 97, 98, 99, 100, 101, 102, 103, 104, 105, 106, 107, 108, 109, 110, 111, 112, 113, 114, 115, 116, 117, 118, 120, 121, 122, 123, 124, 125, 126, 127, 128, 129, 130, 131, 132, 133, 134, 135, 136, 137, 138, 139, 140, 141, 144, 145, 146, 147, 148, 149, 150, 151, 152, 153, 154, 155, 156, 157, 158, 159, 160] (by decide +kernel) (by decide +kernel)
set_option maxRecDepth 20000 in
theorem gX8_count_X8_nextDay : GoodIn wsX8_count (wsV RX8 139 RX8 yX8_nextDay wsX8_nextDay) := goodIn_app (goodIn_of _ (by decide +kernel)) ggX8_count_X8_nextDay
set_option maxRecDepth 20000 in
theorem ggX8_count_X8_at : GoodIn wsX8_count wsX8_at := goodIn_r _ [55] (by decide +kernel) (by decide +kernel)
set_option maxRecDepth 20000 in
theorem gX8_count_X8_at : GoodIn wsX8_count (va_wsS RX8 103 yX8_at wsX8_at) := goodIn_app (goodIn_of _ (by decide +kernel)) ggX8_count_X8_at
theorem dX8_count_0 : decode cX8_count 0 = .ok (.iload_n 1, 1) := by decide +kernel
theorem dX8_count_1 : decode cX8_count 1 = .ok (.tableswitch 163 0 10 #[59, 64, 72, 83, 94, 105, 113, 121, 129, 134, 139], 59) := by decide +kernel
theorem dX8_count_60 : decode cX8_count 60 = .ok (.aload_n 0, 1) := by decide +kernel
theorem dX8_count_61 : decode cX8_count 61 = .ok (.getfield 84, 3) := by decide +kernel
theorem dX8_count_64 : decode cX8_count 64 = .ok (.ireturn, 1) := by decide +kernel
theorem dX8_count_65 : decode cX8_count 65 = .ok (.aload_n 0, 1) := by decide +kernel
theorem dX8_count_66 : decode cX8_count 66 = .ok (.getfield 25, 3) := by decide +kernel
theorem dX8_count_69 : decode cX8_count 69 = .ok (.getfield 164, 3) := by decide +kernel
theorem dX8_count_72 : decode cX8_count 72 = .ok (.ireturn, 1) := by decide +kernel
theorem dX8_count_73 : decode cX8_count 73 = .ok (.aload_n 0, 1) := by decide +kernel
theorem dX8_count_74 : decode cX8_count 74 = .ok (.getfield 25, 3) := by decide +kernel
theorem dX8_count_77 : decode cX8_count 77 = .ok (.getfield 114, 3) := by decide +kernel
theorem dX8_count_80 : decode cX8_count 80 = .ok (.invokestatic 213, 3) := by decide +kernel
theorem dX8_count_83 : decode cX8_count 83 = .ok (.ireturn, 1) := by decide +kernel
theorem dX8_count_84 : decode cX8_count 84 = .ok (.aload_n 0, 1) := by decide +kernel
theorem dX8_count_85 : decode cX8_count 85 = .ok (.getfield 25, 3) := by decide +kernel
theorem dX8_count_88 : decode cX8_count 88 = .ok (.getfield 100, 3) := by decide +kernel
theorem dX8_count_91 : decode cX8_count 91 = .ok (.invokestatic 218, 3) := by decide +kernel
theorem dX8_count_94 : decode cX8_count 94 = .ok (.ireturn, 1) := by decide +kernel
theorem dX8_count_95 : decode cX8_count 95 = .ok (.aload_n 0, 1) := by decide +kernel
theorem dX8_count_96 : decode cX8_count 96 = .ok (.getfield 25, 3) := by decide +kernel
theorem dX8_count_99 : decode cX8_count 99 = .ok (.getfield 107, 3) := by decide +kernel
theorem dX8_count_102 : decode cX8_count 102 = .ok (.invokestatic 218, 3) := by decide +kernel
theorem dX8_count_105 : decode cX8_count 105 = .ok (.ireturn, 1) := by decide +kernel
theorem dX8_count_106 : decode cX8_count 106 = .ok (.aload_n 0, 1) := by decide +kernel
theorem dX8_count_107 : decode cX8_count 107 = .ok (.getfield 25, 3) := by decide +kernel
theorem dX8_count_110 : decode cX8_count 110 = .ok (.getfield 167, 3) := by decide +kernel
theorem dX8_count_113 : decode cX8_count 113 = .ok (.ireturn, 1) := by decide +kernel
theorem dX8_count_114 : decode cX8_count 114 = .ok (.aload_n 0, 1) := by decide +kernel
theorem dX8_count_115 : decode cX8_count 115 = .ok (.getfield 25, 3) := by decide +kernel
theorem dX8_count_118 : decode cX8_count 118 = .ok (.getfield 194, 3) := by decide +kernel
theorem dX8_count_121 : decode cX8_count 121 = .ok (.ireturn, 1) := by decide +kernel
theorem dX8_count_122 : decode cX8_count 122 = .ok (.aload_n 0, 1) := by decide +kernel
theorem dX8_count_123 : decode cX8_count 123 = .ok (.getfield 12, 3) := by decide +kernel
theorem dX8_count_126 : decode cX8_count 126 = .ok (.getfield 49, 3) := by decide +kernel
theorem dX8_count_129 : decode cX8_count 129 = .ok (.ireturn, 1) := by decide +kernel
theorem dX8_count_130 : decode cX8_count 130 = .ok (.aload_n 0, 1) := by decide +kernel
theorem dX8_count_131 : decode cX8_count 131 = .ok (.getfield 81, 3) := by decide +kernel
theorem dX8_count_134 : decode cX8_count 134 = .ok (.ireturn, 1) := by decide +kernel
theorem dX8_count_135 : decode cX8_count 135 = .ok (.aload_n 0, 1) := by decide +kernel
theorem dX8_count_136 : decode cX8_count 136 = .ok (.getfield 176, 3) := by decide +kernel
theorem dX8_count_139 : decode cX8_count 139 = .ok (.ireturn, 1) := by decide +kernel
theorem dX8_count_140 : decode cX8_count 140 = .ok (.aload_n 0, 1) := by decide +kernel
theorem dX8_count_141 : decode cX8_count 141 = .ok (.invokevirtual 158, 3) := by decide +kernel
theorem dX8_count_144 : decode cX8_count 144 = .ok (.ifCond .eq 18, 3) := by decide +kernel
theorem dX8_count_147 : decode cX8_count 147 = .ok (.aload_n 0, 1) := by decide +kernel
theorem dX8_count_148 : decode cX8_count 148 = .ok (.invokevirtual 139, 3) := by decide +kernel
theorem dX8_count_151 : decode cX8_count 151 = .ok (.getfield 143, 3) := by decide +kernel
theorem dX8_count_154 : decode cX8_count 154 = .ok (.bipush 8, 2) := by decide +kernel
theorem dX8_count_156 : decode cX8_count 156 = .ok (.invokestatic 103, 3) := by decide +kernel
theorem dX8_count_159 : decode cX8_count 159 = .ok (.goto 4, 3) := by decide +kernel
theorem dX8_count_162 : decode cX8_count 162 = .ok (.iconst 0, 1) := by decide +kernel
theorem dX8_count_163 : decode cX8_count 163 = .ok (.ireturn, 1) := by decide +kernel
theorem dX8_count_164 : decode cX8_count 164 = .ok (.bipush (-102), 2) := by decide +kernel
theorem dX8_count_166 : decode cX8_count 166 = .ok (.ireturn, 1) := by decide +kernel
set_option maxRecDepth 20000 in
theorem ggX8_digest_X8_about : GoodIn wsX8_digest wsX8_about := goodIn_r _ [10, 11, 12, 13, 14, 15, 16, 17, 18, 19, 9, 20, 21, 22, 23, 24, 25, 26, 27, 28, 29, 30, 31, 32, 33, 34, 35, 36, 37, 38, 39, 40, 41, 42, 43, 44, 45, 46, 47, 48, 49, 50, 51, 52, 53, 54, 55, 56, 57, 58, 59, 60, 61, 62, 63, 64, 65, 66, 67, 68, 69, 70, 71, 72, 73, 74, 75, 76, 77, 78, 79, 80, 81, 82, 83, 84, 85, 86, 87, 88, 89, 90, 91, 92, 93, 94, 95, 96, 97, 98, 99, 100, 101, 102, 103, 104, 105, 106, 107, 108, 109, 110, 111, 112, 113, 114, 115, 116, 117, 118, 119, 120, 121, 122, 123, 124, 125, 126, 127, 128, 129, 130, 131, 132, 133, 134, 135, 136, 137, 138, 229, 230, 231, 232, 233, 234, 235, 236, 237, 238, 239, 240, 241, 244, 245, 246, 247, 248, 249, 250, 251, 252, 253, 254, 255, 256, 257, 258, 259, 260, 261, 262, 263, 264, 265, 266, 267, 268, 269] (by decide +kernel) (by decide +kernel)
set_option maxRecDepth 20000 in
theorem gX8_digest_X8_about : GoodIn wsX8_digest (wsV RX8 226 RX8 yX8_about wsX8_about) := goodIn_app (goodIn_of _ (by decide +kernel)) ggX8_digest_X8_about
set_option maxRecDepth 20000 in
theorem ggX8_digest_X8_hasCave : GoodIn wsX8_digest wsX8_hasCave := goodIn_r _ [142, 2, 229, 230, 231, 232, 233, 234, 235, 236, 237, 238, 239, 240, 241] (by decide +kernel) (by decide +kernel)
set_option maxRecDepth 20000 in
theorem gX8_digest_X8_hasCave : GoodIn wsX8_digest (wsV RX8 158 RX8 yX8_hasCave wsX8_hasCave) := goodIn_app (goodIn_of _ (by decide +kernel)) ggX8_digest_X8_hasCave
set_option maxRecDepth 20000 in
theorem ggX8_digest_X8_shift : GoodIn wsX8_digest wsX8_shift := goodIn_r _ [146, 14, 52, 147, 148, 149, 150, 151, 152, 9, 153, 139, 140, 141, 142, 2, 45, 46, 47, 61, 62, 63, 64, 65, 11, 66, 17, 67, 68, 69, 70, 71, 72, 73, 74, 75, 76, 77, 78, 79, 80, 81, 82, 83, 84, 19, 20, 85, 86, 87, 88, 89, 90, 91, 92, 54, 55, 93, 94, 95, 96, 36, 97, 98, 99, 100, 101, 102, 103, 104, 43, 105, 106, 107, 108, 109, 110, 26, 111, 112, 113, 114, 115, 116, 31, 117, 118, 119, 120, 121, 122, 123, 124, 125, 126, 127, 128, 129, 130, 131, 132, 133, 134, 135, 136, 39, 137, 138, 154, 155, 156, 157, 158, 159, 160, 161, 162, 163, 164, 165, 166, 167, 168, 169, 170, 171, 172, 173, 174, 175, 176, 177, 178, 179, 180, 181, 182, 183, 184, 185, 186, 187, 188, 189, 190, 191, 229, 230, 231, 232, 233, 234, 235, 236, 237, 238, 239, 240, 241, 254, 255, 256, 257, 258, 259, 260, 261, 262, 263, 264, 265, 266, 267, 268, 269, 244, 245, 246, 247, 248, 249, 250, 251, 252, 253] (by decide +kernel) (by decide +kernel)
set_option maxRecDepth 20000 in
theorem gX8_digest_X8_shift : GoodIn wsX8_digest (wsV RX8 229 RX8 yX8_shift wsX8_shift) := goodIn_app (goodIn_of _ (by decide +kernel)) ggX8_digest_X8_shift
set_option maxRecDepth 20000 in
theorem ggX8_digest_X8_swaps : GoodIn wsX8_digest wsX8_swaps := goodIn_r _ [195, 196, 14, 52, 158, 139, 140, 141, 9, 142, 2, 61, 62, 63, 64, 65, 11, 66, 17, 67, 68, 69, 70, 71, 72, 73, 74, 75, 76, 77, 78, 79, 80, 81, 82, 83, 84, 46, 47, 19, 20, 85, 86, 87, 88, 89, 90, 91, 92, 54, 55, 93, 94, 95, 96, 36, 97, 98, 99, 100, 101, 102, 103, 104, 43, 105, 106, 107, 108, 109, 110, 26, 111, 112, 113, 114, 115, 116, 31, 117, 118, 119, 120, 121, 122, 123, 124, 125, 126, 127, 128, 129, 130, 131, 132, 133, 134, 135, 136, 39, 137, 138, 159, 160, 161, 197, 198, 199, 200, 45, 166, 201, 202, 203, 204, 263, 264, 265, 266, 267, 268, 269, 229, 230, 231, 232, 233, 234, 235, 236, 237, 238, 239, 240, 241, 254, 255, 256, 257, 258, 259, 260, 261, 262, 244, 245, 246, 247, 248, 249, 250, 251, 252, 253] (by decide +kernel) (by decide +kernel)
set_option maxRecDepth 20000 in
theorem gX8_digest_X8_swaps : GoodIn wsX8_digest (wsV RX8 232 RX8 yX8_swaps wsX8_swaps) := goodIn_app (goodIn_of _ (by decide +kernel)) ggX8_digest_X8_swaps
set_option maxRecDepth 20000 in
theorem ggX8_digest_X4_code : GoodIn wsX8_digest wsX4_code := goodIn_r _ [209, 210, 46, 9, 47, 242, 243] (by decide +kernel) (by decide +kernel)
set_option maxRecDepth 20000 in
theorem gX8_digest_X4_code : GoodIn wsX8_digest (wsV RX8 235 RX4 yX4_code wsX4_code) := goodIn_app (goodIn_of _ (by decide +kernel)) ggX8_digest_X4_code
set_option maxRecDepth 20000 in
theorem ggX8_digest_X8_count : GoodIn wsX8_digest wsX8_count := goodIn_r _ [214, 2, 14, 66, 17, 15, 16, 215, 216, 4, 5, 217, 218, 147, 219, 220, 221, 222, 223, 224, 225, 226, 227, 9, 228, 139, 140, 141, 142, 61, 62, 63, 64, 65, 11, 52, 67, 68, 69, 70, 71, 72, 73, 74, 75, 76, 77, 78, 79, 80, 81, 82, 83, 84, 46, 47, 19, 20, 85, 86, 87, 88, 89, 90, 91, 92, 54, 55, 93, 94, 95, 96, 36, 97, 98, 99, 100, 101, 102, 103, 104, 43, 105, 106, 107, 108, 109, 110, 26, 111, 112, 113, 114, 115, 116, 31, 117, 118, 119, 120, 121, 122, 123, 124, 125, 126, 127, 128, 129, 130, 131, 132, 133, 134, 135, 136, 39, 137, 138, 45, 229, 230, 231, 232, 233, 234, 235, 236, 237, 238, 239, 240, 241, 254, 255, 256, 257, 258, 259, 260, 261, 262, 242, 243, 263, 264, 265, 266, 267, 268, 269, 244, 245, 246, 247, 248, 249, 250, 251, 252, 253] (by decide +kernel) (by decide +kernel)
set_option maxRecDepth 20000 in
theorem gX8_digest_X8_count : GoodIn wsX8_digest (wsV RX8 238 RX8 yX8_count wsX8_count) := goodIn_app (goodIn_of _ (by decide +kernel)) ggX8_digest_X8_count
theorem dX8_digest_0 : decode cX8_digest 0 = .ok (.ldc2_w 222, 3) := by decide +kernel
theorem dX8_digest_3 : decode cX8_digest 3 = .ok (.lstore_n 1, 1) := by decide +kernel
theorem dX8_digest_4 : decode cX8_digest 4 = .ok (.iconst 0, 1) := by decide +kernel
theorem dX8_digest_5 : decode cX8_digest 5 = .ok (.istore_n 3, 1) := by decide +kernel
theorem dX8_digest_6 : decode cX8_digest 6 = .ok (.iload_n 3, 1) := by decide +kernel
theorem dX8_digest_7 : decode cX8_digest 7 = .ok (.aload_n 0, 1) := by decide +kernel
theorem dX8_digest_8 : decode cX8_digest 8 = .ok (.getfield 84, 3) := by decide +kernel
theorem dX8_digest_11 : decode cX8_digest 11 = .ok (.if_icmp .ge 40, 3) := by decide +kernel
theorem dX8_digest_14 : decode cX8_digest 14 = .ok (.iconst 0, 1) := by decide +kernel
theorem dX8_digest_15 : decode cX8_digest 15 = .ok (.istore 4, 2) := by decide +kernel
theorem dX8_digest_17 : decode cX8_digest 17 = .ok (.iload 4, 2) := by decide +kernel
theorem dX8_digest_19 : decode cX8_digest 19 = .ok (.bipush 7, 2) := by decide +kernel
theorem dX8_digest_21 : decode cX8_digest 21 = .ok (.if_icmp .gt 24, 3) := by decide +kernel
theorem dX8_digest_24 : decode cX8_digest 24 = .ok (.ldc2_w 224, 3) := by decide +kernel
theorem dX8_digest_27 : decode cX8_digest 27 = .ok (.lload_n 1, 1) := by decide +kernel
theorem dX8_digest_28 : decode cX8_digest 28 = .ok (.lmul, 1) := by decide +kernel
theorem dX8_digest_29 : decode cX8_digest 29 = .ok (.aload_n 0, 1) := by decide +kernel
theorem dX8_digest_30 : decode cX8_digest 30 = .ok (.iload_n 3, 1) := by decide +kernel
theorem dX8_digest_31 : decode cX8_digest 31 = .ok (.iload 4, 2) := by decide +kernel
theorem dX8_digest_33 : decode cX8_digest 33 = .ok (.invokevirtual 226, 3) := by decide +kernel
theorem dX8_digest_36 : decode cX8_digest 36 = .ok (.i2l, 1) := by decide +kernel
theorem dX8_digest_37 : decode cX8_digest 37 = .ok (.ladd, 1) := by decide +kernel
theorem dX8_digest_38 : decode cX8_digest 38 = .ok (.lstore_n 1, 1) := by decide +kernel
theorem dX8_digest_39 : decode cX8_digest 39 = .ok (.iinc 4 1, 3) := by decide +kernel
theorem dX8_digest_42 : decode cX8_digest 42 = .ok (.goto (-25), 3) := by decide +kernel
theorem dX8_digest_45 : decode cX8_digest 45 = .ok (.iinc 3 1, 3) := by decide +kernel
theorem dX8_digest_48 : decode cX8_digest 48 = .ok (.goto (-42), 3) := by decide +kernel
theorem dX8_digest_51 : decode cX8_digest 51 = .ok (.aload_n 0, 1) := by decide +kernel
theorem dX8_digest_52 : decode cX8_digest 52 = .ok (.invokevirtual 158, 3) := by decide +kernel
theorem dX8_digest_55 : decode cX8_digest 55 = .ok (.ifCond .eq 59, 3) := by decide +kernel
theorem dX8_digest_58 : decode cX8_digest 58 = .ok (.iconst 0, 1) := by decide +kernel
theorem dX8_digest_59 : decode cX8_digest 59 = .ok (.istore_n 3, 1) := by decide +kernel
theorem dX8_digest_60 : decode cX8_digest 60 = .ok (.iload_n 3, 1) := by decide +kernel
theorem dX8_digest_61 : decode cX8_digest 61 = .ok (.bipush 8, 2) := by decide +kernel
theorem dX8_digest_63 : decode cX8_digest 63 = .ok (.if_icmp .ge 39, 3) := by decide +kernel
theorem dX8_digest_66 : decode cX8_digest 66 = .ok (.iconst 0, 1) := by decide +kernel
theorem dX8_digest_67 : decode cX8_digest 67 = .ok (.istore 4, 2) := by decide +kernel
theorem dX8_digest_69 : decode cX8_digest 69 = .ok (.iload 4, 2) := by decide +kernel
theorem dX8_digest_71 : decode cX8_digest 71 = .ok (.iconst 5, 1) := by decide +kernel
theorem dX8_digest_72 : decode cX8_digest 72 = .ok (.if_icmp .gt 24, 3) := by decide +kernel
theorem dX8_digest_75 : decode cX8_digest 75 = .ok (.ldc2_w 224, 3) := by decide +kernel
theorem dX8_digest_78 : decode cX8_digest 78 = .ok (.lload_n 1, 1) := by decide +kernel
theorem dX8_digest_79 : decode cX8_digest 79 = .ok (.lmul, 1) := by decide +kernel
theorem dX8_digest_80 : decode cX8_digest 80 = .ok (.aload_n 0, 1) := by decide +kernel
theorem dX8_digest_81 : decode cX8_digest 81 = .ok (.iload_n 3, 1) := by decide +kernel
theorem dX8_digest_82 : decode cX8_digest 82 = .ok (.iload 4, 2) := by decide +kernel
theorem dX8_digest_84 : decode cX8_digest 84 = .ok (.invokevirtual 229, 3) := by decide +kernel
theorem dX8_digest_87 : decode cX8_digest 87 = .ok (.i2l, 1) := by decide +kernel
theorem dX8_digest_88 : decode cX8_digest 88 = .ok (.ladd, 1) := by decide +kernel
theorem dX8_digest_89 : decode cX8_digest 89 = .ok (.lstore_n 1, 1) := by decide +kernel
theorem dX8_digest_90 : decode cX8_digest 90 = .ok (.iinc 4 1, 3) := by decide +kernel
theorem dX8_digest_93 : decode cX8_digest 93 = .ok (.goto (-24), 3) := by decide +kernel
theorem dX8_digest_96 : decode cX8_digest 96 = .ok (.iinc 3 1, 3) := by decide +kernel
theorem dX8_digest_99 : decode cX8_digest 99 = .ok (.goto (-39), 3) := by decide +kernel
theorem dX8_digest_102 : decode cX8_digest 102 = .ok (.ldc2_w 224, 3) := by decide +kernel
theorem dX8_digest_105 : decode cX8_digest 105 = .ok (.lload_n 1, 1) := by decide +kernel
theorem dX8_digest_106 : decode cX8_digest 106 = .ok (.lmul, 1) := by decide +kernel
theorem dX8_digest_107 : decode cX8_digest 107 = .ok (.aload_n 0, 1) := by decide +kernel
theorem dX8_digest_108 : decode cX8_digest 108 = .ok (.invokevirtual 232, 3) := by decide +kernel
theorem dX8_digest_111 : decode cX8_digest 111 = .ok (.i2l, 1) := by decide +kernel
theorem dX8_digest_112 : decode cX8_digest 112 = .ok (.ladd, 1) := by decide +kernel
theorem dX8_digest_113 : decode cX8_digest 113 = .ok (.lstore_n 1, 1) := by decide +kernel
theorem dX8_digest_114 : decode cX8_digest 114 = .ok (.iconst 0, 1) := by decide +kernel
theorem dX8_digest_115 : decode cX8_digest 115 = .ok (.istore_n 3, 1) := by decide +kernel
theorem dX8_digest_116 : decode cX8_digest 116 = .ok (.iload_n 3, 1) := by decide +kernel
theorem dX8_digest_117 : decode cX8_digest 117 = .ok (.aload_n 0, 1) := by decide +kernel
theorem dX8_digest_118 : decode cX8_digest 118 = .ok (.getfield 12, 3) := by decide +kernel
theorem dX8_digest_121 : decode cX8_digest 121 = .ok (.getfield 49, 3) := by decide +kernel
theorem dX8_digest_124 : decode cX8_digest 124 = .ok (.if_icmp .ge 25, 3) := by decide +kernel
theorem dX8_digest_127 : decode cX8_digest 127 = .ok (.ldc2_w 224, 3) := by decide +kernel
theorem dX8_digest_130 : decode cX8_digest 130 = .ok (.lload_n 1, 1) := by decide +kernel
theorem dX8_digest_131 : decode cX8_digest 131 = .ok (.lmul, 1) := by decide +kernel
theorem dX8_digest_132 : decode cX8_digest 132 = .ok (.aload_n 0, 1) := by decide +kernel
theorem dX8_digest_133 : decode cX8_digest 133 = .ok (.getfield 12, 3) := by decide +kernel
theorem dX8_digest_136 : decode cX8_digest 136 = .ok (.iload_n 3, 1) := by decide +kernel
theorem dX8_digest_137 : decode cX8_digest 137 = .ok (.invokevirtual 235, 3) := by decide +kernel
theorem dX8_digest_140 : decode cX8_digest 140 = .ok (.i2l, 1) := by decide +kernel
theorem dX8_digest_141 : decode cX8_digest 141 = .ok (.ladd, 1) := by decide +kernel
theorem dX8_digest_142 : decode cX8_digest 142 = .ok (.lstore_n 1, 1) := by decide +kernel
theorem dX8_digest_143 : decode cX8_digest 143 = .ok (.iinc 3 1, 3) := by decide +kernel
theorem dX8_digest_146 : decode cX8_digest 146 = .ok (.goto (-30), 3) := by decide +kernel
theorem dX8_digest_149 : decode cX8_digest 149 = .ok (.iconst 0, 1) := by decide +kernel
theorem dX8_digest_150 : decode cX8_digest 150 = .ok (.istore_n 3, 1) := by decide +kernel
theorem dX8_digest_151 : decode cX8_digest 151 = .ok (.iload_n 3, 1) := by decide +kernel
theorem dX8_digest_152 : decode cX8_digest 152 = .ok (.bipush 10, 2) := by decide +kernel
theorem dX8_digest_154 : decode cX8_digest 154 = .ok (.if_icmp .gt 22, 3) := by decide +kernel
theorem dX8_digest_157 : decode cX8_digest 157 = .ok (.ldc2_w 224, 3) := by decide +kernel
theorem dX8_digest_160 : decode cX8_digest 160 = .ok (.lload_n 1, 1) := by decide +kernel
theorem dX8_digest_161 : decode cX8_digest 161 = .ok (.lmul, 1) := by decide +kernel
theorem dX8_digest_162 : decode cX8_digest 162 = .ok (.aload_n 0, 1) := by decide +kernel
theorem dX8_digest_163 : decode cX8_digest 163 = .ok (.iload_n 3, 1) := by decide +kernel
theorem dX8_digest_164 : decode cX8_digest 164 = .ok (.invokevirtual 238, 3) := by decide +kernel
theorem dX8_digest_167 : decode cX8_digest 167 = .ok (.i2l, 1) := by decide +kernel
theorem dX8_digest_168 : decode cX8_digest 168 = .ok (.ladd, 1) := by decide +kernel
theorem dX8_digest_169 : decode cX8_digest 169 = .ok (.lstore_n 1, 1) := by decide +kernel
theorem dX8_digest_170 : decode cX8_digest 170 = .ok (.iinc 3 1, 3) := by decide +kernel
theorem dX8_digest_173 : decode cX8_digest 173 = .ok (.goto (-22), 3) := by decide +kernel
theorem dX8_digest_176 : decode cX8_digest 176 = .ok (.lload_n 1, 1) := by decide +kernel
theorem dX8_digest_177 : decode cX8_digest 177 = .ok (.lreturn, 1) := by decide +kernel
theorem dX8_hasCave_0 : decode cX8_hasCave 0 = .ok (.aload_n 0, 1) := by decide +kernel
theorem dX8_hasCave_1 : decode cX8_hasCave 1 = .ok (.getfield 84, 3) := by decide +kernel
theorem dX8_hasCave_4 : decode cX8_hasCave 4 = .ok (.ifCond .le 7, 3) := by decide +kernel
theorem dX8_hasCave_7 : decode cX8_hasCave 7 = .ok (.iconst 1, 1) := by decide +kernel
theorem dX8_hasCave_8 : decode cX8_hasCave 8 = .ok (.goto 4, 3) := by decide +kernel
theorem dX8_hasCave_11 : decode cX8_hasCave 11 = .ok (.iconst 0, 1) := by decide +kernel
theorem dX8_hasCave_12 : decode cX8_hasCave 12 = .ok (.ireturn, 1) := by decide +kernel
set_option maxRecDepth 20000 in
theorem ggX8_isShift_X8_hasCave : GoodIn wsX8_isShift wsX8_hasCave := goodIn_r _ [5, 6, 7, 8, 9, 10, 11, 12, 13, 14, 15, 16, 17, 18, 19] (by decide +kernel) (by decide +kernel)
set_option maxRecDepth 20000 in
theorem gX8_isShift_X8_hasCave : GoodIn wsX8_isShift (wsV RX8 158 RX8 yX8_hasCave wsX8_hasCave) := goodIn_app (goodIn_of _ (by decide +kernel)) ggX8_isShift_X8_hasCave
theorem dX8_isShift_0 : decode cX8_isShift 0 = .ok (.aload_n 0, 1) := by decide +kernel
theorem dX8_isShift_1 : decode cX8_isShift 1 = .ok (.invokevirtual 158, 3) := by decide +kernel
theorem dX8_isShift_4 : decode cX8_isShift 4 = .ok (.ifCond .eq 17, 3) := by decide +kernel
theorem dX8_isShift_7 : decode cX8_isShift 7 = .ok (.iload_n 1, 1) := by decide +kernel
theorem dX8_isShift_8 : decode cX8_isShift 8 = .ok (.ifCond .lt 13, 3) := by decide +kernel
theorem dX8_isShift_11 : decode cX8_isShift 11 = .ok (.iload_n 1, 1) := by decide +kernel
theorem dX8_isShift_12 : decode cX8_isShift 12 = .ok (.bipush 8, 2) := by decide +kernel
theorem dX8_isShift_14 : decode cX8_isShift 14 = .ok (.if_icmp .ge 7, 3) := by decide +kernel
theorem dX8_isShift_17 : decode cX8_isShift 17 = .ok (.iconst 1, 1) := by decide +kernel
theorem dX8_isShift_18 : decode cX8_isShift 18 = .ok (.goto 4, 3) := by decide +kernel
theorem dX8_isShift_21 : decode cX8_isShift 21 = .ok (.iconst 0, 1) := by decide +kernel
theorem dX8_isShift_22 : decode cX8_isShift 22 = .ok (.ireturn, 1) := by decide +kernel
theorem dX8_isFit_0 : decode cX8_isFit 0 = .ok (.iload_n 0, 1) := by decide +kernel
theorem dX8_isFit_1 : decode cX8_isFit 1 = .ok (.ifCond .lt 13, 3) := by decide +kernel
theorem dX8_isFit_4 : decode cX8_isFit 4 = .ok (.iload_n 0, 1) := by decide +kernel
theorem dX8_isFit_5 : decode cX8_isFit 5 = .ok (.bipush 9, 2) := by decide +kernel
theorem dX8_isFit_7 : decode cX8_isFit 7 = .ok (.if_icmp .gt 7, 3) := by decide +kernel
theorem dX8_isFit_10 : decode cX8_isFit 10 = .ok (.iconst 1, 1) := by decide +kernel
theorem dX8_isFit_11 : decode cX8_isFit 11 = .ok (.goto 4, 3) := by decide +kernel
theorem dX8_isFit_14 : decode cX8_isFit 14 = .ok (.iconst 0, 1) := by decide +kernel
theorem dX8_isFit_15 : decode cX8_isFit 15 = .ok (.ireturn, 1) := by decide +kernel
set_option maxRecDepth 20000 in
theorem ggX8_readFathers_X4_fathers : GoodIn wsX8_readFathers wsX4_fathers := goodIn_r _ [8, 9, 10, 11, 12, 13, 14, 15, 7, 16, 17, 18, 19, 20, 21, 22, 23, 24, 25, 86, 87] (by decide +kernel) (by decide +kernel)
set_option maxRecDepth 20000 in
theorem gX8_readFathers_X4_fathers : GoodIn wsX8_readFathers (wsV RX8 241 RX4 yX4_fathers wsX4_fathers) := goodIn_app (goodIn_of _ (by decide +kernel)) ggX8_readFathers_X4_fathers
set_option maxRecDepth 20000 in
theorem ggX8_readFathers_X4_father : GoodIn wsX8_readFathers wsX4_father := goodIn_r _ [29, 30, 31, 32, 33, 34, 35, 36, 37, 38, 39, 40, 41, 42, 43, 44, 45, 46, 47, 7, 48, 22, 23, 24, 25, 18, 19, 20, 21, 49, 50, 51, 52, 53, 54, 55, 56, 57, 58, 59, 60, 61, 62, 63, 64, 65, 66, 67, 68, 69, 70, 71, 72, 88, 89, 90, 91, 92, 93, 94, 95, 96, 97, 86, 87] (by decide +kernel) (by decide +kernel)
set_option maxRecDepth 20000 in
theorem gX8_readFathers_X4_father : GoodIn wsX8_readFathers (wsV RX8 243 RX4 yX4_father wsX4_father) := goodIn_app (goodIn_of _ (by decide +kernel)) ggX8_readFathers_X4_father
theorem dX8_readFathers_0 : decode cX8_readFathers 0 = .ok (.aload_n 0, 1) := by decide +kernel
theorem dX8_readFathers_1 : decode cX8_readFathers 1 = .ok (.aload_n 0, 1) := by decide +kernel
theorem dX8_readFathers_2 : decode cX8_readFathers 2 = .ok (.getfield 12, 3) := by decide +kernel
theorem dX8_readFathers_5 : decode cX8_readFathers 5 = .ok (.invokevirtual 241, 3) := by decide +kernel
theorem dX8_readFathers_8 : decode cX8_readFathers 8 = .ok (.putfield 84, 3) := by decide +kernel
theorem dX8_readFathers_11 : decode cX8_readFathers 11 = .ok (.iconst 0, 1) := by decide +kernel
theorem dX8_readFathers_12 : decode cX8_readFathers 12 = .ok (.istore_n 1, 1) := by decide +kernel
theorem dX8_readFathers_13 : decode cX8_readFathers 13 = .ok (.iload_n 1, 1) := by decide +kernel
theorem dX8_readFathers_14 : decode cX8_readFathers 14 = .ok (.aload_n 0, 1) := by decide +kernel
theorem dX8_readFathers_15 : decode cX8_readFathers 15 = .ok (.getfield 18, 3) := by decide +kernel
theorem dX8_readFathers_18 : decode cX8_readFathers 18 = .ok (.arraylength, 1) := by decide +kernel
theorem dX8_readFathers_19 : decode cX8_readFathers 19 = .ok (.if_icmp .ge 35, 3) := by decide +kernel
theorem dX8_readFathers_22 : decode cX8_readFathers 22 = .ok (.aload_n 0, 1) := by decide +kernel
theorem dX8_readFathers_23 : decode cX8_readFathers 23 = .ok (.getfield 18, 3) := by decide +kernel
theorem dX8_readFathers_26 : decode cX8_readFathers 26 = .ok (.iload_n 1, 1) := by decide +kernel
theorem dX8_readFathers_27 : decode cX8_readFathers 27 = .ok (.iload_n 1, 1) := by decide +kernel
theorem dX8_readFathers_28 : decode cX8_readFathers 28 = .ok (.aload_n 0, 1) := by decide +kernel
theorem dX8_readFathers_29 : decode cX8_readFathers 29 = .ok (.getfield 84, 3) := by decide +kernel
theorem dX8_readFathers_32 : decode cX8_readFathers 32 = .ok (.if_icmp .ge 14, 3) := by decide +kernel
theorem dX8_readFathers_35 : decode cX8_readFathers 35 = .ok (.aload_n 0, 1) := by decide +kernel
theorem dX8_readFathers_36 : decode cX8_readFathers 36 = .ok (.getfield 12, 3) := by decide +kernel
theorem dX8_readFathers_39 : decode cX8_readFathers 39 = .ok (.iload_n 1, 1) := by decide +kernel
theorem dX8_readFathers_40 : decode cX8_readFathers 40 = .ok (.invokevirtual 243, 3) := by decide +kernel
theorem dX8_readFathers_43 : decode cX8_readFathers 43 = .ok (.goto 4, 3) := by decide +kernel
theorem dX8_readFathers_46 : decode cX8_readFathers 46 = .ok (.aconst_null, 1) := by decide +kernel
theorem dX8_readFathers_47 : decode cX8_readFathers 47 = .ok (.aastore, 1) := by decide +kernel
theorem dX8_readFathers_48 : decode cX8_readFathers 48 = .ok (.iinc 1 1, 3) := by decide +kernel
theorem dX8_readFathers_51 : decode cX8_readFathers 51 = .ok (.goto (-38), 3) := by decide +kernel
theorem dX8_readFathers_54 : decode cX8_readFathers 54 = .ok (.return_, 1) := by decide +kernel
set_option maxRecDepth 20000 in
theorem ggX8_nextDay_X7_live : GoodIn wsX8_nextDay wsX7_live := goodIn_r _ [11, 12, 13, 14, 15, 16, 17, 18, 19, 20, 21, 22, 23, 24, 25, 26, 27, 28, 29, 30, 31, 32, 10, 33, 34, 35, 36, 37, 38, 39, 40, 41, 42, 43, 44, 45, 46, 47, 48, 49, 50, 51, 52, 53, 54, 55, 56, 57, 58, 59, 60, 61, 62, 63, 64, 65, 66, 67, 68, 69, 70, 71, 72, 73, 74, 75, 76, 77, 78, 79, 80, 81, 82, 83, 84, 85, 86, 87, 88, 89, 90, 113, 114, 115, 116, 117, 118, 119, 120, 121, 122, 123, 124, 125, 126, 127, 128, 129] (by decide +kernel) (by decide +kernel)
set_option maxRecDepth 20000 in
theorem gX8_nextDay_X7_live : GoodIn wsX8_nextDay (wsV RX8 203 RX7 yX7_live wsX7_live) := goodIn_app (goodIn_of _ (by decide +kernel)) ggX8_nextDay_X7_live
theorem dX8_nextDay_0 : decode cX8_nextDay 0 = .ok (.aload_n 0, 1) := by decide +kernel
theorem dX8_nextDay_1 : decode cX8_nextDay 1 = .ok (.getfield 35, 3) := by decide +kernel
theorem dX8_nextDay_4 : decode cX8_nextDay 4 = .ok (.aload_n 0, 1) := by decide +kernel
theorem dX8_nextDay_5 : decode cX8_nextDay 5 = .ok (.getfield 18, 3) := by decide +kernel
theorem dX8_nextDay_8 : decode cX8_nextDay 8 = .ok (.aload_n 0, 1) := by decide +kernel
theorem dX8_nextDay_9 : decode cX8_nextDay 9 = .ok (.getfield 25, 3) := by decide +kernel
theorem dX8_nextDay_12 : decode cX8_nextDay 12 = .ok (.getfield 132, 3) := by decide +kernel
theorem dX8_nextDay_15 : decode cX8_nextDay 15 = .ok (.aload_n 0, 1) := by decide +kernel
theorem dX8_nextDay_16 : decode cX8_nextDay 16 = .ok (.getfield 25, 3) := by decide +kernel
theorem dX8_nextDay_19 : decode cX8_nextDay 19 = .ok (.getfield 164, 3) := by decide +kernel
theorem dX8_nextDay_22 : decode cX8_nextDay 22 = .ok (.aload_n 0, 1) := by decide +kernel
theorem dX8_nextDay_23 : decode cX8_nextDay 23 = .ok (.getfield 25, 3) := by decide +kernel
theorem dX8_nextDay_26 : decode cX8_nextDay 26 = .ok (.getfield 114, 3) := by decide +kernel
theorem dX8_nextDay_29 : decode cX8_nextDay 29 = .ok (.invokevirtual 203, 3) := by decide +kernel
theorem dX8_nextDay_32 : decode cX8_nextDay 32 = .ok (.aload_n 0, 1) := by decide +kernel
theorem dX8_nextDay_33 : decode cX8_nextDay 33 = .ok (.getfield 35, 3) := by decide +kernel
theorem dX8_nextDay_36 : decode cX8_nextDay 36 = .ok (.areturn, 1) := by decide +kernel
set_option maxRecDepth 20000 in
theorem ggX8_plannedDay_X7_live : GoodIn wsX8_plannedDay wsX7_live := goodIn_r _ [11, 12, 13, 14, 15, 16, 17, 18, 19, 20, 21, 22, 23, 24, 25, 26, 27, 28, 29, 30, 31, 32, 10, 33, 34, 35, 36, 37, 38, 39, 40, 41, 42, 43, 44, 45, 46, 47, 48, 49, 50, 51, 52, 53, 54, 55, 56, 57, 58, 59, 60, 61, 62, 63, 64, 65, 66, 67, 68, 69, 70, 71, 72, 73, 74, 75, 76, 77, 78, 79, 80, 81, 82, 83, 84, 85, 86, 87, 88, 89, 90, 113, 114, 115, 116, 117, 118, 119, 120, 121, 122, 123, 124, 125, 126, 127, 128, 129] (by decide +kernel) (by decide +kernel)
set_option maxRecDepth 20000 in
theorem gX8_plannedDay_X7_live : GoodIn wsX8_plannedDay (wsV RX8 203 RX7 yX7_live wsX7_live) := goodIn_app (goodIn_of _ (by decide +kernel)) ggX8_plannedDay_X7_live
theorem dX8_plannedDay_0 : decode cX8_plannedDay 0 = .ok (.aload_n 0, 1) := by decide +kernel
theorem dX8_plannedDay_1 : decode cX8_plannedDay 1 = .ok (.getfield 35, 3) := by decide +kernel
theorem dX8_plannedDay_4 : decode cX8_plannedDay 4 = .ok (.aload_n 0, 1) := by decide +kernel
theorem dX8_plannedDay_5 : decode cX8_plannedDay 5 = .ok (.getfield 18, 3) := by decide +kernel
theorem dX8_plannedDay_8 : decode cX8_plannedDay 8 = .ok (.aload_n 0, 1) := by decide +kernel
theorem dX8_plannedDay_9 : decode cX8_plannedDay 9 = .ok (.getfield 39, 3) := by decide +kernel
theorem dX8_plannedDay_12 : decode cX8_plannedDay 12 = .ok (.aload_n 0, 1) := by decide +kernel
theorem dX8_plannedDay_13 : decode cX8_plannedDay 13 = .ok (.getfield 25, 3) := by decide +kernel
theorem dX8_plannedDay_16 : decode cX8_plannedDay 16 = .ok (.getfield 164, 3) := by decide +kernel
theorem dX8_plannedDay_19 : decode cX8_plannedDay 19 = .ok (.aload_n 0, 1) := by decide +kernel
theorem dX8_plannedDay_20 : decode cX8_plannedDay 20 = .ok (.getfield 25, 3) := by decide +kernel
theorem dX8_plannedDay_23 : decode cX8_plannedDay 23 = .ok (.getfield 114, 3) := by decide +kernel
theorem dX8_plannedDay_26 : decode cX8_plannedDay 26 = .ok (.invokevirtual 203, 3) := by decide +kernel
theorem dX8_plannedDay_29 : decode cX8_plannedDay 29 = .ok (.aload_n 0, 1) := by decide +kernel
theorem dX8_plannedDay_30 : decode cX8_plannedDay 30 = .ok (.getfield 35, 3) := by decide +kernel
theorem dX8_plannedDay_33 : decode cX8_plannedDay 33 = .ok (.areturn, 1) := by decide +kernel
set_option maxRecDepth 20000 in
theorem ggX8_shiftsOf_X8_at : GoodIn wsX8_shiftsOf wsX8_at := goodIn_r _ [6] (by decide +kernel) (by decide +kernel)
