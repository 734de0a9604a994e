set_option maxRecDepth 20000 in
theorem gX8_letter_X4_add : GoodIn wsX8_letter (wsV RX8 53 RX4 yX4_add wsX4_add) := goodIn_app (goodIn_of _ (by decide +kernel)) ggX8_letter_X4_add
theorem dX8_letter_0 : decode cX8_letter 0 = .ok (.iload_n 1, 1) := by decide +kernel
theorem dX8_letter_1 : decode cX8_letter 1 = .ok (.bipush 32, 2) := by decide +kernel
theorem dX8_letter_3 : decode cX8_letter 3 = .ok (.if_icmp .lt 9, 3) := by decide +kernel
theorem dX8_letter_6 : decode cX8_letter 6 = .ok (.iload_n 1, 1) := by decide +kernel
theorem dX8_letter_7 : decode cX8_letter 7 = .ok (.bipush 126, 2) := by decide +kernel
theorem dX8_letter_9 : decode cX8_letter 9 = .ok (.if_icmp .le 6, 3) := by decide +kernel
theorem dX8_letter_12 : decode cX8_letter 12 = .ok (.bipush (-102), 2) := by decide +kernel
theorem dX8_letter_14 : decode cX8_letter 14 = .ok (.ireturn, 1) := by decide +kernel
theorem dX8_letter_15 : decode cX8_letter 15 = .ok (.aload_n 0, 1) := by decide +kernel
theorem dX8_letter_16 : decode cX8_letter 16 = .ok (.getfield 12, 3) := by decide +kernel
theorem dX8_letter_19 : decode cX8_letter 19 = .ok (.getfield 49, 3) := by decide +kernel
theorem dX8_letter_22 : decode cX8_letter 22 = .ok (.bipush 18, 2) := by decide +kernel
theorem dX8_letter_24 : decode cX8_letter 24 = .ok (.if_icmp .lt 6, 3) := by decide +kernel
theorem dX8_letter_27 : decode cX8_letter 27 = .ok (.bipush (-104), 2) := by decide +kernel
theorem dX8_letter_29 : decode cX8_letter 29 = .ok (.ireturn, 1) := by decide +kernel
theorem dX8_letter_30 : decode cX8_letter 30 = .ok (.aload_n 0, 1) := by decide +kernel
theorem dX8_letter_31 : decode cX8_letter 31 = .ok (.getfield 12, 3) := by decide +kernel
theorem dX8_letter_34 : decode cX8_letter 34 = .ok (.iload_n 1, 1) := by decide +kernel
theorem dX8_letter_35 : decode cX8_letter 35 = .ok (.invokevirtual 53, 3) := by decide +kernel
theorem dX8_letter_38 : decode cX8_letter 38 = .ok (.aload_n 0, 1) := by decide +kernel
theorem dX8_letter_39 : decode cX8_letter 39 = .ok (.getfield 12, 3) := by decide +kernel
theorem dX8_letter_42 : decode cX8_letter 42 = .ok (.getfield 49, 3) := by decide +kernel
theorem dX8_letter_45 : decode cX8_letter 45 = .ok (.ireturn, 1) := by decide +kernel
set_option maxRecDepth 20000 in
theorem ggX8_blank_X4_clear : GoodIn wsX8_blank wsX4_clear := goodIn_r _ [7, 8, 22, 23] (by decide +kernel) (by decide +kernel)
set_option maxRecDepth 20000 in
theorem gX8_blank_X4_clear : GoodIn wsX8_blank (wsV RX8 57 RX4 yX4_clear wsX4_clear) := goodIn_app (goodIn_of _ (by decide +kernel)) ggX8_blank_X4_clear
theorem dX8_blank_0 : decode cX8_blank 0 = .ok (.aload_n 0, 1) := by decide +kernel
theorem dX8_blank_1 : decode cX8_blank 1 = .ok (.getfield 12, 3) := by decide +kernel
theorem dX8_blank_4 : decode cX8_blank 4 = .ok (.getfield 49, 3) := by decide +kernel
theorem dX8_blank_7 : decode cX8_blank 7 = .ok (.istore_n 1, 1) := by decide +kernel
theorem dX8_blank_8 : decode cX8_blank 8 = .ok (.aload_n 0, 1) := by decide +kernel
theorem dX8_blank_9 : decode cX8_blank 9 = .ok (.getfield 12, 3) := by decide +kernel
theorem dX8_blank_12 : decode cX8_blank 12 = .ok (.invokevirtual 57, 3) := by decide +kernel
theorem dX8_blank_15 : decode cX8_blank 15 = .ok (.iload_n 1, 1) := by decide +kernel
theorem dX8_blank_16 : decode cX8_blank 16 = .ok (.ireturn, 1) := by decide +kernel
set_option maxRecDepth 20000 in
theorem ggX8_fault_X4_rightLetters : GoodIn wsX8_fault wsX4_rightLetters := goodIn_r _ [6, 7, 8, 9, 10, 5, 11, 12, 13, 14, 15, 16, 17, 18, 19, 20, 21, 22, 23, 24, 25, 26, 27, 28, 29, 30, 31, 32, 33, 34, 35, 36, 37, 51, 52] (by decide +kernel) (by decide +kernel)
set_option maxRecDepth 20000 in
theorem gX8_fault_X4_rightLetters : GoodIn wsX8_fault (wsV RX8 60 RX4 yX4_rightLetters wsX4_rightLetters) := goodIn_app (goodIn_of _ (by decide +kernel)) ggX8_fault_X4_rightLetters
theorem dX8_fault_0 : decode cX8_fault 0 = .ok (.aload_n 0, 1) := by decide +kernel
theorem dX8_fault_1 : decode cX8_fault 1 = .ok (.getfield 12, 3) := by decide +kernel
theorem dX8_fault_4 : decode cX8_fault 4 = .ok (.invokevirtual 60, 3) := by decide +kernel
theorem dX8_fault_7 : decode cX8_fault 7 = .ok (.ireturn, 1) := by decide +kernel
set_option maxRecDepth 20000 in
theorem ggX8_cave_X4_isWhole : GoodIn wsX8_cave wsX4_isWhole := goodIn_r _ [10, 11, 12, 13, 14, 9, 15, 16, 17, 18, 19, 20, 21, 22, 23, 24, 25, 26, 27, 28, 29, 30, 31, 32, 33, 34, 35, 36, 37, 38, 39, 40, 41, 42, 43, 44, 45, 137, 138] (by decide +kernel) (by decide +kernel)
set_option maxRecDepth 20000 in
theorem gX8_cave_X4_isWhole : GoodIn wsX8_cave (wsV RX8 64 RX4 yX4_isWhole wsX4_isWhole) := goodIn_app (goodIn_of _ (by decide +kernel)) ggX8_cave_X4_isWhole
set_option maxRecDepth 20000 in
theorem ggX8_cave_X8_readFathers : GoodIn wsX8_cave wsX8_readFathers := goodIn_r _ [49, 1, 5, 50, 51, 52, 53, 9, 54, 55, 56, 57, 58, 12, 13, 14, 15, 11, 16, 17, 18, 19, 20, 21, 22, 23, 59, 60, 61, 62, 63, 64, 65, 66, 67, 68, 69, 70, 71, 72, 73, 74, 75, 76, 77, 36, 37, 38, 39, 78, 79, 80, 81, 82, 83, 84, 85, 86, 87, 88, 89, 90, 91, 92, 93, 94, 95, 96, 97, 98, 99, 100, 101, 124, 125, 126, 127, 128, 129, 130, 131, 132, 133, 134, 135, 136, 137, 138, 139, 140, 141, 142, 143, 144, 145, 146, 147, 148] (by decide +kernel) (by decide +kernel)
set_option maxRecDepth 20000 in
theorem gX8_cave_X8_readFathers : GoodIn wsX8_cave (wsV RX8 68 RX8 yX8_readFathers wsX8_readFathers) := goodIn_app (goodIn_of _ (by decide +kernel)) ggX8_cave_X8_readFathers
set_option maxRecDepth 20000 in
theorem ggX8_cave_X4_fit : GoodIn wsX8_cave wsX4_fit := goodIn_r _ [105, 12, 13, 14, 9, 15, 11, 16, 17, 18, 19, 20, 21, 22, 23, 36, 37, 38, 39, 137, 138] (by decide +kernel) (by decide +kernel)
set_option maxRecDepth 20000 in
theorem gX8_cave_X4_fit : GoodIn wsX8_cave (wsV RX8 71 RX4 yX4_fit wsX4_fit) := goodIn_app (goodIn_of _ (by decide +kernel)) ggX8_cave_X4_fit
set_option maxRecDepth 20000 in
theorem ggX8_cave_X3_begin : GoodIn wsX8_cave wsX3_begin := goodIn_r _ [110, 111, 112, 113, 114, 115, 116, 117, 118, 22, 119, 149, 150, 151, 152, 153, 154, 155, 156, 157] (by decide +kernel) (by decide +kernel)
set_option maxRecDepth 20000 in
theorem gX8_cave_X3_begin : GoodIn wsX8_cave (wsV RX8 74 RX3 yX3_begin wsX3_begin) := goodIn_app (goodIn_of _ (by decide +kernel)) ggX8_cave_X3_begin
set_option maxRecDepth 20000 in
theorem ggX8_cave_X4_clear : GoodIn wsX8_cave wsX4_clear := goodIn_r _ [123, 11, 137, 138] (by decide +kernel) (by decide +kernel)
set_option maxRecDepth 20000 in
theorem gX8_cave_X4_clear : GoodIn wsX8_cave (wsV RX8 57 RX4 yX4_clear wsX4_clear) := goodIn_app (goodIn_of _ (by decide +kernel)) ggX8_cave_X4_clear
theorem dX8_cave_0 : decode cX8_cave 0 = .ok (.aload_n 0, 1) := by decide +kernel
theorem dX8_cave_1 : decode cX8_cave 1 = .ok (.getfield 12, 3) := by decide +kernel
theorem dX8_cave_4 : decode cX8_cave 4 = .ok (.invokevirtual 64, 3) := by decide +kernel
theorem dX8_cave_7 : decode cX8_cave 7 = .ok (.ifCond .ne 6, 3) := by decide +kernel
theorem dX8_cave_10 : decode cX8_cave 10 = .ok (.bipush (-103), 2) := by decide +kernel
theorem dX8_cave_12 : decode cX8_cave 12 = .ok (.ireturn, 1) := by decide +kernel
theorem dX8_cave_13 : decode cX8_cave 13 = .ok (.aload_n 0, 1) := by decide +kernel
theorem dX8_cave_14 : decode cX8_cave 14 = .ok (.invokevirtual 68, 3) := by decide +kernel
theorem dX8_cave_17 : decode cX8_cave 17 = .ok (.aload_n 0, 1) := by decide +kernel
theorem dX8_cave_18 : decode cX8_cave 18 = .ok (.getfield 25, 3) := by decide +kernel
theorem dX8_cave_21 : decode cX8_cave 21 = .ok (.aload_n 0, 1) := by decide +kernel
theorem dX8_cave_22 : decode cX8_cave 22 = .ok (.getfield 12, 3) := by decide +kernel
theorem dX8_cave_25 : decode cX8_cave 25 = .ok (.invokevirtual 71, 3) := by decide +kernel
theorem dX8_cave_28 : decode cX8_cave 28 = .ok (.invokevirtual 74, 3) := by decide +kernel
theorem dX8_cave_31 : decode cX8_cave 31 = .ok (.aload_n 0, 1) := by decide +kernel
theorem dX8_cave_32 : decode cX8_cave 32 = .ok (.getfield 12, 3) := by decide +kernel
theorem dX8_cave_35 : decode cX8_cave 35 = .ok (.invokevirtual 57, 3) := by decide +kernel
theorem dX8_cave_38 : decode cX8_cave 38 = .ok (.aload_n 0, 1) := by decide +kernel
theorem dX8_cave_39 : decode cX8_cave 39 = .ok (.iconst 0, 1) := by decide +kernel
theorem dX8_cave_40 : decode cX8_cave 40 = .ok (.putfield 77, 3) := by decide +kernel
theorem dX8_cave_43 : decode cX8_cave 43 = .ok (.aload_n 0, 1) := by decide +kernel
theorem dX8_cave_44 : decode cX8_cave 44 = .ok (.dup, 1) := by decide +kernel
theorem dX8_cave_45 : decode cX8_cave 45 = .ok (.getfield 81, 3) := by decide +kernel
theorem dX8_cave_48 : decode cX8_cave 48 = .ok (.iconst 1, 1) := by decide +kernel
theorem dX8_cave_49 : decode cX8_cave 49 = .ok (.iadd, 1) := by decide +kernel
theorem dX8_cave_50 : decode cX8_cave 50 = .ok (.putfield 81, 3) := by decide +kernel
theorem dX8_cave_53 : decode cX8_cave 53 = .ok (.aload_n 0, 1) := by decide +kernel
theorem dX8_cave_54 : decode cX8_cave 54 = .ok (.getfield 84, 3) := by decide +kernel
theorem dX8_cave_57 : decode cX8_cave 57 = .ok (.ireturn, 1) := by decide +kernel
set_option maxRecDepth 20000 in
theorem ggX8_about_X8_fatherAt : GoodIn wsX8_about wsX8_fatherAt := goodIn_r _ [11] (by decide +kernel) (by decide +kernel)
set_option maxRecDepth 20000 in
theorem gX8_about_X8_fatherAt : GoodIn wsX8_about (va_wsS RX8 87 yX8_fatherAt wsX8_fatherAt) := goodIn_app (goodIn_of _ (by decide +kernel)) ggX8_about_X8_fatherAt
set_option maxRecDepth 20000 in
theorem ggX8_about_X0_kind : GoodIn wsX8_about wsX0_kind := goodIn_r _ [18] (by decide +kernel) (by decide +kernel)
set_option maxRecDepth 20000 in
theorem gX8_about_X0_kind_u91X0 : GoodIn wsX8_about (va_wsO RX8 91 RX0 "RotaFathers$Father" ⟨"RotaFathers$Father", "kind", "()I"⟩ yX0_kind wsX0_kind) := goodIn_app (goodIn_of _ (by decide +kernel)) ggX8_about_X0_kind
set_option maxRecDepth 20000 in
theorem ggX8_about_X1_kind : GoodIn wsX8_about wsX1_kind := goodIn_r _ [23] (by decide +kernel) (by decide +kernel)
set_option maxRecDepth 20000 in
theorem gX8_about_X1_kind_u91X1 : GoodIn wsX8_about (va_wsO RX8 91 RX1 "RotaFathers$Father" ⟨"RotaFathers$Father", "kind", "()I"⟩ yX1_kind wsX1_kind) := goodIn_app (goodIn_of _ (by decide +kernel)) ggX8_about_X1_kind
set_option maxRecDepth 20000 in
theorem ggX8_about_X2_kind : GoodIn wsX8_about wsX2_kind := goodIn_r _ [19] (by decide +kernel) (by decide +kernel)
set_option maxRecDepth 20000 in
theorem gX8_about_X2_kind : GoodIn wsX8_about (wsV RX8 91 RX2 yX2_kind wsX2_kind) := goodIn_app (goodIn_of _ (by decide +kernel)) ggX8_about_X2_kind
set_option maxRecDepth 20000 in
theorem ggX8_about_X5_kind : GoodIn wsX8_about wsX5_kind := goodIn_r _ [31] (by decide +kernel) (by decide +kernel)
set_option maxRecDepth 20000 in
theorem gX8_about_X5_kind_u91X5 : GoodIn wsX8_about (va_wsO RX8 91 RX5 "RotaFathers$Father" ⟨"RotaFathers$Father", "kind", "()I"⟩ yX5_kind wsX5_kind) := goodIn_app (goodIn_of _ (by decide +kernel)) ggX8_about_X5_kind
set_option maxRecDepth 20000 in
theorem ggX8_about_X6_kind : GoodIn wsX8_about wsX6_kind := goodIn_r _ [35] (by decide +kernel) (by decide +kernel)
set_option maxRecDepth 20000 in
theorem gX8_about_X6_kind_u91X6 : GoodIn wsX8_about (va_wsO RX8 91 RX6 "RotaFathers$Father" ⟨"RotaFathers$Father", "kind", "()I"⟩ yX6_kind wsX6_kind) := goodIn_app (goodIn_of _ (by decide +kernel)) ggX8_about_X6_kind
set_option maxRecDepth 20000 in
theorem ggX8_about_X8_at : GoodIn wsX8_about wsX8_at := goodIn_r _ [38] (by decide +kernel) (by decide +kernel)
set_option maxRecDepth 20000 in
theorem gX8_about_X8_at : GoodIn wsX8_about (va_wsS RX8 103 yX8_at wsX8_at) := goodIn_app (goodIn_of _ (by decide +kernel)) ggX8_about_X8_at
set_option maxRecDepth 20000 in
theorem ggX8_about_X8_shiftsOf : GoodIn wsX8_about wsX8_shiftsOf := goodIn_r _ [42, 4, 43, 36, 37, 10, 38, 130, 131, 132, 133, 134, 135, 136, 137, 138, 139, 140, 141, 142, 153, 154, 155, 156, 157, 158, 159, 160, 161] (by decide +kernel) (by decide +kernel)
set_option maxRecDepth 20000 in
theorem gX8_about_X8_shiftsOf : GoodIn wsX8_about (wsV RX8 110 RX8 yX8_shiftsOf wsX8_shiftsOf) := goodIn_app (goodIn_of _ (by decide +kernel)) ggX8_about_X8_shiftsOf
set_option maxRecDepth 20000 in
theorem ggX8_about_X8_knows : GoodIn wsX8_about wsX8_knows := goodIn_r _ [46] (by decide +kernel) (by decide +kernel)
set_option maxRecDepth 20000 in
theorem gX8_about_X8_knows : GoodIn wsX8_about (va_wsS RX8 117 yX8_knows wsX8_knows) := goodIn_app (goodIn_of _ (by decide +kernel)) ggX8_about_X8_knows
set_option maxRecDepth 20000 in
theorem ggX8_about_X8_nextMeritOf : GoodIn wsX8_about wsX8_nextMeritOf := goodIn_r _ [50, 4, 43, 51, 52, 53, 54, 10, 55, 56, 1, 57, 7, 58, 59, 60, 61, 62, 63, 64, 65, 66, 67, 68, 69, 70, 71, 72, 73, 74, 75, 37, 38, 9, 11, 76, 77, 78, 79, 80, 81, 82, 83, 45, 46, 84, 85, 86, 87, 27, 88, 89, 90, 91, 92, 93, 94, 95, 34, 96, 97, 98, 99, 100, 101, 17, 102, 103, 104, 105, 106, 107, 22, 108, 109, 110, 111, 112, 113, 114, 115, 116, 117, 118, 119, 120, 121, 122, 123, 124, 125, 126, 127, 30, 128, 129, 36, 130, 131, 132, 133, 134, 135, 136, 137, 138, 139, 140, 141, 142, 153, 154, 155, 156, 157, 158, 159, 160, 161, 162, 163, 164, 165, 166, 167, 168, 143, 144, 145, 146, 147, 148, 149, 150, 151, 152] (by decide +kernel) (by decide +kernel)
set_option maxRecDepth 20000 in
theorem gX8_about_X8_nextMeritOf : GoodIn wsX8_about (wsV RX8 121 RX8 yX8_nextMeritOf wsX8_nextMeritOf) := goodIn_app (goodIn_of _ (by decide +kernel)) ggX8_about_X8_nextMeritOf
theorem dX8_about_0 : decode cX8_about 0 = .ok (.aload_n 0, 1) := by decide +kernel
theorem dX8_about_1 : decode cX8_about 1 = .ok (.getfield 18, 3) := by decide +kernel
theorem dX8_about_4 : decode cX8_about 4 = .ok (.iload_n 1, 1) := by decide +kernel
theorem dX8_about_5 : decode cX8_about 5 = .ok (.invokestatic 87, 3) := by decide +kernel
theorem dX8_about_8 : decode cX8_about 8 = .ok (.astore_n 3, 1) := by decide +kernel
theorem dX8_about_9 : decode cX8_about 9 = .ok (.aload_n 3, 1) := by decide +kernel
theorem dX8_about_10 : decode cX8_about 10 = .ok (.ifnonnull 6, 3) := by decide +kernel
theorem dX8_about_13 : decode cX8_about 13 = .ok (.bipush (-101), 2) := by decide +kernel
theorem dX8_about_15 : decode cX8_about 15 = .ok (.ireturn, 1) := by decide +kernel
theorem dX8_about_16 : decode cX8_about 16 = .ok (.iload_n 2, 1) := by decide +kernel
theorem dX8_about_17 : decode cX8_about 17 = .ok (.tableswitch 121 0 7 #[47, 52, 57, 62, 74, 86, 92, 115], 47) := by decide +kernel
theorem dX8_about_64 : decode cX8_about 64 = .ok (.aload_n 3, 1) := by decide +kernel
theorem dX8_about_65 : decode cX8_about 65 = .ok (.invokevirtual 91, 3) := by decide +kernel
theorem dX8_about_68 : decode cX8_about 68 = .ok (.ireturn, 1) := by decide +kernel
theorem dX8_about_69 : decode cX8_about 69 = .ok (.aload_n 3, 1) := by decide +kernel
theorem dX8_about_70 : decode cX8_about 70 = .ok (.getfield 94, 3) := by decide +kernel
theorem dX8_about_73 : decode cX8_about 73 = .ok (.ireturn, 1) := by decide +kernel
theorem dX8_about_74 : decode cX8_about 74 = .ok (.aload_n 3, 1) := by decide +kernel
theorem dX8_about_75 : decode cX8_about 75 = .ok (.getfield 97, 3) := by decide +kernel
theorem dX8_about_78 : decode cX8_about 78 = .ok (.ireturn, 1) := by decide +kernel
theorem dX8_about_79 : decode cX8_about 79 = .ok (.aload_n 0, 1) := by decide +kernel
theorem dX8_about_80 : decode cX8_about 80 = .ok (.getfield 25, 3) := by decide +kernel
theorem dX8_about_83 : decode cX8_about 83 = .ok (.getfield 100, 3) := by decide +kernel
theorem dX8_about_86 : decode cX8_about 86 = .ok (.iload_n 1, 1) := by decide +kernel
theorem dX8_about_87 : decode cX8_about 87 = .ok (.invokestatic 103, 3) := by decide +kernel
theorem dX8_about_90 : decode cX8_about 90 = .ok (.ireturn, 1) := by decide +kernel
theorem dX8_about_91 : decode cX8_about 91 = .ok (.aload_n 0, 1) := by decide +kernel
theorem dX8_about_92 : decode cX8_about 92 = .ok (.getfield 25, 3) := by decide +kernel
theorem dX8_about_95 : decode cX8_about 95 = .ok (.getfield 107, 3) := by decide +kernel
theorem dX8_about_98 : decode cX8_about 98 = .ok (.iload_n 1, 1) := by decide +kernel
theorem dX8_about_99 : decode cX8_about 99 = .ok (.invokestatic 103, 3) := by decide +kernel
theorem dX8_about_102 : decode cX8_about 102 = .ok (.ireturn, 1) := by decide +kernel
theorem dX8_about_103 : decode cX8_about 103 = .ok (.aload_n 0, 1) := by decide +kernel
theorem dX8_about_104 : decode cX8_about 104 = .ok (.iload_n 1, 1) := by decide +kernel
theorem dX8_about_105 : decode cX8_about 105 = .ok (.invokevirtual 110, 3) := by decide +kernel
theorem dX8_about_108 : decode cX8_about 108 = .ok (.ireturn, 1) := by decide +kernel
theorem dX8_about_109 : decode cX8_about 109 = .ok (.aload_n 0, 1) := by decide +kernel
theorem dX8_about_110 : decode cX8_about 110 = .ok (.getfield 25, 3) := by decide +kernel
theorem dX8_about_113 : decode cX8_about 113 = .ok (.getfield 114, 3) := by decide +kernel
theorem dX8_about_116 : decode cX8_about 116 = .ok (.aload_n 3, 1) := by decide +kernel
theorem dX8_about_117 : decode cX8_about 117 = .ok (.getfield 94, 3) := by decide +kernel
theorem dX8_about_120 : decode cX8_about 120 = .ok (.invokestatic 117, 3) := by decide +kernel
theorem dX8_about_123 : decode cX8_about 123 = .ok (.ifCond .eq 7, 3) := by decide +kernel
theorem dX8_about_126 : decode cX8_about 126 = .ok (.iconst 1, 1) := by decide +kernel
theorem dX8_about_127 : decode cX8_about 127 = .ok (.goto 4, 3) := by decide +kernel
theorem dX8_about_130 : decode cX8_about 130 = .ok (.iconst 0, 1) := by decide +kernel
theorem dX8_about_131 : decode cX8_about 131 = .ok (.ireturn, 1) := by decide +kernel
theorem dX8_about_132 : decode cX8_about 132 = .ok (.aload_n 0, 1) := by decide +kernel
theorem dX8_about_133 : decode cX8_about 133 = .ok (.iload_n 1, 1) := by decide +kernel
theorem dX8_about_134 : decode cX8_about 134 = .ok (.invokevirtual 121, 3) := by decide +kernel
theorem dX8_about_137 : decode cX8_about 137 = .ok (.ireturn, 1) := by decide +kernel
theorem dX8_about_138 : decode cX8_about 138 = .ok (.bipush (-102), 2) := by decide +kernel
theorem dX8_about_140 : decode cX8_about 140 = .ok (.ireturn, 1) := by decide +kernel
set_option maxRecDepth 20000 in
theorem ggX8_as_X8_fatherAt : GoodIn wsX8_as wsX8_fatherAt := goodIn_r _ [5] (by decide +kernel) (by decide +kernel)
set_option maxRecDepth 20000 in
theorem gX8_as_X8_fatherAt : GoodIn wsX8_as (va_wsS RX8 87 yX8_fatherAt wsX8_fatherAt) := goodIn_app (goodIn_of _ (by decide +kernel)) ggX8_as_X8_fatherAt
set_option maxRecDepth 20000 in
theorem ggX8_as_X8_isOfKind : GoodIn wsX8_as wsX8_isOfKind := goodIn_r _ [8, 9, 10, 11, 12] (by decide +kernel) (by decide +kernel)
set_option maxRecDepth 20000 in
theorem gX8_as_X8_isOfKind : GoodIn wsX8_as (va_wsS RX8 124 yX8_isOfKind wsX8_isOfKind) := goodIn_app (goodIn_of _ (by decide +kernel)) ggX8_as_X8_isOfKind
theorem dX8_as_0 : decode cX8_as 0 = .ok (.aload_n 0, 1) := by decide +kernel
theorem dX8_as_1 : decode cX8_as 1 = .ok (.getfield 18, 3) := by decide +kernel
theorem dX8_as_4 : decode cX8_as 4 = .ok (.iload_n 1, 1) := by decide +kernel
theorem dX8_as_5 : decode cX8_as 5 = .ok (.invokestatic 87, 3) := by decide +kernel
theorem dX8_as_8 : decode cX8_as 8 = .ok (.astore_n 3, 1) := by decide +kernel
theorem dX8_as_9 : decode cX8_as 9 = .ok (.aload_n 3, 1) := by decide +kernel
theorem dX8_as_10 : decode cX8_as 10 = .ok (.ifnonnull 6, 3) := by decide +kernel
theorem dX8_as_13 : decode cX8_as 13 = .ok (.bipush (-101), 2) := by decide +kernel
theorem dX8_as_15 : decode cX8_as 15 = .ok (.ireturn, 1) := by decide +kernel
theorem dX8_as_16 : decode cX8_as 16 = .ok (.iload_n 2, 1) := by decide +kernel
theorem dX8_as_17 : decode cX8_as 17 = .ok (.ifCond .lt 8, 3) := by decide +kernel
theorem dX8_as_20 : decode cX8_as 20 = .ok (.iload_n 2, 1) := by decide +kernel
theorem dX8_as_21 : decode cX8_as 21 = .ok (.iconst 4, 1) := by decide +kernel
theorem dX8_as_22 : decode cX8_as 22 = .ok (.if_icmp .le 6, 3) := by decide +kernel
theorem dX8_as_25 : decode cX8_as 25 = .ok (.bipush (-102), 2) := by decide +kernel
theorem dX8_as_27 : decode cX8_as 27 = .ok (.ireturn, 1) := by decide +kernel
theorem dX8_as_28 : decode cX8_as 28 = .ok (.aload_n 3, 1) := by decide +kernel
theorem dX8_as_29 : decode cX8_as 29 = .ok (.iload_n 2, 1) := by decide +kernel
theorem dX8_as_30 : decode cX8_as 30 = .ok (.invokestatic 124, 3) := by decide +kernel
theorem dX8_as_33 : decode cX8_as 33 = .ok (.ifCond .eq 7, 3) := by decide +kernel
theorem dX8_as_36 : decode cX8_as 36 = .ok (.iload_n 1, 1) := by decide +kernel
theorem dX8_as_37 : decode cX8_as 37 = .ok (.goto 4, 3) := by decide +kernel
theorem dX8_as_40 : decode cX8_as 40 = .ok (.iconst (-1), 1) := by decide +kernel
theorem dX8_as_41 : decode cX8_as 41 = .ok (.ireturn, 1) := by decide +kernel
set_option maxRecDepth 20000 in
theorem ggX8_rota_X8_isShift : GoodIn wsX8_rota wsX8_isShift := goodIn_r _ [8, 9, 10, 11, 7, 12, 13, 23, 24, 25, 26, 27, 28, 29, 30, 31, 32, 33, 34, 35] (by decide +kernel) (by decide +kernel)
set_option maxRecDepth 20000 in
theorem gX8_rota_X8_isShift : GoodIn wsX8_rota (wsV RX8 128 RX8 yX8_isShift wsX8_isShift) := goodIn_app (goodIn_of _ (by decide +kernel)) ggX8_rota_X8_isShift
set_option maxRecDepth 20000 in
theorem ggX8_rota_X8_fatherAt : GoodIn wsX8_rota wsX8_fatherAt := goodIn_r _ [16] (by decide +kernel) (by decide +kernel)
set_option maxRecDepth 20000 in
theorem gX8_rota_X8_fatherAt : GoodIn wsX8_rota (va_wsS RX8 87 yX8_fatherAt wsX8_fatherAt) := goodIn_app (goodIn_of _ (by decide +kernel)) ggX8_rota_X8_fatherAt
set_option maxRecDepth 20000 in
theorem ggX8_rota_X8_at : GoodIn wsX8_rota wsX8_at := goodIn_r _ [19] (by decide +kernel) (by decide +kernel)
set_option maxRecDepth 20000 in
theorem gX8_rota_X8_at : GoodIn wsX8_rota (va_wsS RX8 103 yX8_at wsX8_at) := goodIn_app (goodIn_of _ (by decide +kernel)) ggX8_rota_X8_at
set_option maxRecDepth 20000 in
theorem ggX8_rota_X8_put : GoodIn wsX8_rota wsX8_put := goodIn_r _ [22] (by decide +kernel) (by decide +kernel)
set_option maxRecDepth 20000 in
theorem gX8_rota_X8_put : GoodIn wsX8_rota (va_wsS RX8 135 yX8_put wsX8_put) := goodIn_app (goodIn_of _ (by decide +kernel)) ggX8_rota_X8_put
theorem dX8_rota_0 : decode cX8_rota 0 = .ok (.aload_n 0, 1) := by decide +kernel
theorem dX8_rota_1 : decode cX8_rota 1 = .ok (.iload_n 1, 1) := by decide +kernel
theorem dX8_rota_2 : decode cX8_rota 2 = .ok (.invokevirtual 128, 3) := by decide +kernel
theorem dX8_rota_5 : decode cX8_rota 5 = .ok (.ifCond .ne 6, 3) := by decide +kernel
theorem dX8_rota_8 : decode cX8_rota 8 = .ok (.bipush (-101), 2) := by decide +kernel
theorem dX8_rota_10 : decode cX8_rota 10 = .ok (.ireturn, 1) := by decide +kernel
theorem dX8_rota_11 : decode cX8_rota 11 = .ok (.iload_n 2, 1) := by decide +kernel
theorem dX8_rota_12 : decode cX8_rota 12 = .ok (.iconst (-1), 1) := by decide +kernel
theorem dX8_rota_13 : decode cX8_rota 13 = .ok (.if_icmp .eq 17, 3) := by decide +kernel
theorem dX8_rota_16 : decode cX8_rota 16 = .ok (.aload_n 0, 1) := by decide +kernel
theorem dX8_rota_17 : decode cX8_rota 17 = .ok (.getfield 18, 3) := by decide +kernel
theorem dX8_rota_20 : decode cX8_rota 20 = .ok (.iload_n 2, 1) := by decide +kernel
theorem dX8_rota_21 : decode cX8_rota 21 = .ok (.invokestatic 87, 3) := by decide +kernel
theorem dX8_rota_24 : decode cX8_rota 24 = .ok (.ifnonnull 6, 3) := by decide +kernel
theorem dX8_rota_27 : decode cX8_rota 27 = .ok (.bipush (-101), 2) := by decide +kernel
theorem dX8_rota_29 : decode cX8_rota 29 = .ok (.ireturn, 1) := by decide +kernel
theorem dX8_rota_30 : decode cX8_rota 30 = .ok (.aload_n 0, 1) := by decide +kernel
theorem dX8_rota_31 : decode cX8_rota 31 = .ok (.getfield 25, 3) := by decide +kernel
theorem dX8_rota_34 : decode cX8_rota 34 = .ok (.getfield 132, 3) := by decide +kernel
theorem dX8_rota_37 : decode cX8_rota 37 = .ok (.iload_n 1, 1) := by decide +kernel
theorem dX8_rota_38 : decode cX8_rota 38 = .ok (.invokestatic 103, 3) := by decide +kernel
theorem dX8_rota_41 : decode cX8_rota 41 = .ok (.istore_n 3, 1) := by decide +kernel
theorem dX8_rota_42 : decode cX8_rota 42 = .ok (.aload_n 0, 1) := by decide +kernel
theorem dX8_rota_43 : decode cX8_rota 43 = .ok (.getfield 25, 3) := by decide +kernel
theorem dX8_rota_46 : decode cX8_rota 46 = .ok (.getfield 132, 3) := by decide +kernel
theorem dX8_rota_49 : decode cX8_rota 49 = .ok (.iload_n 1, 1) := by decide +kernel
theorem dX8_rota_50 : decode cX8_rota 50 = .ok (.iload_n 2, 1) := by decide +kernel
theorem dX8_rota_51 : decode cX8_rota 51 = .ok (.invokestatic 135, 3) := by decide +kernel
theorem dX8_rota_54 : decode cX8_rota 54 = .ok (.iload_n 3, 1) := by decide +kernel
theorem dX8_rota_55 : decode cX8_rota 55 = .ok (.ireturn, 1) := by decide +kernel
set_option maxRecDepth 20000 in
theorem ggX8_shift_X8_isShift : GoodIn wsX8_shift wsX8_isShift := goodIn_r _ [10, 11, 12, 13, 9, 14, 15, 146, 147, 148, 149, 150, 151, 152, 153, 154, 155, 156, 157, 158] (by decide +kernel) (by decide +kernel)
set_option maxRecDepth 20000 in
theorem gX8_shift_X8_isShift : GoodIn wsX8_shift (wsV RX8 128 RX8 yX8_isShift wsX8_isShift) := goodIn_app (goodIn_of _ (by decide +kernel)) ggX8_shift_X8_isShift
set_option maxRecDepth 20000 in
theorem ggX8_shift_X8_at : GoodIn wsX8_shift wsX8_at := goodIn_r _ [18] (by decide +kernel) (by decide +kernel)
set_option maxRecDepth 20000 in
theorem gX8_shift_X8_at : GoodIn wsX8_shift (va_wsS RX8 103 yX8_at wsX8_at) := goodIn_app (goodIn_of _ (by decide +kernel)) ggX8_shift_X8_at
set_option maxRecDepth 20000 in
theorem ggX8_shift_X8_nextDay : GoodIn wsX8_shift wsX8_nextDay := goodIn_r _ [22, 23, 24, 1, 2, 25, 26, 27, 28, 29, 30, 31, 32, 33, 34, 35, 36, 37, 38, 39, 40, 41, 42, 43, 9, 44, 17, 18, 45, 46, 47, 48, 49, 50, 51, 52, 53, 54, 55, 56, 57, 58, 59, 60, 61, 62, 63, 64, 65, 66, 67, 68, 69, 70, 71, 72, 73, 74, 75, 76, 77, 78, 79, 80, 81, 82, 83, 84, 85, 86, 87, 88, 89, 90, 91, 92, 93, 94, 95, 96, 97, 98, 99, 100, 101, 102, 103, 104, 105, 106, 107, 146, 147, 148, 149, 150, 151, 152, 153, 154, 155, 156, 157, 158, 159, 160, 161, 162, 163, 164, 165, 166, 167, 168, 169, 170, 171, 172, 173, 174, 175, 176, 177, 178, 179, 180, 181, 182, 183, 184] (by decide +kernel) (by decide +kernel)
set_option maxRecDepth 20000 in
theorem gX8_shift_X8_nextDay : GoodIn wsX8_shift (wsV RX8 139 RX8 yX8_nextDay wsX8_nextDay) := goodIn_app (goodIn_of _ (by decide +kernel)) ggX8_shift_X8_nextDay
set_option maxRecDepth 20000 in
theorem ggX8_shift_X8_whoCanBe : GoodIn wsX8_shift wsX8_whoCanBe := goodIn_r _ [111, 1, 2, 112, 15, 113, 114, 9, 115, 116, 117, 118, 119, 23, 24, 25, 26, 3, 120, 43, 44, 27, 28, 29, 30, 31, 32, 33, 34, 35, 36, 37, 38, 39, 40, 41, 42, 17, 18, 45, 46, 47, 48, 49, 50, 51, 52, 53, 54, 55, 56, 57, 58, 59, 60, 61, 62, 63, 64, 65, 66, 67, 68, 69, 70, 71, 72, 73, 74, 75, 76, 77, 78, 79, 80, 81, 82, 83, 84, 85, 86, 87, 88, 89, 90, 91, 92, 93, 94, 95, 96, 97, 98, 99, 100, 101, 102, 103, 104, 105, 106, 107, 121, 122, 123, 124, 125, 126, 127, 128, 146, 147, 148, 149, 150, 151, 152, 153, 154, 155, 156, 157, 158, 159, 160, 161, 162, 163, 164, 165, 166, 167, 168, 169, 170, 171, 172, 173, 174, 175, 176, 177, 178, 179, 180, 181, 182, 183, 184] (by decide +kernel) (by decide +kernel)
set_option maxRecDepth 20000 in
theorem gX8_shift_X8_whoCanBe : GoodIn wsX8_shift (wsV RX8 152 RX8 yX8_whoCanBe wsX8_whoCanBe) := goodIn_app (goodIn_of _ (by decide +kernel)) ggX8_shift_X8_whoCanBe
set_option maxRecDepth 20000 in
theorem ggX8_shift_X8_whereToLook : GoodIn wsX8_shift wsX8_whereToLook := goodIn_r _ [132, 1, 2, 112, 133, 15, 113, 114, 9, 115, 134, 135, 136, 116, 117, 118, 119, 23, 24, 25, 26, 3, 120, 43, 44, 27, 28, 29, 30, 31, 32, 33, 34, 35, 36, 37, 38, 39, 40, 41, 42, 17, 18, 45, 46, 47, 48, 49, 50, 51, 52, 53, 54, 55, 56, 57, 58, 59, 60, 61, 62, 63, 64, 65, 66, 67, 68, 69, 70, 71, 72, 73, 74, 75, 76, 77, 78, 79, 80, 81, 82, 83, 84, 85, 86, 87, 88, 89, 90, 91, 92, 93, 94, 95, 96, 97, 98, 99, 100, 101, 102, 103, 104, 105, 106, 107, 121, 122, 123, 124, 125, 126, 127, 128, 137, 138, 139, 140, 16, 141, 142, 143, 144, 145, 146, 147, 148, 149, 150, 151, 152, 153, 154, 155, 156, 157, 158, 159, 160, 161, 162, 163, 164, 165, 166, 167, 168, 169, 170, 171, 172, 173, 174, 175, 176, 177, 178, 179, 180, 181, 182, 183, 184] (by decide +kernel) (by decide +kernel)
set_option maxRecDepth 20000 in
theorem gX8_shift_X8_whereToLook : GoodIn wsX8_shift (wsV RX8 155 RX8 yX8_whereToLook wsX8_whereToLook) := goodIn_app (goodIn_of _ (by decide +kernel)) ggX8_shift_X8_whereToLook
theorem dX8_shift_0 : decode cX8_shift 0 = .ok (.aload_n 0, 1) := by decide +kernel
theorem dX8_shift_1 : decode cX8_shift 1 = .ok (.iload_n 1, 1) := by decide +kernel
theorem dX8_shift_2 : decode cX8_shift 2 = .ok (.invokevirtual 128, 3) := by decide +kernel
theorem dX8_shift_5 : decode cX8_shift 5 = .ok (.ifCond .ne 6, 3) := by decide +kernel
theorem dX8_shift_8 : decode cX8_shift 8 = .ok (.bipush (-101), 2) := by decide +kernel
theorem dX8_shift_10 : decode cX8_shift 10 = .ok (.ireturn, 1) := by decide +kernel
theorem dX8_shift_11 : decode cX8_shift 11 = .ok (.iload_n 2, 1) := by decide +kernel
theorem dX8_shift_12 : decode cX8_shift 12 = .ok (.tableswitch 100 0 5 #[40, 52, 64, 76, 88, 94], 40) := by decide +kernel
theorem dX8_shift_52 : decode cX8_shift 52 = .ok (.aload_n 0, 1) := by decide +kernel
theorem dX8_shift_53 : decode cX8_shift 53 = .ok (.getfield 25, 3) := by decide +kernel
theorem dX8_shift_56 : decode cX8_shift 56 = .ok (.getfield 132, 3) := by decide +kernel
theorem dX8_shift_59 : decode cX8_shift 59 = .ok (.iload_n 1, 1) := by decide +kernel
theorem dX8_shift_60 : decode cX8_shift 60 = .ok (.invokestatic 103, 3) := by decide +kernel
theorem dX8_shift_63 : decode cX8_shift 63 = .ok (.ireturn, 1) := by decide +kernel
theorem dX8_shift_64 : decode cX8_shift 64 = .ok (.aload_n 0, 1) := by decide +kernel
theorem dX8_shift_65 : decode cX8_shift 65 = .ok (.invokevirtual 139, 3) := by decide +kernel
theorem dX8_shift_68 : decode cX8_shift 68 = .ok (.getfield 143, 3) := by decide +kernel
theorem dX8_shift_71 : decode cX8_shift 71 = .ok (.iload_n 1, 1) := by decide +kernel
theorem dX8_shift_72 : decode cX8_shift 72 = .ok (.invokestatic 103, 3) := by decide +kernel
theorem dX8_shift_75 : decode cX8_shift 75 = .ok (.ireturn, 1) := by decide +kernel
theorem dX8_shift_76 : decode cX8_shift 76 = .ok (.aload_n 0, 1) := by decide +kernel
theorem dX8_shift_77 : decode cX8_shift 77 = .ok (.invokevirtual 139, 3) := by decide +kernel
theorem dX8_shift_80 : decode cX8_shift 80 = .ok (.getfield 146, 3) := by decide +kernel
theorem dX8_shift_83 : decode cX8_shift 83 = .ok (.iload_n 1, 1) := by decide +kernel
theorem dX8_shift_84 : decode cX8_shift 84 = .ok (.invokestatic 103, 3) := by decide +kernel
theorem dX8_shift_87 : decode cX8_shift 87 = .ok (.ireturn, 1) := by decide +kernel
theorem dX8_shift_88 : decode cX8_shift 88 = .ok (.aload_n 0, 1) := by decide +kernel
theorem dX8_shift_89 : decode cX8_shift 89 = .ok (.invokevirtual 139, 3) := by decide +kernel
theorem dX8_shift_92 : decode cX8_shift 92 = .ok (.getfield 149, 3) := by decide +kernel
theorem dX8_shift_95 : decode cX8_shift 95 = .ok (.iload_n 1, 1) := by decide +kernel
theorem dX8_shift_96 : decode cX8_shift 96 = .ok (.invokestatic 103, 3) := by decide +kernel
theorem dX8_shift_99 : decode cX8_shift 99 = .ok (.ireturn, 1) := by decide +kernel
theorem dX8_shift_100 : decode cX8_shift 100 = .ok (.aload_n 0, 1) := by decide +kernel
theorem dX8_shift_101 : decode cX8_shift 101 = .ok (.iload_n 1, 1) := by decide +kernel
theorem dX8_shift_102 : decode cX8_shift 102 = .ok (.invokevirtual 152, 3) := by decide +kernel
theorem dX8_shift_105 : decode cX8_shift 105 = .ok (.ireturn, 1) := by decide +kernel
theorem dX8_shift_106 : decode cX8_shift 106 = .ok (.aload_n 0, 1) := by decide +kernel
theorem dX8_shift_107 : decode cX8_shift 107 = .ok (.iload_n 1, 1) := by decide +kernel
theorem dX8_shift_108 : decode cX8_shift 108 = .ok (.invokevirtual 155, 3) := by decide +kernel
theorem dX8_shift_111 : decode cX8_shift 111 = .ok (.ireturn, 1) := by decide +kernel
theorem dX8_shift_112 : decode cX8_shift 112 = .ok (.bipush (-102), 2) := by decide +kernel
theorem dX8_shift_114 : decode cX8_shift 114 = .ok (.ireturn, 1) := by decide +kernel
set_option maxRecDepth 20000 in
theorem ggX8_day_X8_hasCave : GoodIn wsX8_day wsX8_hasCave := goodIn_r _ [17, 18, 110, 111, 112, 113, 114, 115, 116, 117, 118, 119, 120, 121, 122] (by decide +kernel) (by decide +kernel)
set_option maxRecDepth 20000 in
theorem gX8_day_X8_hasCave : GoodIn wsX8_day (wsV RX8 158 RX8 yX8_hasCave wsX8_hasCave) := goodIn_app (goodIn_of _ (by decide +kernel)) ggX8_day_X8_hasCave
set_option maxRecDepth 20000 in
theorem ggX8_day_X8_nextDay : GoodIn wsX8_day wsX8_nextDay := goodIn_r _ [22, 23, 24, 1, 2, 8, 10, 25, 26, 27, 28, 29, 30, 31, 32, 33, 34, 35, 36, 37, 38, 39, 40, 41, 16, 42, 43, 44, 45, 46, 47, 48, 49, 50, 51, 52, 53, 54, 55, 56, 57, 58, 59, 60, 61, 62, 63, 64, 65, 66, 67, 68, 69, 70, 71, 72, 73, 74, 75, 76, 77, 78, 79, 80, 81, 82, 83, 84, 85, 86, 87, 88, 89, 90, 91, 92, 93, 94, 95, 96, 97, 98, 99, 100, 101, 102, 103, 104, 105, 106, 107, 110, 111, 112, 113, 114, 115, 116, 117, 118, 119, 120, 121, 122, 123, 124, 125, 126, 127, 128, 129, 130, 131, 132, 133, 134, 135, 136, 137, 138, 139, 140, 141, 142, 143, 144, 145, 146, 147, 148] (by decide +kernel) (by decide +kernel)
set_option maxRecDepth 20000 in
theorem gX8_day_X8_nextDay : GoodIn wsX8_day (wsV RX8 139 RX8 yX8_nextDay wsX8_nextDay) := goodIn_app (goodIn_of _ (by decide +kernel)) ggX8_day_X8_nextDay
set_option maxRecDepth 20000 in
theorem ggX8_day_X8_at : GoodIn wsX8_day wsX8_at := goodIn_r _ [44] (by decide +kernel) (by decide +kernel)
set_option maxRecDepth 20000 in
theorem gX8_day_X8_at : GoodIn wsX8_day (va_wsS RX8 103 yX8_at wsX8_at) := goodIn_app (goodIn_of _ (by decide +kernel)) ggX8_day_X8_at
set_option maxRecDepth 20000 in
theorem ggX8_day_X8_put : GoodIn wsX8_day wsX8_put := goodIn_r _ [42] (by decide +kernel) (by decide +kernel)
set_option maxRecDepth 20000 in
theorem gX8_day_X8_put : GoodIn wsX8_day (va_wsS RX8 135 yX8_put wsX8_put) := goodIn_app (goodIn_of _ (by decide +kernel)) ggX8_day_X8_put
theorem dX8_day_0 : decode cX8_day 0 = .ok (.aload_n 0, 1) := by decide +kernel
theorem dX8_day_1 : decode cX8_day 1 = .ok (.invokevirtual 158, 3) := by decide +kernel
theorem dX8_day_4 : decode cX8_day 4 = .ok (.ifCond .ne 6, 3) := by decide +kernel
theorem dX8_day_7 : decode cX8_day 7 = .ok (.bipush (-103), 2) := by decide +kernel
theorem dX8_day_9 : decode cX8_day 9 = .ok (.ireturn, 1) := by decide +kernel
theorem dX8_day_10 : decode cX8_day 10 = .ok (.aload_n 0, 1) := by decide +kernel
