theorem dX7_live_47 : decode cX7_live 47 = .ok (.invokestatic 38, 3) := by decide +kernel
theorem dX7_live_50 : decode cX7_live 50 = .ok (.invokestatic 42, 3) := by decide +kernel
theorem dX7_live_53 : decode cX7_live 53 = .ok (.iload 5, 2) := by decide +kernel
theorem dX7_live_55 : decode cX7_live 55 = .ok (.invokevirtual 46, 3) := by decide +kernel
theorem dX7_live_58 : decode cX7_live 58 = .ok (.istore 7, 2) := by decide +kernel
theorem dX7_live_60 : decode cX7_live 60 = .ok (.iconst 0, 1) := by decide +kernel
theorem dX7_live_61 : decode cX7_live 61 = .ok (.bipush 9, 2) := by decide +kernel
theorem dX7_live_63 : decode cX7_live 63 = .ok (.iload 5, 2) := by decide +kernel
theorem dX7_live_65 : decode cX7_live 65 = .ok (.iload 7, 2) := by decide +kernel
theorem dX7_live_67 : decode cX7_live 67 = .ok (.iadd, 1) := by decide +kernel
theorem dX7_live_68 : decode cX7_live 68 = .ok (.invokestatic 50, 3) := by decide +kernel
theorem dX7_live_71 : decode cX7_live 71 = .ok (.invokestatic 56, 3) := by decide +kernel
theorem dX7_live_74 : decode cX7_live 74 = .ok (.istore 5, 2) := by decide +kernel
theorem dX7_live_76 : decode cX7_live 76 = .ok (.iinc 6 1, 3) := by decide +kernel
theorem dX7_live_79 : decode cX7_live 79 = .ok (.goto (-57), 3) := by decide +kernel
theorem dX7_live_82 : decode cX7_live 82 = .ok (.aload_n 0, 1) := by decide +kernel
theorem dX7_live_83 : decode cX7_live 83 = .ok (.getfield 9, 3) := by decide +kernel
theorem dX7_live_86 : decode cX7_live 86 = .ok (.bipush 8, 2) := by decide +kernel
theorem dX7_live_88 : decode cX7_live 88 = .ok (.iload 5, 2) := by decide +kernel
theorem dX7_live_90 : decode cX7_live 90 = .ok (.invokestatic 34, 3) := by decide +kernel
theorem dX7_live_93 : decode cX7_live 93 = .ok (.return_, 1) := by decide +kernel
set_option maxRecDepth 20000 in
theorem ggX7_meet_X8_put : GoodIn wsX7_meet wsX8_put := goodIn_r _ [10] (by decide +kernel) (by decide +kernel)
set_option maxRecDepth 20000 in
theorem gX7_meet_X8_put_n34 : GoodIn wsX7_meet (wsX8_put) := ggX7_meet_X8_put
set_option maxRecDepth 20000 in
theorem ggX7_meet_X8_knows : GoodIn wsX7_meet wsX8_knows := goodIn_r _ [12] (by decide +kernel) (by decide +kernel)
set_option maxRecDepth 20000 in
theorem gX7_meet_X8_knows_n64 : GoodIn wsX7_meet (wsX8_knows) := ggX7_meet_X8_knows
set_option maxRecDepth 20000 in
theorem ggX7_meet_X2_letsItSleep : GoodIn wsX7_meet wsX2_letsItSleep := goodIn_r _ [18] (by decide +kernel) (by decide +kernel)
set_option maxRecDepth 20000 in
theorem gX7_meet_X2_letsItSleep_u68X0 : GoodIn wsX7_meet (va_wsU RX7 68 RX0 "RotaFathers$Father" ⟨"RotaFathers$Father", "letsItSleep", "()Z"⟩ yX2_letsItSleep wsX2_letsItSleep) := goodIn_app (goodIn_of _ (by decide +kernel)) ggX7_meet_X2_letsItSleep
set_option maxRecDepth 20000 in
theorem gX7_meet_X2_letsItSleep_u68X1 : GoodIn wsX7_meet (va_wsU RX7 68 RX1 "RotaFathers$Father" ⟨"RotaFathers$Father", "letsItSleep", "()Z"⟩ yX2_letsItSleep wsX2_letsItSleep) := goodIn_app (goodIn_of _ (by decide +kernel)) ggX7_meet_X2_letsItSleep
set_option maxRecDepth 20000 in
theorem gX7_meet_X2_letsItSleep : GoodIn wsX7_meet (wsV RX7 68 RX2 yX2_letsItSleep wsX2_letsItSleep) := goodIn_app (goodIn_of _ (by decide +kernel)) ggX7_meet_X2_letsItSleep
set_option maxRecDepth 20000 in
theorem gX7_meet_X2_letsItSleep_u68X5 : GoodIn wsX7_meet (va_wsU RX7 68 RX5 "RotaFathers$Father" ⟨"RotaFathers$Father", "letsItSleep", "()Z"⟩ yX2_letsItSleep wsX2_letsItSleep) := goodIn_app (goodIn_of _ (by decide +kernel)) ggX7_meet_X2_letsItSleep
set_option maxRecDepth 20000 in
theorem ggX7_meet_X6_letsItSleep : GoodIn wsX7_meet wsX6_letsItSleep := goodIn_r _ [27] (by decide +kernel) (by decide +kernel)
set_option maxRecDepth 20000 in
theorem gX7_meet_X6_letsItSleep_u68X6 : GoodIn wsX7_meet (va_wsO RX7 68 RX6 "RotaFathers$Father" ⟨"RotaFathers$Father", "letsItSleep", "()Z"⟩ yX6_letsItSleep wsX6_letsItSleep) := goodIn_app (goodIn_of _ (by decide +kernel)) ggX7_meet_X6_letsItSleep
set_option maxRecDepth 20000 in
theorem ggX7_meet_X0_bears : GoodIn wsX7_meet wsX0_bears := goodIn_r _ [34, 35, 36, 71, 72, 73, 74, 75, 76, 77, 78, 79, 80] (by decide +kernel) (by decide +kernel)
set_option maxRecDepth 20000 in
theorem gX7_meet_X0_bears_u72X0 : GoodIn wsX7_meet (va_wsO RX7 72 RX0 "RotaFathers$Father" ⟨"RotaFathers$Father", "bears", "(I)I"⟩ yX0_bears wsX0_bears) := goodIn_app (goodIn_of _ (by decide +kernel)) ggX7_meet_X0_bears
set_option maxRecDepth 20000 in
theorem ggX7_meet_X1_bears : GoodIn wsX7_meet wsX1_bears := goodIn_r _ [41, 42, 43, 71, 72, 73, 74, 75, 76, 77, 78, 79, 80] (by decide +kernel) (by decide +kernel)
set_option maxRecDepth 20000 in
theorem gX7_meet_X1_bears_u72X1 : GoodIn wsX7_meet (va_wsO RX7 72 RX1 "RotaFathers$Father" ⟨"RotaFathers$Father", "bears", "(I)I"⟩ yX1_bears wsX1_bears) := goodIn_app (goodIn_of _ (by decide +kernel)) ggX7_meet_X1_bears
set_option maxRecDepth 20000 in
theorem ggX7_meet_X2_bears : GoodIn wsX7_meet wsX2_bears := goodIn_r _ [37, 47, 71, 72, 73, 74, 75, 76, 77, 78, 79, 80] (by decide +kernel) (by decide +kernel)
set_option maxRecDepth 20000 in
theorem gX7_meet_X2_bears : GoodIn wsX7_meet (wsV RX7 72 RX2 yX2_bears wsX2_bears) := goodIn_app (goodIn_of _ (by decide +kernel)) ggX7_meet_X2_bears
set_option maxRecDepth 20000 in
theorem gX7_meet_X2_bears_u72X5 : GoodIn wsX7_meet (va_wsU RX7 72 RX5 "RotaFathers$Father" ⟨"RotaFathers$Father", "bears", "(I)I"⟩ yX2_bears wsX2_bears) := goodIn_app (goodIn_of _ (by decide +kernel)) ggX7_meet_X2_bears
set_option maxRecDepth 20000 in
theorem gX7_meet_X2_bears_u72X6 : GoodIn wsX7_meet (va_wsU RX7 72 RX6 "RotaFathers$Father" ⟨"RotaFathers$Father", "bears", "(I)I"⟩ yX2_bears wsX2_bears) := goodIn_app (goodIn_of _ (by decide +kernel)) ggX7_meet_X2_bears
set_option maxRecDepth 20000 in
theorem ggX7_meet_X2_fitterByStanding : GoodIn wsX7_meet wsX2_fitterByStanding := goodIn_r _ [54] (by decide +kernel) (by decide +kernel)
set_option maxRecDepth 20000 in
theorem gX7_meet_X2_fitterByStanding_u76X0 : GoodIn wsX7_meet (va_wsU RX7 76 RX0 "RotaFathers$Father" ⟨"RotaFathers$Father", "fitterByStanding", "()I"⟩ yX2_fitterByStanding wsX2_fitterByStanding) := goodIn_app (goodIn_of _ (by decide +kernel)) ggX7_meet_X2_fitterByStanding
set_option maxRecDepth 20000 in
theorem gX7_meet_X2_fitterByStanding_u76X1 : GoodIn wsX7_meet (va_wsU RX7 76 RX1 "RotaFathers$Father" ⟨"RotaFathers$Father", "fitterByStanding", "()I"⟩ yX2_fitterByStanding wsX2_fitterByStanding) := goodIn_app (goodIn_of _ (by decide +kernel)) ggX7_meet_X2_fitterByStanding
set_option maxRecDepth 20000 in
theorem gX7_meet_X2_fitterByStanding : GoodIn wsX7_meet (wsV RX7 76 RX2 yX2_fitterByStanding wsX2_fitterByStanding) := goodIn_app (goodIn_of _ (by decide +kernel)) ggX7_meet_X2_fitterByStanding
set_option maxRecDepth 20000 in
theorem ggX7_meet_X5_fitterByStanding : GoodIn wsX7_meet wsX5_fitterByStanding := goodIn_r _ [62] (by decide +kernel) (by decide +kernel)
set_option maxRecDepth 20000 in
theorem gX7_meet_X5_fitterByStanding_u76X5 : GoodIn wsX7_meet (va_wsO RX7 76 RX5 "RotaFathers$Father" ⟨"RotaFathers$Father", "fitterByStanding", "()I"⟩ yX5_fitterByStanding wsX5_fitterByStanding) := goodIn_app (goodIn_of _ (by decide +kernel)) ggX7_meet_X5_fitterByStanding
set_option maxRecDepth 20000 in
theorem gX7_meet_X2_fitterByStanding_u76X6 : GoodIn wsX7_meet (va_wsU RX7 76 RX6 "RotaFathers$Father" ⟨"RotaFathers$Father", "fitterByStanding", "()I"⟩ yX2_fitterByStanding wsX2_fitterByStanding) := goodIn_app (goodIn_of _ (by decide +kernel)) ggX7_meet_X2_fitterByStanding
theorem dX7_meet_0 : decode cX7_meet 0 = .ok (.aload_n 0, 1) := by decide +kernel
theorem dX7_meet_1 : decode cX7_meet 1 = .ok (.getfield 15, 3) := by decide +kernel
theorem dX7_meet_4 : decode cX7_meet 4 = .ok (.iload_n 1, 1) := by decide +kernel
theorem dX7_meet_5 : decode cX7_meet 5 = .ok (.iconst 0, 1) := by decide +kernel
theorem dX7_meet_6 : decode cX7_meet 6 = .ok (.invokestatic 34, 3) := by decide +kernel
theorem dX7_meet_9 : decode cX7_meet 9 = .ok (.aload_n 0, 1) := by decide +kernel
theorem dX7_meet_10 : decode cX7_meet 10 = .ok (.getfield 18, 3) := by decide +kernel
theorem dX7_meet_13 : decode cX7_meet 13 = .ok (.iload_n 1, 1) := by decide +kernel
theorem dX7_meet_14 : decode cX7_meet 14 = .ok (.iconst 0, 1) := by decide +kernel
theorem dX7_meet_15 : decode cX7_meet 15 = .ok (.invokestatic 34, 3) := by decide +kernel
theorem dX7_meet_18 : decode cX7_meet 18 = .ok (.aload_n 0, 1) := by decide +kernel
theorem dX7_meet_19 : decode cX7_meet 19 = .ok (.getfield 21, 3) := by decide +kernel
theorem dX7_meet_22 : decode cX7_meet 22 = .ok (.iload_n 1, 1) := by decide +kernel
theorem dX7_meet_23 : decode cX7_meet 23 = .ok (.iconst 0, 1) := by decide +kernel
theorem dX7_meet_24 : decode cX7_meet 24 = .ok (.invokestatic 34, 3) := by decide +kernel
theorem dX7_meet_27 : decode cX7_meet 27 = .ok (.aload_n 2, 1) := by decide +kernel
theorem dX7_meet_28 : decode cX7_meet 28 = .ok (.ifnonnull 5, 3) := by decide +kernel
theorem dX7_meet_31 : decode cX7_meet 31 = .ok (.iconst 2, 1) := by decide +kernel
theorem dX7_meet_32 : decode cX7_meet 32 = .ok (.ireturn, 1) := by decide +kernel
theorem dX7_meet_33 : decode cX7_meet 33 = .ok (.aload_n 0, 1) := by decide +kernel
theorem dX7_meet_34 : decode cX7_meet 34 = .ok (.getfield 24, 3) := by decide +kernel
theorem dX7_meet_37 : decode cX7_meet 37 = .ok (.aload_n 2, 1) := by decide +kernel
theorem dX7_meet_38 : decode cX7_meet 38 = .ok (.getfield 59, 3) := by decide +kernel
theorem dX7_meet_41 : decode cX7_meet 41 = .ok (.invokestatic 64, 3) := by decide +kernel
theorem dX7_meet_44 : decode cX7_meet 44 = .ok (.ifCond .eq 9, 3) := by decide +kernel
theorem dX7_meet_47 : decode cX7_meet 47 = .ok (.iload_n 3, 1) := by decide +kernel
theorem dX7_meet_48 : decode cX7_meet 48 = .ok (.iconst 2, 1) := by decide +kernel
theorem dX7_meet_49 : decode cX7_meet 49 = .ok (.iadd, 1) := by decide +kernel
theorem dX7_meet_50 : decode cX7_meet 50 = .ok (.goto 4, 3) := by decide +kernel
theorem dX7_meet_53 : decode cX7_meet 53 = .ok (.iload_n 3, 1) := by decide +kernel
theorem dX7_meet_54 : decode cX7_meet 54 = .ok (.istore 4, 2) := by decide +kernel
theorem dX7_meet_56 : decode cX7_meet 56 = .ok (.aload_n 0, 1) := by decide +kernel
theorem dX7_meet_57 : decode cX7_meet 57 = .ok (.getfield 15, 3) := by decide +kernel
theorem dX7_meet_60 : decode cX7_meet 60 = .ok (.iload_n 1, 1) := by decide +kernel
theorem dX7_meet_61 : decode cX7_meet 61 = .ok (.iload 4, 2) := by decide +kernel
theorem dX7_meet_63 : decode cX7_meet 63 = .ok (.invokestatic 34, 3) := by decide +kernel
theorem dX7_meet_66 : decode cX7_meet 66 = .ok (.aload_n 0, 1) := by decide +kernel
theorem dX7_meet_67 : decode cX7_meet 67 = .ok (.dup, 1) := by decide +kernel
theorem dX7_meet_68 : decode cX7_meet 68 = .ok (.getfield 24, 3) := by decide +kernel
theorem dX7_meet_71 : decode cX7_meet 71 = .ok (.iconst 1, 1) := by decide +kernel
theorem dX7_meet_72 : decode cX7_meet 72 = .ok (.aload_n 2, 1) := by decide +kernel
theorem dX7_meet_73 : decode cX7_meet 73 = .ok (.getfield 59, 3) := by decide +kernel
theorem dX7_meet_76 : decode cX7_meet 76 = .ok (.ishl, 1) := by decide +kernel
theorem dX7_meet_77 : decode cX7_meet 77 = .ok (.ior, 1) := by decide +kernel
theorem dX7_meet_78 : decode cX7_meet 78 = .ok (.putfield 24, 3) := by decide +kernel
theorem dX7_meet_81 : decode cX7_meet 81 = .ok (.aload_n 2, 1) := by decide +kernel
theorem dX7_meet_82 : decode cX7_meet 82 = .ok (.invokevirtual 68, 3) := by decide +kernel
theorem dX7_meet_85 : decode cX7_meet 85 = .ok (.ifCond .eq 5, 3) := by decide +kernel
theorem dX7_meet_88 : decode cX7_meet 88 = .ok (.iconst 2, 1) := by decide +kernel
theorem dX7_meet_89 : decode cX7_meet 89 = .ok (.ireturn, 1) := by decide +kernel
theorem dX7_meet_90 : decode cX7_meet 90 = .ok (.iload 4, 2) := by decide +kernel
theorem dX7_meet_92 : decode cX7_meet 92 = .ok (.aload_n 2, 1) := by decide +kernel
theorem dX7_meet_93 : decode cX7_meet 93 = .ok (.iload_n 1, 1) := by decide +kernel
theorem dX7_meet_94 : decode cX7_meet 94 = .ok (.invokevirtual 72, 3) := by decide +kernel
theorem dX7_meet_97 : decode cX7_meet 97 = .ok (.if_icmp .le 24, 3) := by decide +kernel
theorem dX7_meet_100 : decode cX7_meet 100 = .ok (.aload_n 0, 1) := by decide +kernel
theorem dX7_meet_101 : decode cX7_meet 101 = .ok (.getfield 21, 3) := by decide +kernel
theorem dX7_meet_104 : decode cX7_meet 104 = .ok (.iload_n 1, 1) := by decide +kernel
theorem dX7_meet_105 : decode cX7_meet 105 = .ok (.iconst 1, 1) := by decide +kernel
theorem dX7_meet_106 : decode cX7_meet 106 = .ok (.invokestatic 34, 3) := by decide +kernel
theorem dX7_meet_109 : decode cX7_meet 109 = .ok (.aload_n 0, 1) := by decide +kernel
theorem dX7_meet_110 : decode cX7_meet 110 = .ok (.dup, 1) := by decide +kernel
theorem dX7_meet_111 : decode cX7_meet 111 = .ok (.getfield 31, 3) := by decide +kernel
theorem dX7_meet_114 : decode cX7_meet 114 = .ok (.iconst 1, 1) := by decide +kernel
theorem dX7_meet_115 : decode cX7_meet 115 = .ok (.iadd, 1) := by decide +kernel
theorem dX7_meet_116 : decode cX7_meet 116 = .ok (.putfield 31, 3) := by decide +kernel
theorem dX7_meet_119 : decode cX7_meet 119 = .ok (.iconst 1, 1) := by decide +kernel
theorem dX7_meet_120 : decode cX7_meet 120 = .ok (.ireturn, 1) := by decide +kernel
theorem dX7_meet_121 : decode cX7_meet 121 = .ok (.aload_n 0, 1) := by decide +kernel
theorem dX7_meet_122 : decode cX7_meet 122 = .ok (.getfield 18, 3) := by decide +kernel
theorem dX7_meet_125 : decode cX7_meet 125 = .ok (.iload_n 1, 1) := by decide +kernel
theorem dX7_meet_126 : decode cX7_meet 126 = .ok (.iload 4, 2) := by decide +kernel
theorem dX7_meet_128 : decode cX7_meet 128 = .ok (.invokestatic 34, 3) := by decide +kernel
theorem dX7_meet_131 : decode cX7_meet 131 = .ok (.aload_n 0, 1) := by decide +kernel
theorem dX7_meet_132 : decode cX7_meet 132 = .ok (.dup, 1) := by decide +kernel
theorem dX7_meet_133 : decode cX7_meet 133 = .ok (.getfield 28, 3) := by decide +kernel
theorem dX7_meet_136 : decode cX7_meet 136 = .ok (.iload 4, 2) := by decide +kernel
theorem dX7_meet_138 : decode cX7_meet 138 = .ok (.iadd, 1) := by decide +kernel
theorem dX7_meet_139 : decode cX7_meet 139 = .ok (.putfield 28, 3) := by decide +kernel
theorem dX7_meet_142 : decode cX7_meet 142 = .ok (.aload_n 2, 1) := by decide +kernel
theorem dX7_meet_143 : decode cX7_meet 143 = .ok (.invokevirtual 76, 3) := by decide +kernel
theorem dX7_meet_146 : decode cX7_meet 146 = .ok (.ireturn, 1) := by decide +kernel
set_option maxRecDepth 20000 in
theorem ggX8_init_X4_init : GoodIn wsX8_init wsX4_init := goodIn_r _ [25, 26, 2, 3, 19, 27, 43, 44] (by decide +kernel) (by decide +kernel)
set_option maxRecDepth 20000 in
theorem gX8_init_X4_init_n11 : GoodIn wsX8_init (wsX4_init) := ggX8_init_X4_init
set_option maxRecDepth 20000 in
theorem ggX8_init_X3_init : GoodIn wsX8_init wsX3_init := goodIn_r _ [29, 30, 2, 3, 19, 31, 32, 33, 34, 35, 58, 59, 60, 61, 62, 63, 64, 65, 66] (by decide +kernel) (by decide +kernel)
set_option maxRecDepth 20000 in
theorem gX8_init_X3_init_n24 : GoodIn wsX8_init (wsX3_init) := ggX8_init_X3_init
set_option maxRecDepth 20000 in
theorem ggX8_init_X7_init : GoodIn wsX8_init wsX7_init := goodIn_r _ [37, 38, 2, 3, 19, 39, 40, 41, 42, 67, 68, 69, 70, 71, 72, 73] (by decide +kernel) (by decide +kernel)
set_option maxRecDepth 20000 in
theorem gX8_init_X7_init_n34 : GoodIn wsX8_init (wsX7_init) := ggX8_init_X7_init
theorem dX8_init_0 : decode cX8_init 0 = .ok (.aload_n 0, 1) := by decide +kernel
theorem dX8_init_1 : decode cX8_init 1 = .ok (.invokespecial 3, 3) := by decide +kernel
theorem dX8_init_4 : decode cX8_init 4 = .ok (.aload_n 0, 1) := by decide +kernel
theorem dX8_init_5 : decode cX8_init 5 = .ok (.new 9, 3) := by decide +kernel
theorem dX8_init_8 : decode cX8_init 8 = .ok (.dup, 1) := by decide +kernel
theorem dX8_init_9 : decode cX8_init 9 = .ok (.invokespecial 11, 3) := by decide +kernel
theorem dX8_init_12 : decode cX8_init 12 = .ok (.putfield 12, 3) := by decide +kernel
theorem dX8_init_15 : decode cX8_init 15 = .ok (.aload_n 0, 1) := by decide +kernel
theorem dX8_init_16 : decode cX8_init 16 = .ok (.iconst 4, 1) := by decide +kernel
theorem dX8_init_17 : decode cX8_init 17 = .ok (.anewarray 16, 3) := by decide +kernel
theorem dX8_init_20 : decode cX8_init 20 = .ok (.putfield 18, 3) := by decide +kernel
theorem dX8_init_23 : decode cX8_init 23 = .ok (.aload_n 0, 1) := by decide +kernel
theorem dX8_init_24 : decode cX8_init 24 = .ok (.new 22, 3) := by decide +kernel
theorem dX8_init_27 : decode cX8_init 27 = .ok (.dup, 1) := by decide +kernel
theorem dX8_init_28 : decode cX8_init 28 = .ok (.invokespecial 24, 3) := by decide +kernel
theorem dX8_init_31 : decode cX8_init 31 = .ok (.putfield 25, 3) := by decide +kernel
theorem dX8_init_34 : decode cX8_init 34 = .ok (.aload_n 0, 1) := by decide +kernel
theorem dX8_init_35 : decode cX8_init 35 = .ok (.new 22, 3) := by decide +kernel
theorem dX8_init_38 : decode cX8_init 38 = .ok (.dup, 1) := by decide +kernel
theorem dX8_init_39 : decode cX8_init 39 = .ok (.invokespecial 24, 3) := by decide +kernel
theorem dX8_init_42 : decode cX8_init 42 = .ok (.putfield 29, 3) := by decide +kernel
theorem dX8_init_45 : decode cX8_init 45 = .ok (.aload_n 0, 1) := by decide +kernel
theorem dX8_init_46 : decode cX8_init 46 = .ok (.new 32, 3) := by decide +kernel
theorem dX8_init_49 : decode cX8_init 49 = .ok (.dup, 1) := by decide +kernel
theorem dX8_init_50 : decode cX8_init 50 = .ok (.invokespecial 34, 3) := by decide +kernel
theorem dX8_init_53 : decode cX8_init 53 = .ok (.putfield 35, 3) := by decide +kernel
theorem dX8_init_56 : decode cX8_init 56 = .ok (.aload_n 0, 1) := by decide +kernel
theorem dX8_init_57 : decode cX8_init 57 = .ok (.bipush 8, 2) := by decide +kernel
theorem dX8_init_59 : decode cX8_init 59 = .ok (.newarray .int, 2) := by decide +kernel
theorem dX8_init_61 : decode cX8_init 61 = .ok (.putfield 39, 3) := by decide +kernel
theorem dX8_init_64 : decode cX8_init 64 = .ok (.aload_n 0, 1) := by decide +kernel
theorem dX8_init_65 : decode cX8_init 65 = .ok (.iconst 3, 1) := by decide +kernel
theorem dX8_init_66 : decode cX8_init 66 = .ok (.newarray .int, 2) := by decide +kernel
theorem dX8_init_68 : decode cX8_init 68 = .ok (.putfield 43, 3) := by decide +kernel
theorem dX8_init_71 : decode cX8_init 71 = .ok (.aload_n 0, 1) := by decide +kernel
theorem dX8_init_72 : decode cX8_init 72 = .ok (.bipush 90, 2) := by decide +kernel
theorem dX8_init_74 : decode cX8_init 74 = .ok (.newarray .int, 2) := by decide +kernel
theorem dX8_init_76 : decode cX8_init 76 = .ok (.putfield 46, 3) := by decide +kernel
theorem dX8_init_79 : decode cX8_init 79 = .ok (.aload_n 0, 1) := by decide +kernel
theorem dX8_init_80 : decode cX8_init 80 = .ok (.iconst (-1), 1) := by decide +kernel
theorem dX8_init_81 : decode cX8_init 81 = .ok (.putfield 49, 3) := by decide +kernel
theorem dX8_init_84 : decode cX8_init 84 = .ok (.return_, 1) := by decide +kernel
set_option maxRecDepth 20000 in
theorem ggX8_letter_X4_add : GoodIn wsX8_letter wsX4_add := goodIn_r _ [7, 8, 9, 23, 24] (by decide +kernel) (by decide +kernel)
set_option maxRecDepth 20000 in
theorem gX8_letter_X4_add : GoodIn wsX8_letter (wsV RX8 56 RX4 yX4_add wsX4_add) := goodIn_app (goodIn_of _ (by decide +kernel)) ggX8_letter_X4_add
theorem dX8_letter_0 : decode cX8_letter 0 = .ok (.iload_n 1, 1) := by decide +kernel
theorem dX8_letter_1 : decode cX8_letter 1 = .ok (.bipush 32, 2) := by decide +kernel
theorem dX8_letter_3 : decode cX8_letter 3 = .ok (.if_icmp .lt 9, 3) := by decide +kernel
theorem dX8_letter_6 : decode cX8_letter 6 = .ok (.iload_n 1, 1) := by decide +kernel
theorem dX8_letter_7 : decode cX8_letter 7 = .ok (.bipush 126, 2) := by decide +kernel
theorem dX8_letter_9 : decode cX8_letter 9 = .ok (.if_icmp .le 6, 3) := by decide +kernel
theorem dX8_letter_12 : decode cX8_letter 12 = .ok (.bipush (-102), 2) := by decide +kernel
theorem dX8_letter_14 : decode cX8_letter 14 = .ok (.ireturn, 1) := by decide +kernel
theorem dX8_letter_15 : decode cX8_letter 15 = .ok (.aload_n 0, 1) := by decide +kernel
theorem dX8_letter_16 : decode cX8_letter 16 = .ok (.getfield 12, 3) := by decide +kernel
theorem dX8_letter_19 : decode cX8_letter 19 = .ok (.getfield 53, 3) := by decide +kernel
theorem dX8_letter_22 : decode cX8_letter 22 = .ok (.bipush 18, 2) := by decide +kernel
theorem dX8_letter_24 : decode cX8_letter 24 = .ok (.if_icmp .lt 6, 3) := by decide +kernel
theorem dX8_letter_27 : decode cX8_letter 27 = .ok (.bipush (-104), 2) := by decide +kernel
theorem dX8_letter_29 : decode cX8_letter 29 = .ok (.ireturn, 1) := by decide +kernel
theorem dX8_letter_30 : decode cX8_letter 30 = .ok (.aload_n 0, 1) := by decide +kernel
theorem dX8_letter_31 : decode cX8_letter 31 = .ok (.getfield 12, 3) := by decide +kernel
theorem dX8_letter_34 : decode cX8_letter 34 = .ok (.iload_n 1, 1) := by decide +kernel
theorem dX8_letter_35 : decode cX8_letter 35 = .ok (.invokevirtual 56, 3) := by decide +kernel
theorem dX8_letter_38 : decode cX8_letter 38 = .ok (.aload_n 0, 1) := by decide +kernel
theorem dX8_letter_39 : decode cX8_letter 39 = .ok (.getfield 12, 3) := by decide +kernel
theorem dX8_letter_42 : decode cX8_letter 42 = .ok (.getfield 53, 3) := by decide +kernel
theorem dX8_letter_45 : decode cX8_letter 45 = .ok (.ireturn, 1) := by decide +kernel
set_option maxRecDepth 20000 in
theorem ggX8_blank_X4_clear : GoodIn wsX8_blank wsX4_clear := goodIn_r _ [7, 8, 22, 23] (by decide +kernel) (by decide +kernel)
set_option maxRecDepth 20000 in
theorem gX8_blank_X4_clear : GoodIn wsX8_blank (wsV RX8 60 RX4 yX4_clear wsX4_clear) := goodIn_app (goodIn_of _ (by decide +kernel)) ggX8_blank_X4_clear
theorem dX8_blank_0 : decode cX8_blank 0 = .ok (.aload_n 0, 1) := by decide +kernel
theorem dX8_blank_1 : decode cX8_blank 1 = .ok (.getfield 12, 3) := by decide +kernel
theorem dX8_blank_4 : decode cX8_blank 4 = .ok (.getfield 53, 3) := by decide +kernel
theorem dX8_blank_7 : decode cX8_blank 7 = .ok (.istore_n 1, 1) := by decide +kernel
theorem dX8_blank_8 : decode cX8_blank 8 = .ok (.aload_n 0, 1) := by decide +kernel
theorem dX8_blank_9 : decode cX8_blank 9 = .ok (.getfield 12, 3) := by decide +kernel
theorem dX8_blank_12 : decode cX8_blank 12 = .ok (.invokevirtual 60, 3) := by decide +kernel
theorem dX8_blank_15 : decode cX8_blank 15 = .ok (.iload_n 1, 1) := by decide +kernel
theorem dX8_blank_16 : decode cX8_blank 16 = .ok (.ireturn, 1) := by decide +kernel
set_option maxRecDepth 20000 in
theorem ggX8_fault_X4_rightLetters : GoodIn wsX8_fault wsX4_rightLetters := goodIn_r _ [6, 7, 8, 9, 10, 5, 11, 12, 13, 14, 15, 16, 17, 18, 19, 20, 21, 22, 23, 24, 25, 26, 27, 28, 29, 30, 31, 32, 33, 34, 35, 36, 37, 51, 52] (by decide +kernel) (by decide +kernel)
set_option maxRecDepth 20000 in
theorem gX8_fault_X4_rightLetters : GoodIn wsX8_fault (wsV RX8 63 RX4 yX4_rightLetters wsX4_rightLetters) := goodIn_app (goodIn_of _ (by decide +kernel)) ggX8_fault_X4_rightLetters
theorem dX8_fault_0 : decode cX8_fault 0 = .ok (.aload_n 0, 1) := by decide +kernel
theorem dX8_fault_1 : decode cX8_fault 1 = .ok (.getfield 12, 3) := by decide +kernel
theorem dX8_fault_4 : decode cX8_fault 4 = .ok (.invokevirtual 63, 3) := by decide +kernel
theorem dX8_fault_7 : decode cX8_fault 7 = .ok (.ireturn, 1) := by decide +kernel
set_option maxRecDepth 20000 in
theorem ggX8_cave_X4_isWhole : GoodIn wsX8_cave wsX4_isWhole := goodIn_r _ [10, 11, 12, 13, 14, 9, 15, 16, 17, 18, 19, 20, 21, 22, 23, 24, 25, 26, 27, 28, 29, 30, 31, 32, 33, 34, 35, 36, 37, 38, 39, 40, 41, 42, 43, 44, 45, 137, 138] (by decide +kernel) (by decide +kernel)
set_option maxRecDepth 20000 in
theorem gX8_cave_X4_isWhole : GoodIn wsX8_cave (wsV RX8 67 RX4 yX4_isWhole wsX4_isWhole) := goodIn_app (goodIn_of _ (by decide +kernel)) ggX8_cave_X4_isWhole
set_option maxRecDepth 20000 in
theorem ggX8_cave_X8_readFathers : GoodIn wsX8_cave wsX8_readFathers := goodIn_r _ [49, 1, 5, 50, 51, 52, 53, 9, 54, 55, 56, 57, 58, 12, 13, 14, 15, 11, 16, 17, 18, 19, 20, 21, 22, 23, 59, 60, 61, 62, 63, 64, 65, 66, 67, 68, 69, 70, 71, 72, 73, 74, 75, 76, 77, 36, 37, 38, 39, 78, 79, 80, 81, 82, 83, 84, 85, 86, 87, 88, 89, 90, 91, 92, 93, 94, 95, 96, 97, 98, 99, 100, 101, 124, 125, 126, 127, 128, 129, 130, 131, 132, 133, 134, 135, 136, 137, 138, 139, 140, 141, 142, 143, 144, 145, 146, 147, 148] (by decide +kernel) (by decide +kernel)
set_option maxRecDepth 20000 in
theorem gX8_cave_X8_readFathers : GoodIn wsX8_cave (wsV RX8 71 RX8 yX8_readFathers wsX8_readFathers) := goodIn_app (goodIn_of _ (by decide +kernel)) ggX8_cave_X8_readFathers
set_option maxRecDepth 20000 in
theorem ggX8_cave_X4_fit : GoodIn wsX8_cave wsX4_fit := goodIn_r _ [105, 12, 13, 14, 9, 15, 11, 16, 17, 18, 19, 20, 21, 22, 23, 36, 37, 38, 39, 137, 138] (by decide +kernel) (by decide +kernel)
set_option maxRecDepth 20000 in
theorem gX8_cave_X4_fit : GoodIn wsX8_cave (wsV RX8 74 RX4 yX4_fit wsX4_fit) := goodIn_app (goodIn_of _ (by decide +kernel)) ggX8_cave_X4_fit
set_option maxRecDepth 20000 in
theorem ggX8_cave_X3_begin : GoodIn wsX8_cave wsX3_begin := goodIn_r _ [110, 111, 112, 113, 114, 115, 116, 117, 118, 22, 119, 149, 150, 151, 152, 153, 154, 155, 156, 157] (by decide +kernel) (by decide +kernel)
set_option maxRecDepth 20000 in
theorem gX8_cave_X3_begin : GoodIn wsX8_cave (wsV RX8 77 RX3 yX3_begin wsX3_begin) := goodIn_app (goodIn_of _ (by decide +kernel)) ggX8_cave_X3_begin
set_option maxRecDepth 20000 in
theorem ggX8_cave_X4_clear : GoodIn wsX8_cave wsX4_clear := goodIn_r _ [123, 11, 137, 138] (by decide +kernel) (by decide +kernel)
set_option maxRecDepth 20000 in
theorem gX8_cave_X4_clear : GoodIn wsX8_cave (wsV RX8 60 RX4 yX4_clear wsX4_clear) := goodIn_app (goodIn_of _ (by decide +kernel)) ggX8_cave_X4_clear
theorem dX8_cave_0 : decode cX8_cave 0 = .ok (.aload_n 0, 1) := by decide +kernel
theorem dX8_cave_1 : decode cX8_cave 1 = .ok (.getfield 12, 3) := by decide +kernel
theorem dX8_cave_4 : decode cX8_cave 4 = .ok (.invokevirtual 67, 3) := by decide +kernel
theorem dX8_cave_7 : decode cX8_cave 7 = .ok (.ifCond .ne 6, 3) := by decide +kernel
theorem dX8_cave_10 : decode cX8_cave 10 = .ok (.bipush (-103), 2) := by decide +kernel
theorem dX8_cave_12 : decode cX8_cave 12 = .ok (.ireturn, 1) := by decide +kernel
theorem dX8_cave_13 : decode cX8_cave 13 = .ok (.aload_n 0, 1) := by decide +kernel
theorem dX8_cave_14 : decode cX8_cave 14 = .ok (.invokevirtual 71, 3) := by decide +kernel
theorem dX8_cave_17 : decode cX8_cave 17 = .ok (.aload_n 0, 1) := by decide +kernel
theorem dX8_cave_18 : decode cX8_cave 18 = .ok (.getfield 25, 3) := by decide +kernel
theorem dX8_cave_21 : decode cX8_cave 21 = .ok (.aload_n 0, 1) := by decide +kernel
theorem dX8_cave_22 : decode cX8_cave 22 = .ok (.getfield 12, 3) := by decide +kernel
theorem dX8_cave_25 : decode cX8_cave 25 = .ok (.invokevirtual 74, 3) := by decide +kernel
theorem dX8_cave_28 : decode cX8_cave 28 = .ok (.invokevirtual 77, 3) := by decide +kernel
theorem dX8_cave_31 : decode cX8_cave 31 = .ok (.aload_n 0, 1) := by decide +kernel
theorem dX8_cave_32 : decode cX8_cave 32 = .ok (.getfield 12, 3) := by decide +kernel
theorem dX8_cave_35 : decode cX8_cave 35 = .ok (.invokevirtual 60, 3) := by decide +kernel
theorem dX8_cave_38 : decode cX8_cave 38 = .ok (.aload_n 0, 1) := by decide +kernel
theorem dX8_cave_39 : decode cX8_cave 39 = .ok (.iconst 0, 1) := by decide +kernel
theorem dX8_cave_40 : decode cX8_cave 40 = .ok (.putfield 80, 3) := by decide +kernel
theorem dX8_cave_43 : decode cX8_cave 43 = .ok (.aload_n 0, 1) := by decide +kernel
theorem dX8_cave_44 : decode cX8_cave 44 = .ok (.dup, 1) := by decide +kernel
theorem dX8_cave_45 : decode cX8_cave 45 = .ok (.getfield 84, 3) := by decide +kernel
theorem dX8_cave_48 : decode cX8_cave 48 = .ok (.iconst 1, 1) := by decide +kernel
theorem dX8_cave_49 : decode cX8_cave 49 = .ok (.iadd, 1) := by decide +kernel
theorem dX8_cave_50 : decode cX8_cave 50 = .ok (.putfield 84, 3) := by decide +kernel
theorem dX8_cave_53 : decode cX8_cave 53 = .ok (.aload_n 0, 1) := by decide +kernel
theorem dX8_cave_54 : decode cX8_cave 54 = .ok (.getfield 87, 3) := by decide +kernel
theorem dX8_cave_57 : decode cX8_cave 57 = .ok (.ireturn, 1) := by decide +kernel
set_option maxRecDepth 20000 in
theorem ggX8_about_X8_fatherAt : GoodIn wsX8_about wsX8_fatherAt := goodIn_r _ [11] (by decide +kernel) (by decide +kernel)
set_option maxRecDepth 20000 in
theorem gX8_about_X8_fatherAt : GoodIn wsX8_about (va_wsS RX8 90 yX8_fatherAt wsX8_fatherAt) := goodIn_app (goodIn_of _ (by decide +kernel)) ggX8_about_X8_fatherAt
set_option maxRecDepth 20000 in
theorem ggX8_about_X0_kind : GoodIn wsX8_about wsX0_kind := goodIn_r _ [18] (by decide +kernel) (by decide +kernel)
set_option maxRecDepth 20000 in
theorem gX8_about_X0_kind_u94X0 : GoodIn wsX8_about (va_wsO RX8 94 RX0 "RotaFathers$Father" ⟨"RotaFathers$Father", "kind", "()I"⟩ yX0_kind wsX0_kind) := goodIn_app (goodIn_of _ (by decide +kernel)) ggX8_about_X0_kind
set_option maxRecDepth 20000 in
theorem ggX8_about_X1_kind : GoodIn wsX8_about wsX1_kind := goodIn_r _ [23] (by decide +kernel) (by decide +kernel)
set_option maxRecDepth 20000 in
theorem gX8_about_X1_kind_u94X1 : GoodIn wsX8_about (va_wsO RX8 94 RX1 "RotaFathers$Father" ⟨"RotaFathers$Father", "kind", "()I"⟩ yX1_kind wsX1_kind) := goodIn_app (goodIn_of _ (by decide +kernel)) ggX8_about_X1_kind
set_option maxRecDepth 20000 in
theorem ggX8_about_X2_kind : GoodIn wsX8_about wsX2_kind := goodIn_r _ [19] (by decide +kernel) (by decide +kernel)
set_option maxRecDepth 20000 in
theorem gX8_about_X2_kind : GoodIn wsX8_about (wsV RX8 94 RX2 yX2_kind wsX2_kind) := goodIn_app (goodIn_of _ (by decide +kernel)) ggX8_about_X2_kind
set_option maxRecDepth 20000 in
theorem ggX8_about_X5_kind : GoodIn wsX8_about wsX5_kind := goodIn_r _ [31] (by decide +kernel) (by decide +kernel)
set_option maxRecDepth 20000 in
theorem gX8_about_X5_kind_u94X5 : GoodIn wsX8_about (va_wsO RX8 94 RX5 "RotaFathers$Father" ⟨"RotaFathers$Father", "kind", "()I"⟩ yX5_kind wsX5_kind) := goodIn_app (goodIn_of _ (by decide +kernel)) ggX8_about_X5_kind
set_option maxRecDepth 20000 in
theorem ggX8_about_X6_kind : GoodIn wsX8_about wsX6_kind := goodIn_r _ [35] (by decide +kernel) (by decide +kernel)
set_option maxRecDepth 20000 in
theorem gX8_about_X6_kind_u94X6 : GoodIn wsX8_about (va_wsO RX8 94 RX6 "RotaFathers$Father" ⟨"RotaFathers$Father", "kind", "()I"⟩ yX6_kind wsX6_kind) := goodIn_app (goodIn_of _ (by decide +kernel)) ggX8_about_X6_kind
set_option maxRecDepth 20000 in
theorem ggX8_about_X8_at : GoodIn wsX8_about wsX8_at := goodIn_r _ [38] (by decide +kernel) (by decide +kernel)
set_option maxRecDepth 20000 in
theorem gX8_about_X8_at : GoodIn wsX8_about (va_wsS RX8 106 yX8_at wsX8_at) := goodIn_app (goodIn_of _ (by decide +kernel)) ggX8_about_X8_at
set_option maxRecDepth 20000 in
theorem ggX8_about_X8_shiftsOf : GoodIn wsX8_about wsX8_shiftsOf := goodIn_r _ [42, 4, 43, 36, 37, 10, 38, 134, 135, 136, 137, 138, 139, 140, 141, 142, 143, 144, 145, 146, 157, 158, 159, 160, 161, 162, 163, 164, 165] (by decide +kernel) (by decide +kernel)
set_option maxRecDepth 20000 in
theorem gX8_about_X8_shiftsOf : GoodIn wsX8_about (wsV RX8 113 RX8 yX8_shiftsOf wsX8_shiftsOf) := goodIn_app (goodIn_of _ (by decide +kernel)) ggX8_about_X8_shiftsOf
set_option maxRecDepth 20000 in
theorem ggX8_about_X8_knows : GoodIn wsX8_about wsX8_knows := goodIn_r _ [46] (by decide +kernel) (by decide +kernel)
set_option maxRecDepth 20000 in
theorem gX8_about_X8_knows : GoodIn wsX8_about (va_wsS RX8 120 yX8_knows wsX8_knows) := goodIn_app (goodIn_of _ (by decide +kernel)) ggX8_about_X8_knows
set_option maxRecDepth 20000 in
theorem ggX8_about_X8_nextMeritOf : GoodIn wsX8_about wsX8_nextMeritOf := goodIn_r _ [50, 4, 43, 51, 52, 53, 54, 10, 55, 56, 57, 58, 59, 60, 1, 61, 7, 62, 63, 64, 65, 66, 67, 68, 69, 70, 71, 72, 73, 74, 75, 76, 77, 78, 79, 37, 38, 9, 11, 80, 81, 82, 83, 84, 85, 86, 87, 45, 46, 88, 89, 90, 91, 27, 92, 93, 94, 95, 96, 97, 98, 99, 34, 100, 101, 102, 103, 104, 105, 17, 106, 107, 108, 109, 110, 111, 22, 112, 113, 114, 115, 116, 117, 118, 119, 120, 121, 122, 123, 124, 125, 126, 127, 128, 129, 130, 131, 30, 132, 133, 36, 134, 135, 136, 137, 138, 139, 140, 141, 142, 143, 144, 145, 146, 157, 158, 159, 160, 161, 162, 163, 164, 165, 166, 167, 168, 169, 170, 171, 172, 147, 148, 149, 150, 151, 152, 153, 154, 155, 156] (by decide +kernel) (by decide +kernel)
set_option maxRecDepth 20000 in
theorem gX8_about_X8_nextMeritOf : GoodIn wsX8_about (wsV RX8 124 RX8 yX8_nextMeritOf wsX8_nextMeritOf) := goodIn_app (goodIn_of _ (by decide +kernel)) ggX8_about_X8_nextMeritOf
theorem dX8_about_0 : decode cX8_about 0 = .ok (.aload_n 0, 1) := by decide +kernel
theorem dX8_about_1 : decode cX8_about 1 = .ok (.getfield 18, 3) := by decide +kernel
theorem dX8_about_4 : decode cX8_about 4 = .ok (.iload_n 1, 1) := by decide +kernel
theorem dX8_about_5 : decode cX8_about 5 = .ok (.invokestatic 90, 3) := by decide +kernel
theorem dX8_about_8 : decode cX8_about 8 = .ok (.astore_n 3, 1) := by decide +kernel
theorem dX8_about_9 : decode cX8_about 9 = .ok (.aload_n 3, 1) := by decide +kernel
theorem dX8_about_10 : decode cX8_about 10 = .ok (.ifnonnull 6, 3) := by decide +kernel
theorem dX8_about_13 : decode cX8_about 13 = .ok (.bipush (-101), 2) := by decide +kernel
theorem dX8_about_15 : decode cX8_about 15 = .ok (.ireturn, 1) := by decide +kernel
theorem dX8_about_16 : decode cX8_about 16 = .ok (.iload_n 2, 1) := by decide +kernel
theorem dX8_about_17 : decode cX8_about 17 = .ok (.tableswitch 121 0 7 #[47, 52, 57, 62, 74, 86, 92, 115], 47) := by decide +kernel
theorem dX8_about_64 : decode cX8_about 64 = .ok (.aload_n 3, 1) := by decide +kernel
theorem dX8_about_65 : decode cX8_about 65 = .ok (.invokevirtual 94, 3) := by decide +kernel
theorem dX8_about_68 : decode cX8_about 68 = .ok (.ireturn, 1) := by decide +kernel
theorem dX8_about_69 : decode cX8_about 69 = .ok (.aload_n 3, 1) := by decide +kernel
theorem dX8_about_70 : decode cX8_about 70 = .ok (.getfield 97, 3) := by decide +kernel
theorem dX8_about_73 : decode cX8_about 73 = .ok (.ireturn, 1) := by decide +kernel
theorem dX8_about_74 : decode cX8_about 74 = .ok (.aload_n 3, 1) := by decide +kernel
theorem dX8_about_75 : decode cX8_about 75 = .ok (.getfield 100, 3) := by decide +kernel
theorem dX8_about_78 : decode cX8_about 78 = .ok (.ireturn, 1) := by decide +kernel
theorem dX8_about_79 : decode cX8_about 79 = .ok (.aload_n 0, 1) := by decide +kernel
theorem dX8_about_80 : decode cX8_about 80 = .ok (.getfield 25, 3) := by decide +kernel
theorem dX8_about_83 : decode cX8_about 83 = .ok (.getfield 103, 3) := by decide +kernel
theorem dX8_about_86 : decode cX8_about 86 = .ok (.iload_n 1, 1) := by decide +kernel
theorem dX8_about_87 : decode cX8_about 87 = .ok (.invokestatic 106, 3) := by decide +kernel
theorem dX8_about_90 : decode cX8_about 90 = .ok (.ireturn, 1) := by decide +kernel
theorem dX8_about_91 : decode cX8_about 91 = .ok (.aload_n 0, 1) := by decide +kernel
theorem dX8_about_92 : decode cX8_about 92 = .ok (.getfield 25, 3) := by decide +kernel
theorem dX8_about_95 : decode cX8_about 95 = .ok (.getfield 110, 3) := by decide +kernel
theorem dX8_about_98 : decode cX8_about 98 = .ok (.iload_n 1, 1) := by decide +kernel
theorem dX8_about_99 : decode cX8_about 99 = .ok (.invokestatic 106, 3) := by decide +kernel
theorem dX8_about_102 : decode cX8_about 102 = .ok (.ireturn, 1) := by decide +kernel
theorem dX8_about_103 : decode cX8_about 103 = .ok (.aload_n 0, 1) := by decide +kernel
theorem dX8_about_104 : decode cX8_about 104 = .ok (.iload_n 1, 1) := by decide +kernel
theorem dX8_about_105 : decode cX8_about 105 = .ok (.invokevirtual 113, 3) := by decide +kernel
theorem dX8_about_108 : decode cX8_about 108 = .ok (.ireturn, 1) := by decide +kernel
theorem dX8_about_109 : decode cX8_about 109 = .ok (.aload_n 0, 1) := by decide +kernel
theorem dX8_about_110 : decode cX8_about 110 = .ok (.getfield 25, 3) := by decide +kernel
theorem dX8_about_113 : decode cX8_about 113 = .ok (.getfield 117, 3) := by decide +kernel
theorem dX8_about_116 : decode cX8_about 116 = .ok (.aload_n 3, 1) := by decide +kernel
theorem dX8_about_117 : decode cX8_about 117 = .ok (.getfield 97, 3) := by decide +kernel
theorem dX8_about_120 : decode cX8_about 120 = .ok (.invokestatic 120, 3) := by decide +kernel
theorem dX8_about_123 : decode cX8_about 123 = .ok (.ifCond .eq 7, 3) := by decide +kernel
theorem dX8_about_126 : decode cX8_about 126 = .ok (.iconst 1, 1) := by decide +kernel
theorem dX8_about_127 : decode cX8_about 127 = .ok (.goto 4, 3) := by decide +kernel
theorem dX8_about_130 : decode cX8_about 130 = .ok (.iconst 0, 1) := by decide +kernel
theorem dX8_about_131 : decode cX8_about 131 = .ok (.ireturn, 1) := by decide +kernel
theorem dX8_about_132 : decode cX8_about 132 = .ok (.aload_n 0, 1) := by decide +kernel
theorem dX8_about_133 : decode cX8_about 133 = .ok (.iload_n 1, 1) := by decide +kernel
theorem dX8_about_134 : decode cX8_about 134 = .ok (.invokevirtual 124, 3) := by decide +kernel
theorem dX8_about_137 : decode cX8_about 137 = .ok (.ireturn, 1) := by decide +kernel
theorem dX8_about_138 : decode cX8_about 138 = .ok (.bipush (-102), 2) := by decide +kernel
