set_option maxRecDepth 20000 in
theorem gX4_isDigit_X4_digit : GoodIn wsX4_isDigit (wsV RX4 44 RX4 yX4_digit wsX4_digit) := goodIn_app (goodIn_of _ (by decide +kernel)) ggX4_isDigit_X4_digit
theorem dX4_isDigit_0 : decode cX4_isDigit 0 = .ok (.aload_n 0, 1) := by decide +kernel
theorem dX4_isDigit_1 : decode cX4_isDigit 1 = .ok (.iload_n 1, 1) := by decide +kernel
theorem dX4_isDigit_2 : decode cX4_isDigit 2 = .ok (.invokevirtual 44, 3) := by decide +kernel
theorem dX4_isDigit_5 : decode cX4_isDigit 5 = .ok (.istore 4, 2) := by decide +kernel
theorem dX4_isDigit_7 : decode cX4_isDigit 7 = .ok (.iload 4, 2) := by decide +kernel
theorem dX4_isDigit_9 : decode cX4_isDigit 9 = .ok (.iload_n 2, 1) := by decide +kernel
theorem dX4_isDigit_10 : decode cX4_isDigit 10 = .ok (.if_icmp .lt 13, 3) := by decide +kernel
theorem dX4_isDigit_13 : decode cX4_isDigit 13 = .ok (.iload 4, 2) := by decide +kernel
theorem dX4_isDigit_15 : decode cX4_isDigit 15 = .ok (.iload_n 3, 1) := by decide +kernel
theorem dX4_isDigit_16 : decode cX4_isDigit 16 = .ok (.if_icmp .gt 7, 3) := by decide +kernel
theorem dX4_isDigit_19 : decode cX4_isDigit 19 = .ok (.iconst 1, 1) := by decide +kernel
theorem dX4_isDigit_20 : decode cX4_isDigit 20 = .ok (.goto 4, 3) := by decide +kernel
theorem dX4_isDigit_23 : decode cX4_isDigit 23 = .ok (.iconst 0, 1) := by decide +kernel
theorem dX4_isDigit_24 : decode cX4_isDigit 24 = .ok (.ireturn, 1) := by decide +kernel
theorem dX4_isKind_0 : decode cX4_isKind 0 = .ok (.iload_n 0, 1) := by decide +kernel
theorem dX4_isKind_1 : decode cX4_isKind 1 = .ok (.bipush 102, 2) := by decide +kernel
theorem dX4_isKind_3 : decode cX4_isKind 3 = .ok (.if_icmp .eq 27, 3) := by decide +kernel
theorem dX4_isKind_6 : decode cX4_isKind 6 = .ok (.iload_n 0, 1) := by decide +kernel
theorem dX4_isKind_7 : decode cX4_isKind 7 = .ok (.bipush 99, 2) := by decide +kernel
theorem dX4_isKind_9 : decode cX4_isKind 9 = .ok (.if_icmp .eq 21, 3) := by decide +kernel
theorem dX4_isKind_12 : decode cX4_isKind 12 = .ok (.iload_n 0, 1) := by decide +kernel
theorem dX4_isKind_13 : decode cX4_isKind 13 = .ok (.bipush 115, 2) := by decide +kernel
theorem dX4_isKind_15 : decode cX4_isKind 15 = .ok (.if_icmp .eq 15, 3) := by decide +kernel
theorem dX4_isKind_18 : decode cX4_isKind 18 = .ok (.iload_n 0, 1) := by decide +kernel
theorem dX4_isKind_19 : decode cX4_isKind 19 = .ok (.bipush 112, 2) := by decide +kernel
theorem dX4_isKind_21 : decode cX4_isKind 21 = .ok (.if_icmp .eq 9, 3) := by decide +kernel
theorem dX4_isKind_24 : decode cX4_isKind 24 = .ok (.iload_n 0, 1) := by decide +kernel
theorem dX4_isKind_25 : decode cX4_isKind 25 = .ok (.bipush 97, 2) := by decide +kernel
theorem dX4_isKind_27 : decode cX4_isKind 27 = .ok (.if_icmp .ne 7, 3) := by decide +kernel
theorem dX4_isKind_30 : decode cX4_isKind 30 = .ok (.iconst 1, 1) := by decide +kernel
theorem dX4_isKind_31 : decode cX4_isKind 31 = .ok (.goto 4, 3) := by decide +kernel
theorem dX4_isKind_34 : decode cX4_isKind 34 = .ok (.iconst 0, 1) := by decide +kernel
theorem dX4_isKind_35 : decode cX4_isKind 35 = .ok (.ireturn, 1) := by decide +kernel
theorem dX4_endsFather_0 : decode cX4_endsFather 0 = .ok (.iload_n 0, 1) := by decide +kernel
theorem dX4_endsFather_1 : decode cX4_endsFather 1 = .ok (.bipush 59, 2) := by decide +kernel
theorem dX4_endsFather_3 : decode cX4_endsFather 3 = .ok (.if_icmp .ne 14, 3) := by decide +kernel
theorem dX4_endsFather_6 : decode cX4_endsFather 6 = .ok (.iload_n 1, 1) := by decide +kernel
theorem dX4_endsFather_7 : decode cX4_endsFather 7 = .ok (.iconst 2, 1) := by decide +kernel
theorem dX4_endsFather_8 : decode cX4_endsFather 8 = .ok (.if_icmp .lt 7, 3) := by decide +kernel
theorem dX4_endsFather_11 : decode cX4_endsFather 11 = .ok (.iconst 1, 1) := by decide +kernel
theorem dX4_endsFather_12 : decode cX4_endsFather 12 = .ok (.goto 4, 3) := by decide +kernel
theorem dX4_endsFather_15 : decode cX4_endsFather 15 = .ok (.iconst 0, 1) := by decide +kernel
theorem dX4_endsFather_16 : decode cX4_endsFather 16 = .ok (.ireturn, 1) := by decide +kernel
theorem dX4_endsFather_17 : decode cX4_endsFather 17 = .ok (.iload_n 0, 1) := by decide +kernel
theorem dX4_endsFather_18 : decode cX4_endsFather 18 = .ok (.bipush 44, 2) := by decide +kernel
theorem dX4_endsFather_20 : decode cX4_endsFather 20 = .ok (.if_icmp .ne 12, 3) := by decide +kernel
theorem dX4_endsFather_23 : decode cX4_endsFather 23 = .ok (.iload_n 1, 1) := by decide +kernel
theorem dX4_endsFather_24 : decode cX4_endsFather 24 = .ok (.iconst 4, 1) := by decide +kernel
theorem dX4_endsFather_25 : decode cX4_endsFather 25 = .ok (.if_icmp .ge 7, 3) := by decide +kernel
theorem dX4_endsFather_28 : decode cX4_endsFather 28 = .ok (.iconst 1, 1) := by decide +kernel
theorem dX4_endsFather_29 : decode cX4_endsFather 29 = .ok (.goto 4, 3) := by decide +kernel
theorem dX4_endsFather_32 : decode cX4_endsFather 32 = .ok (.iconst 0, 1) := by decide +kernel
theorem dX4_endsFather_33 : decode cX4_endsFather 33 = .ok (.ireturn, 1) := by decide +kernel
set_option maxRecDepth 20000 in
theorem ggX5_init_X2_init : GoodIn wsX5_init wsX2_init := goodIn_r _ [4, 5, 6, 7, 8, 9, 10, 11, 12, 13, 14, 15, 16, 17, 18, 19] (by decide +kernel) (by decide +kernel)
set_option maxRecDepth 20000 in
theorem gX5_init_X2_init : GoodIn wsX5_init (wsX2_init) := ggX5_init_X2_init
theorem dX5_init_0 : decode cX5_init 0 = .ok (.aload_n 0, 1) := by decide +kernel
theorem dX5_init_1 : decode cX5_init 1 = .ok (.iload_n 1, 1) := by decide +kernel
theorem dX5_init_2 : decode cX5_init 2 = .ok (.iload_n 2, 1) := by decide +kernel
theorem dX5_init_3 : decode cX5_init 3 = .ok (.invokespecial 3, 3) := by decide +kernel
theorem dX5_init_6 : decode cX5_init 6 = .ok (.return_, 1) := by decide +kernel
theorem dX5_kind_0 : decode cX5_kind 0 = .ok (.iconst 3, 1) := by decide +kernel
theorem dX5_kind_1 : decode cX5_kind 1 = .ok (.ireturn, 1) := by decide +kernel
theorem dX5_fitterByStanding_0 : decode cX5_fitterByStanding 0 = .ok (.iconst 1, 1) := by decide +kernel
theorem dX5_fitterByStanding_1 : decode cX5_fitterByStanding 1 = .ok (.ireturn, 1) := by decide +kernel
set_option maxRecDepth 20000 in
theorem ggX6_init_X2_init : GoodIn wsX6_init wsX2_init := goodIn_r _ [4, 5, 6, 7, 8, 9, 10, 11, 12, 13, 14, 15, 16, 17, 18, 19] (by decide +kernel) (by decide +kernel)
set_option maxRecDepth 20000 in
theorem gX6_init_X2_init : GoodIn wsX6_init (wsX2_init) := ggX6_init_X2_init
theorem dX6_init_0 : decode cX6_init 0 = .ok (.aload_n 0, 1) := by decide +kernel
theorem dX6_init_1 : decode cX6_init 1 = .ok (.iload_n 1, 1) := by decide +kernel
theorem dX6_init_2 : decode cX6_init 2 = .ok (.iload_n 2, 1) := by decide +kernel
theorem dX6_init_3 : decode cX6_init 3 = .ok (.invokespecial 3, 3) := by decide +kernel
theorem dX6_init_6 : decode cX6_init 6 = .ok (.return_, 1) := by decide +kernel
theorem dX6_kind_0 : decode cX6_kind 0 = .ok (.iconst 2, 1) := by decide +kernel
theorem dX6_kind_1 : decode cX6_kind 1 = .ok (.ireturn, 1) := by decide +kernel
theorem dX6_letsItSleep_0 : decode cX6_letsItSleep 0 = .ok (.iconst 1, 1) := by decide +kernel
theorem dX6_letsItSleep_1 : decode cX6_letsItSleep 1 = .ok (.ireturn, 1) := by decide +kernel
theorem dX7_init_0 : decode cX7_init 0 = .ok (.aload_n 0, 1) := by decide +kernel
theorem dX7_init_1 : decode cX7_init 1 = .ok (.invokespecial 3, 3) := by decide +kernel
theorem dX7_init_4 : decode cX7_init 4 = .ok (.aload_n 0, 1) := by decide +kernel
theorem dX7_init_5 : decode cX7_init 5 = .ok (.bipush 9, 2) := by decide +kernel
theorem dX7_init_7 : decode cX7_init 7 = .ok (.newarray .int, 2) := by decide +kernel
theorem dX7_init_9 : decode cX7_init 9 = .ok (.putfield 9, 3) := by decide +kernel
theorem dX7_init_12 : decode cX7_init 12 = .ok (.aload_n 0, 1) := by decide +kernel
theorem dX7_init_13 : decode cX7_init 13 = .ok (.bipush 8, 2) := by decide +kernel
theorem dX7_init_15 : decode cX7_init 15 = .ok (.newarray .int, 2) := by decide +kernel
theorem dX7_init_17 : decode cX7_init 17 = .ok (.putfield 15, 3) := by decide +kernel
theorem dX7_init_20 : decode cX7_init 20 = .ok (.aload_n 0, 1) := by decide +kernel
theorem dX7_init_21 : decode cX7_init 21 = .ok (.bipush 8, 2) := by decide +kernel
theorem dX7_init_23 : decode cX7_init 23 = .ok (.newarray .int, 2) := by decide +kernel
theorem dX7_init_25 : decode cX7_init 25 = .ok (.putfield 18, 3) := by decide +kernel
theorem dX7_init_28 : decode cX7_init 28 = .ok (.aload_n 0, 1) := by decide +kernel
theorem dX7_init_29 : decode cX7_init 29 = .ok (.bipush 8, 2) := by decide +kernel
theorem dX7_init_31 : decode cX7_init 31 = .ok (.newarray .int, 2) := by decide +kernel
theorem dX7_init_33 : decode cX7_init 33 = .ok (.putfield 21, 3) := by decide +kernel
theorem dX7_init_36 : decode cX7_init 36 = .ok (.return_, 1) := by decide +kernel
set_option maxRecDepth 20000 in
theorem ggX7_live_X8_put : GoodIn wsX7_live wsX8_put := goodIn_r _ [14] (by decide +kernel) (by decide +kernel)
set_option maxRecDepth 20000 in
theorem gX7_live_X8_put_n34 : GoodIn wsX7_live (wsX8_put) := ggX7_live_X8_put
set_option maxRecDepth 20000 in
theorem ggX7_live_X8_at : GoodIn wsX7_live wsX8_at := goodIn_r _ [16] (by decide +kernel) (by decide +kernel)
set_option maxRecDepth 20000 in
theorem gX7_live_X8_at_n38 : GoodIn wsX7_live (wsX8_at) := ggX7_live_X8_at
set_option maxRecDepth 20000 in
theorem ggX7_live_X8_fatherAt : GoodIn wsX7_live wsX8_fatherAt := goodIn_r _ [18] (by decide +kernel) (by decide +kernel)
set_option maxRecDepth 20000 in
theorem gX7_live_X8_fatherAt_n42 : GoodIn wsX7_live (wsX8_fatherAt) := ggX7_live_X8_fatherAt
set_option maxRecDepth 20000 in
theorem ggX7_live_X7_meet : GoodIn wsX7_live wsX7_meet := goodIn_r _ [23, 24, 25, 26, 1, 27, 3, 2, 12, 13, 14, 28, 29, 30, 31, 32, 33, 34, 35, 36, 37, 38, 39, 40, 41, 42, 43, 44, 45, 46, 47, 48, 49, 50, 51, 52, 53, 54, 55, 56, 57, 58, 59, 60, 61, 62, 63, 64, 65, 66, 67, 68, 69, 70, 71, 72, 73, 74, 75, 76, 77, 78, 79, 80, 81, 82, 83, 84, 85, 86, 87, 88, 89, 90, 91, 92, 93, 94, 95, 96, 97] (by decide +kernel) (by decide +kernel)
set_option maxRecDepth 20000 in
theorem gX7_live_X7_meet : GoodIn wsX7_live (wsV RX7 46 RX7 yX7_meet wsX7_meet) := goodIn_app (goodIn_of _ (by decide +kernel)) ggX7_live_X7_meet
theorem dX7_live_0 : decode cX7_live 0 = .ok (.iload_n 3, 1) := by decide +kernel
theorem dX7_live_1 : decode cX7_live 1 = .ok (.istore 5, 2) := by decide +kernel
theorem dX7_live_3 : decode cX7_live 3 = .ok (.aload_n 0, 1) := by decide +kernel
theorem dX7_live_4 : decode cX7_live 4 = .ok (.iload 4, 2) := by decide +kernel
theorem dX7_live_6 : decode cX7_live 6 = .ok (.putfield 24, 3) := by decide +kernel
theorem dX7_live_9 : decode cX7_live 9 = .ok (.aload_n 0, 1) := by decide +kernel
theorem dX7_live_10 : decode cX7_live 10 = .ok (.iconst 0, 1) := by decide +kernel
theorem dX7_live_11 : decode cX7_live 11 = .ok (.putfield 28, 3) := by decide +kernel
theorem dX7_live_14 : decode cX7_live 14 = .ok (.aload_n 0, 1) := by decide +kernel
theorem dX7_live_15 : decode cX7_live 15 = .ok (.iconst 0, 1) := by decide +kernel
theorem dX7_live_16 : decode cX7_live 16 = .ok (.putfield 31, 3) := by decide +kernel
theorem dX7_live_19 : decode cX7_live 19 = .ok (.iconst 0, 1) := by decide +kernel
theorem dX7_live_20 : decode cX7_live 20 = .ok (.istore 6, 2) := by decide +kernel
theorem dX7_live_22 : decode cX7_live 22 = .ok (.iload 6, 2) := by decide +kernel
theorem dX7_live_24 : decode cX7_live 24 = .ok (.bipush 8, 2) := by decide +kernel
theorem dX7_live_26 : decode cX7_live 26 = .ok (.if_icmp .ge 56, 3) := by decide +kernel
theorem dX7_live_29 : decode cX7_live 29 = .ok (.aload_n 0, 1) := by decide +kernel
theorem dX7_live_30 : decode cX7_live 30 = .ok (.getfield 9, 3) := by decide +kernel
theorem dX7_live_33 : decode cX7_live 33 = .ok (.iload 6, 2) := by decide +kernel
theorem dX7_live_35 : decode cX7_live 35 = .ok (.iload 5, 2) := by decide +kernel
theorem dX7_live_37 : decode cX7_live 37 = .ok (.invokestatic 34, 3) := by decide +kernel
theorem dX7_live_40 : decode cX7_live 40 = .ok (.aload_n 0, 1) := by decide +kernel
theorem dX7_live_41 : decode cX7_live 41 = .ok (.iload 6, 2) := by decide +kernel
theorem dX7_live_43 : decode cX7_live 43 = .ok (.aload_n 1, 1) := by decide +kernel
theorem dX7_live_44 : decode cX7_live 44 = .ok (.aload_n 2, 1) := by decide +kernel
theorem dX7_live_45 : decode cX7_live 45 = .ok (.iload 6, 2) := by decide +kernel
theorem dX7_live_47 : decode cX7_live 47 = .ok (.invokestatic 38, 3) := by decide +kernel
theorem dX7_live_50 : decode cX7_live 50 = .ok (.invokestatic 42, 3) := by decide +kernel
theorem dX7_live_53 : decode cX7_live 53 = .ok (.iload 5, 2) := by decide +kernel
theorem dX7_live_55 : decode cX7_live 55 = .ok (.invokevirtual 46, 3) := by decide +kernel
theorem dX7_live_58 : decode cX7_live 58 = .ok (.istore 7, 2) := by decide +kernel
theorem dX7_live_60 : decode cX7_live 60 = .ok (.iconst 0, 1) := by decide +kernel
theorem dX7_live_61 : decode cX7_live 61 = .ok (.bipush 9, 2) := by decide +kernel
theorem dX7_live_63 : decode cX7_live 63 = .ok (.iload 5, 2) := by decide +kernel
theorem dX7_live_65 : decode cX7_live 65 = .ok (.iload 7, 2) := by decide +kernel
theorem dX7_live_67 : decode cX7_live 67 = .ok (.iadd, 1) := by decide +kernel
theorem dX7_live_68 : decode cX7_live 68 = .ok (.invokestatic 50, 3) := by decide +kernel
theorem dX7_live_71 : decode cX7_live 71 = .ok (.invokestatic 56, 3) := by decide +kernel
theorem dX7_live_74 : decode cX7_live 74 = .ok (.istore 5, 2) := by decide +kernel
theorem dX7_live_76 : decode cX7_live 76 = .ok (.iinc 6 1, 3) := by decide +kernel
theorem dX7_live_79 : decode cX7_live 79 = .ok (.goto (-57), 3) := by decide +kernel
theorem dX7_live_82 : decode cX7_live 82 = .ok (.aload_n 0, 1) := by decide +kernel
theorem dX7_live_83 : decode cX7_live 83 = .ok (.getfield 9, 3) := by decide +kernel
theorem dX7_live_86 : decode cX7_live 86 = .ok (.bipush 8, 2) := by decide +kernel
theorem dX7_live_88 : decode cX7_live 88 = .ok (.iload 5, 2) := by decide +kernel
theorem dX7_live_90 : decode cX7_live 90 = .ok (.invokestatic 34, 3) := by decide +kernel
theorem dX7_live_93 : decode cX7_live 93 = .ok (.return_, 1) := by decide +kernel
set_option maxRecDepth 20000 in
theorem ggX7_meet_X8_put : GoodIn wsX7_meet wsX8_put := goodIn_r _ [10] (by decide +kernel) (by decide +kernel)
set_option maxRecDepth 20000 in
theorem gX7_meet_X8_put_n34 : GoodIn wsX7_meet (wsX8_put) := ggX7_meet_X8_put
set_option maxRecDepth 20000 in
theorem ggX7_meet_X8_knows : GoodIn wsX7_meet wsX8_knows := goodIn_r _ [12] (by decide +kernel) (by decide +kernel)
set_option maxRecDepth 20000 in
theorem gX7_meet_X8_knows_n64 : GoodIn wsX7_meet (wsX8_knows) := ggX7_meet_X8_knows
set_option maxRecDepth 20000 in
theorem ggX7_meet_X2_letsItSleep : GoodIn wsX7_meet wsX2_letsItSleep := goodIn_r _ [18] (by decide +kernel) (by decide +kernel)
set_option maxRecDepth 20000 in
theorem gX7_meet_X2_letsItSleep_u68X0 : GoodIn wsX7_meet (va_wsU RX7 68 RX0 "RotaFathers$Father" ⟨"RotaFathers$Father", "letsItSleep", "()Z"⟩ yX2_letsItSleep wsX2_letsItSleep) := goodIn_app (goodIn_of _ (by decide +kernel)) ggX7_meet_X2_letsItSleep
set_option maxRecDepth 20000 in
theorem gX7_meet_X2_letsItSleep_u68X1 : GoodIn wsX7_meet (va_wsU RX7 68 RX1 "RotaFathers$Father" ⟨"RotaFathers$Father", "letsItSleep", "()Z"⟩ yX2_letsItSleep wsX2_letsItSleep) := goodIn_app (goodIn_of _ (by decide +kernel)) ggX7_meet_X2_letsItSleep
set_option maxRecDepth 20000 in
theorem gX7_meet_X2_letsItSleep : GoodIn wsX7_meet (wsV RX7 68 RX2 yX2_letsItSleep wsX2_letsItSleep) := goodIn_app (goodIn_of _ (by decide +kernel)) ggX7_meet_X2_letsItSleep
set_option maxRecDepth 20000 in
theorem gX7_meet_X2_letsItSleep_u68X5 : GoodIn wsX7_meet (va_wsU RX7 68 RX5 "RotaFathers$Father" ⟨"RotaFathers$Father", "letsItSleep", "()Z"⟩ yX2_letsItSleep wsX2_letsItSleep) := goodIn_app (goodIn_of _ (by decide +kernel)) ggX7_meet_X2_letsItSleep
set_option maxRecDepth 20000 in
theorem ggX7_meet_X6_letsItSleep : GoodIn wsX7_meet wsX6_letsItSleep := goodIn_r _ [27] (by decide +kernel) (by decide +kernel)
set_option maxRecDepth 20000 in
theorem gX7_meet_X6_letsItSleep_u68X6 : GoodIn wsX7_meet (va_wsO RX7 68 RX6 "RotaFathers$Father" ⟨"RotaFathers$Father", "letsItSleep", "()Z"⟩ yX6_letsItSleep wsX6_letsItSleep) := goodIn_app (goodIn_of _ (by decide +kernel)) ggX7_meet_X6_letsItSleep
set_option maxRecDepth 20000 in
theorem ggX7_meet_X0_bears : GoodIn wsX7_meet wsX0_bears := goodIn_r _ [34, 35, 36, 71, 72, 73, 74, 75, 76, 77, 78, 79, 80] (by decide +kernel) (by decide +kernel)
set_option maxRecDepth 20000 in
theorem gX7_meet_X0_bears_u72X0 : GoodIn wsX7_meet (va_wsO RX7 72 RX0 "RotaFathers$Father" ⟨"RotaFathers$Father", "bears", "(I)I"⟩ yX0_bears wsX0_bears) := goodIn_app (goodIn_of _ (by decide +kernel)) ggX7_meet_X0_bears
set_option maxRecDepth 20000 in
theorem ggX7_meet_X1_bears : GoodIn wsX7_meet wsX1_bears := goodIn_r _ [41, 42, 43, 71, 72, 73, 74, 75, 76, 77, 78, 79, 80] (by decide +kernel) (by decide +kernel)
set_option maxRecDepth 20000 in
theorem gX7_meet_X1_bears_u72X1 : GoodIn wsX7_meet (va_wsO RX7 72 RX1 "RotaFathers$Father" ⟨"RotaFathers$Father", "bears", "(I)I"⟩ yX1_bears wsX1_bears) := goodIn_app (goodIn_of _ (by decide +kernel)) ggX7_meet_X1_bears
set_option maxRecDepth 20000 in
theorem ggX7_meet_X2_bears : GoodIn wsX7_meet wsX2_bears := goodIn_r _ [37, 47, 71, 72, 73, 74, 75, 76, 77, 78, 79, 80] (by decide +kernel) (by decide +kernel)
set_option maxRecDepth 20000 in
theorem gX7_meet_X2_bears : GoodIn wsX7_meet (wsV RX7 72 RX2 yX2_bears wsX2_bears) := goodIn_app (goodIn_of _ (by decide +kernel)) ggX7_meet_X2_bears
set_option maxRecDepth 20000 in
theorem gX7_meet_X2_bears_u72X5 : GoodIn wsX7_meet (va_wsU RX7 72 RX5 "RotaFathers$Father" ⟨"RotaFathers$Father", "bears", "(I)I"⟩ yX2_bears wsX2_bears) := goodIn_app (goodIn_of _ (by decide +kernel)) ggX7_meet_X2_bears
set_option maxRecDepth 20000 in
theorem gX7_meet_X2_bears_u72X6 : GoodIn wsX7_meet (va_wsU RX7 72 RX6 "RotaFathers$Father" ⟨"RotaFathers$Father", "bears", "(I)I"⟩ yX2_bears wsX2_bears) := goodIn_app (goodIn_of _ (by decide +kernel)) ggX7_meet_X2_bears
set_option maxRecDepth 20000 in
theorem ggX7_meet_X2_fitterByStanding : GoodIn wsX7_meet wsX2_fitterByStanding := goodIn_r _ [54] (by decide +kernel) (by decide +kernel)
set_option maxRecDepth 20000 in
theorem gX7_meet_X2_fitterByStanding_u76X0 : GoodIn wsX7_meet (va_wsU RX7 76 RX0 "RotaFathers$Father" ⟨"RotaFathers$Father", "fitterByStanding", "()I"⟩ yX2_fitterByStanding wsX2_fitterByStanding) := goodIn_app (goodIn_of _ (by decide +kernel)) ggX7_meet_X2_fitterByStanding
set_option maxRecDepth 20000 in
theorem gX7_meet_X2_fitterByStanding_u76X1 : GoodIn wsX7_meet (va_wsU RX7 76 RX1 "RotaFathers$Father" ⟨"RotaFathers$Father", "fitterByStanding", "()I"⟩ yX2_fitterByStanding wsX2_fitterByStanding) := goodIn_app (goodIn_of _ (by decide +kernel)) ggX7_meet_X2_fitterByStanding
set_option maxRecDepth 20000 in
theorem gX7_meet_X2_fitterByStanding : GoodIn wsX7_meet (wsV RX7 76 RX2 yX2_fitterByStanding wsX2_fitterByStanding) := goodIn_app (goodIn_of _ (by decide +kernel)) ggX7_meet_X2_fitterByStanding
set_option maxRecDepth 20000 in
theorem ggX7_meet_X5_fitterByStanding : GoodIn wsX7_meet wsX5_fitterByStanding := goodIn_r _ [62] (by decide +kernel) (by decide +kernel)
set_option maxRecDepth 20000 in
theorem gX7_meet_X5_fitterByStanding_u76X5 : GoodIn wsX7_meet (va_wsO RX7 76 RX5 "RotaFathers$Father" ⟨"RotaFathers$Father", "fitterByStanding", "()I"⟩ yX5_fitterByStanding wsX5_fitterByStanding) := goodIn_app (goodIn_of _ (by decide +kernel)) ggX7_meet_X5_fitterByStanding
set_option maxRecDepth 20000 in
theorem gX7_meet_X2_fitterByStanding_u76X6 : GoodIn wsX7_meet (va_wsU RX7 76 RX6 "RotaFathers$Father" ⟨"RotaFathers$Father", "fitterByStanding", "()I"⟩ yX2_fitterByStanding wsX2_fitterByStanding) := goodIn_app (goodIn_of _ (by decide +kernel)) ggX7_meet_X2_fitterByStanding
theorem dX7_meet_0 : decode cX7_meet 0 = .ok (.aload_n 0, 1) := by decide +kernel
theorem dX7_meet_1 : decode cX7_meet 1 = .ok (.getfield 15, 3) := by decide +kernel
theorem dX7_meet_4 : decode cX7_meet 4 = .ok (.iload_n 1, 1) := by decide +kernel
theorem dX7_meet_5 : decode cX7_meet 5 = .ok (.iconst 0, 1) := by decide +kernel
theorem dX7_meet_6 : decode cX7_meet 6 = .ok (.invokestatic 34, 3) := by decide +kernel
theorem dX7_meet_9 : decode cX7_meet 9 = .ok (.aload_n 0, 1) := by decide +kernel
theorem dX7_meet_10 : decode cX7_meet 10 = .ok (.getfield 18, 3) := by decide +kernel
theorem dX7_meet_13 : decode cX7_meet 13 = .ok (.iload_n 1, 1) := by decide +kernel
theorem dX7_meet_14 : decode cX7_meet 14 = .ok (.iconst 0, 1) := by decide +kernel
theorem dX7_meet_15 : decode cX7_meet 15 = .ok (.invokestatic 34, 3) := by decide +kernel
theorem dX7_meet_18 : decode cX7_meet 18 = .ok (.aload_n 0, 1) := by decide +kernel
theorem dX7_meet_19 : decode cX7_meet 19 = .ok (.getfield 21, 3) := by decide +kernel
theorem dX7_meet_22 : decode cX7_meet 22 = .ok (.iload_n 1, 1) := by decide +kernel
theorem dX7_meet_23 : decode cX7_meet 23 = .ok (.iconst 0, 1) := by decide +kernel
theorem dX7_meet_24 : decode cX7_meet 24 = .ok (.invokestatic 34, 3) := by decide +kernel
theorem dX7_meet_27 : decode cX7_meet 27 = .ok (.aload_n 2, 1) := by decide +kernel
theorem dX7_meet_28 : decode cX7_meet 28 = .ok (.ifnonnull 5, 3) := by decide +kernel
theorem dX7_meet_31 : decode cX7_meet 31 = .ok (.iconst 2, 1) := by decide +kernel
theorem dX7_meet_32 : decode cX7_meet 32 = .ok (.ireturn, 1) := by decide +kernel
theorem dX7_meet_33 : decode cX7_meet 33 = .ok (.aload_n 0, 1) := by decide +kernel
theorem dX7_meet_34 : decode cX7_meet 34 = .ok (.getfield 24, 3) := by decide +kernel
theorem dX7_meet_37 : decode cX7_meet 37 = .ok (.aload_n 2, 1) := by decide +kernel
theorem dX7_meet_38 : decode cX7_meet 38 = .ok (.getfield 59, 3) := by decide +kernel
theorem dX7_meet_41 : decode cX7_meet 41 = .ok (.invokestatic 64, 3) := by decide +kernel
theorem dX7_meet_44 : decode cX7_meet 44 = .ok (.ifCond .eq 9, 3) := by decide +kernel
theorem dX7_meet_47 : decode cX7_meet 47 = .ok (.iload_n 3, 1) := by decide +kernel
theorem dX7_meet_48 : decode cX7_meet 48 = .ok (.iconst 2, 1) := by decide +kernel
theorem dX7_meet_49 : decode cX7_meet 49 = .ok (.iadd, 1) := by decide +kernel
theorem dX7_meet_50 : decode cX7_meet 50 = .ok (.goto 4, 3) := by decide +kernel
theorem dX7_meet_53 : decode cX7_meet 53 = .ok (.iload_n 3, 1) := by decide +kernel
theorem dX7_meet_54 : decode cX7_meet 54 = .ok (.istore 4, 2) := by decide +kernel
theorem dX7_meet_56 : decode cX7_meet 56 = .ok (.aload_n 0, 1) := by decide +kernel
theorem dX7_meet_57 : decode cX7_meet 57 = .ok (.getfield 15, 3) := by decide +kernel
theorem dX7_meet_60 : decode cX7_meet 60 = .ok (.iload_n 1, 1) := by decide +kernel
theorem dX7_meet_61 : decode cX7_meet 61 = .ok (.iload 4, 2) := by decide +kernel
theorem dX7_meet_63 : decode cX7_meet 63 = .ok (.invokestatic 34, 3) := by decide +kernel
theorem dX7_meet_66 : decode cX7_meet 66 = .ok (.aload_n 0, 1) := by decide +kernel
theorem dX7_meet_67 : decode cX7_meet 67 = .ok (.dup, 1) := by decide +kernel
theorem dX7_meet_68 : decode cX7_meet 68 = .ok (.getfield 24, 3) := by decide +kernel
theorem dX7_meet_71 : decode cX7_meet 71 = .ok (.iconst 1, 1) := by decide +kernel
theorem dX7_meet_72 : decode cX7_meet 72 = .ok (.aload_n 2, 1) := by decide +kernel
theorem dX7_meet_73 : decode cX7_meet 73 = .ok (.getfield 59, 3) := by decide +kernel
theorem dX7_meet_76 : decode cX7_meet 76 = .ok (.ishl, 1) := by decide +kernel
theorem dX7_meet_77 : decode cX7_meet 77 = .ok (.ior, 1) := by decide +kernel
theorem dX7_meet_78 : decode cX7_meet 78 = .ok (.putfield 24, 3) := by decide +kernel
theorem dX7_meet_81 : decode cX7_meet 81 = .ok (.aload_n 2, 1) := by decide +kernel
theorem dX7_meet_82 : decode cX7_meet 82 = .ok (.invokevirtual 68, 3) := by decide +kernel
theorem dX7_meet_85 : decode cX7_meet 85 = .ok (.ifCond .eq 5, 3) := by decide +kernel
theorem dX7_meet_88 : decode cX7_meet 88 = .ok (.iconst 2, 1) := by decide +kernel
theorem dX7_meet_89 : decode cX7_meet 89 = .ok (.ireturn, 1) := by decide +kernel
theorem dX7_meet_90 : decode cX7_meet 90 = .ok (.iload 4, 2) := by decide +kernel
theorem dX7_meet_92 : decode cX7_meet 92 = .ok (.aload_n 2, 1) := by decide +kernel
theorem dX7_meet_93 : decode cX7_meet 93 = .ok (.iload_n 1, 1) := by decide +kernel
theorem dX7_meet_94 : decode cX7_meet 94 = .ok (.invokevirtual 72, 3) := by decide +kernel
theorem dX7_meet_97 : decode cX7_meet 97 = .ok (.if_icmp .le 24, 3) := by decide +kernel
theorem dX7_meet_100 : decode cX7_meet 100 = .ok (.aload_n 0, 1) := by decide +kernel
theorem dX7_meet_101 : decode cX7_meet 101 = .ok (.getfield 21, 3) := by decide +kernel
theorem dX7_meet_104 : decode cX7_meet 104 = .ok (.iload_n 1, 1) := by decide +kernel
theorem dX7_meet_105 : decode cX7_meet 105 = .ok (.iconst 1, 1) := by decide +kernel
theorem dX7_meet_106 : decode cX7_meet 106 = .ok (.invokestatic 34, 3) := by decide +kernel
theorem dX7_meet_109 : decode cX7_meet 109 = .ok (.aload_n 0, 1) := by decide +kernel
theorem dX7_meet_110 : decode cX7_meet 110 = .ok (.dup, 1) := by decide +kernel
theorem dX7_meet_111 : decode cX7_meet 111 = .ok (.getfield 31, 3) := by decide +kernel
theorem dX7_meet_114 : decode cX7_meet 114 = .ok (.iconst 1, 1) := by decide +kernel
theorem dX7_meet_115 : decode cX7_meet 115 = .ok (.iadd, 1) := by decide +kernel
theorem dX7_meet_116 : decode cX7_meet 116 = .ok (.putfield 31, 3) := by decide +kernel
theorem dX7_meet_119 : decode cX7_meet 119 = .ok (.iconst 1, 1) := by decide +kernel
theorem dX7_meet_120 : decode cX7_meet 120 = .ok (.ireturn, 1) := by decide +kernel
theorem dX7_meet_121 : decode cX7_meet 121 = .ok (.aload_n 0, 1) := by decide +kernel
theorem dX7_meet_122 : decode cX7_meet 122 = .ok (.getfield 18, 3) := by decide +kernel
theorem dX7_meet_125 : decode cX7_meet 125 = .ok (.iload_n 1, 1) := by decide +kernel
theorem dX7_meet_126 : decode cX7_meet 126 = .ok (.iload 4, 2) := by decide +kernel
theorem dX7_meet_128 : decode cX7_meet 128 = .ok (.invokestatic 34, 3) := by decide +kernel
theorem dX7_meet_131 : decode cX7_meet 131 = .ok (.aload_n 0, 1) := by decide +kernel
theorem dX7_meet_132 : decode cX7_meet 132 = .ok (.dup, 1) := by decide +kernel
theorem dX7_meet_133 : decode cX7_meet 133 = .ok (.getfield 28, 3) := by decide +kernel
theorem dX7_meet_136 : decode cX7_meet 136 = .ok (.iload 4, 2) := by decide +kernel
theorem dX7_meet_138 : decode cX7_meet 138 = .ok (.iadd, 1) := by decide +kernel
theorem dX7_meet_139 : decode cX7_meet 139 = .ok (.putfield 28, 3) := by decide +kernel
theorem dX7_meet_142 : decode cX7_meet 142 = .ok (.aload_n 2, 1) := by decide +kernel
theorem dX7_meet_143 : decode cX7_meet 143 = .ok (.invokevirtual 76, 3) := by decide +kernel
theorem dX7_meet_146 : decode cX7_meet 146 = .ok (.ireturn, 1) := by decide +kernel
set_option maxRecDepth 20000 in
theorem ggX8_init_X4_init : GoodIn wsX8_init wsX4_init := goodIn_r _ [24, 25, 2, 3, 19, 26, 42, 43] (by decide +kernel) (by decide +kernel)
set_option maxRecDepth 20000 in
theorem gX8_init_X4_init_n11 : GoodIn wsX8_init (wsX4_init) := ggX8_init_X4_init
set_option maxRecDepth 20000 in
theorem ggX8_init_X3_init : GoodIn wsX8_init wsX3_init := goodIn_r _ [28, 29, 2, 3, 19, 30, 31, 32, 33, 34, 57, 58, 59, 60, 61, 62, 63, 64, 65] (by decide +kernel) (by decide +kernel)
set_option maxRecDepth 20000 in
theorem gX8_init_X3_init_n24 : GoodIn wsX8_init (wsX3_init) := ggX8_init_X3_init
set_option maxRecDepth 20000 in
theorem ggX8_init_X7_init : GoodIn wsX8_init wsX7_init := goodIn_r _ [36, 37, 2, 3, 19, 38, 39, 40, 41, 66, 67, 68, 69, 70, 71, 72] (by decide +kernel) (by decide +kernel)
set_option maxRecDepth 20000 in
theorem gX8_init_X7_init_n34 : GoodIn wsX8_init (wsX7_init) := ggX8_init_X7_init
theorem dX8_init_0 : decode cX8_init 0 = .ok (.aload_n 0, 1) := by decide +kernel
theorem dX8_init_1 : decode cX8_init 1 = .ok (.invokespecial 3, 3) := by decide +kernel
theorem dX8_init_4 : decode cX8_init 4 = .ok (.aload_n 0, 1) := by decide +kernel
theorem dX8_init_5 : decode cX8_init 5 = .ok (.new 9, 3) := by decide +kernel
theorem dX8_init_8 : decode cX8_init 8 = .ok (.dup, 1) := by decide +kernel
theorem dX8_init_9 : decode cX8_init 9 = .ok (.invokespecial 11, 3) := by decide +kernel
theorem dX8_init_12 : decode cX8_init 12 = .ok (.putfield 12, 3) := by decide +kernel
theorem dX8_init_15 : decode cX8_init 15 = .ok (.aload_n 0, 1) := by decide +kernel
theorem dX8_init_16 : decode cX8_init 16 = .ok (.iconst 4, 1) := by decide +kernel
theorem dX8_init_17 : decode cX8_init 17 = .ok (.anewarray 16, 3) := by decide +kernel
theorem dX8_init_20 : decode cX8_init 20 = .ok (.putfield 18, 3) := by decide +kernel
theorem dX8_init_23 : decode cX8_init 23 = .ok (.aload_n 0, 1) := by decide +kernel
theorem dX8_init_24 : decode cX8_init 24 = .ok (.new 22, 3) := by decide +kernel
theorem dX8_init_27 : decode cX8_init 27 = .ok (.dup, 1) := by decide +kernel
theorem dX8_init_28 : decode cX8_init 28 = .ok (.invokespecial 24, 3) := by decide +kernel
theorem dX8_init_31 : decode cX8_init 31 = .ok (.putfield 25, 3) := by decide +kernel
theorem dX8_init_34 : decode cX8_init 34 = .ok (.aload_n 0, 1) := by decide +kernel
theorem dX8_init_35 : decode cX8_init 35 = .ok (.new 22, 3) := by decide +kernel
theorem dX8_init_38 : decode cX8_init 38 = .ok (.dup, 1) := by decide +kernel
theorem dX8_init_39 : decode cX8_init 39 = .ok (.invokespecial 24, 3) := by decide +kernel
theorem dX8_init_42 : decode cX8_init 42 = .ok (.putfield 29, 3) := by decide +kernel
theorem dX8_init_45 : decode cX8_init 45 = .ok (.aload_n 0, 1) := by decide +kernel
theorem dX8_init_46 : decode cX8_init 46 = .ok (.new 32, 3) := by decide +kernel
theorem dX8_init_49 : decode cX8_init 49 = .ok (.dup, 1) := by decide +kernel
theorem dX8_init_50 : decode cX8_init 50 = .ok (.invokespecial 34, 3) := by decide +kernel
theorem dX8_init_53 : decode cX8_init 53 = .ok (.putfield 35, 3) := by decide +kernel
theorem dX8_init_56 : decode cX8_init 56 = .ok (.aload_n 0, 1) := by decide +kernel
theorem dX8_init_57 : decode cX8_init 57 = .ok (.bipush 8, 2) := by decide +kernel
theorem dX8_init_59 : decode cX8_init 59 = .ok (.newarray .int, 2) := by decide +kernel
theorem dX8_init_61 : decode cX8_init 61 = .ok (.putfield 39, 3) := by decide +kernel
theorem dX8_init_64 : decode cX8_init 64 = .ok (.aload_n 0, 1) := by decide +kernel
theorem dX8_init_65 : decode cX8_init 65 = .ok (.iconst 3, 1) := by decide +kernel
theorem dX8_init_66 : decode cX8_init 66 = .ok (.newarray .int, 2) := by decide +kernel
theorem dX8_init_68 : decode cX8_init 68 = .ok (.putfield 43, 3) := by decide +kernel
theorem dX8_init_71 : decode cX8_init 71 = .ok (.aload_n 0, 1) := by decide +kernel
theorem dX8_init_72 : decode cX8_init 72 = .ok (.bipush 90, 2) := by decide +kernel
theorem dX8_init_74 : decode cX8_init 74 = .ok (.newarray .int, 2) := by decide +kernel
theorem dX8_init_76 : decode cX8_init 76 = .ok (.putfield 46, 3) := by decide +kernel
theorem dX8_init_79 : decode cX8_init 79 = .ok (.return_, 1) := by decide +kernel
set_option maxRecDepth 20000 in
theorem ggX8_letter_X4_add : GoodIn wsX8_letter wsX4_add := goodIn_r _ [7, 8, 9, 10, 11, 12, 26, 27] (by decide +kernel) (by decide +kernel)
