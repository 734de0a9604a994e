theorem dX3_takeOver_81 : decode cX3_takeOver 81 = .ok (.getfield 41, 3) := by decide +kernel
theorem dX3_takeOver_84 : decode cX3_takeOver 84 = .ok (.putfield 41, 3) := by decide +kernel
theorem dX3_takeOver_87 : decode cX3_takeOver 87 = .ok (.return_, 1) := by decide +kernel
set_option maxRecDepth 20000 in
theorem ggX3_addFound_X8_put : GoodIn wsX3_addFound wsX8_put := goodIn_r _ [6] (by decide +kernel) (by decide +kernel)
set_option maxRecDepth 20000 in
theorem gX3_addFound_X8_put_n48 : GoodIn wsX3_addFound (wsX8_put) := ggX3_addFound_X8_put
theorem dX3_addFound_0 : decode cX3_addFound 0 = .ok (.aload_n 0, 1) := by decide +kernel
theorem dX3_addFound_1 : decode cX3_addFound 1 = .ok (.getfield 21, 3) := by decide +kernel
theorem dX3_addFound_4 : decode cX3_addFound 4 = .ok (.aload_n 0, 1) := by decide +kernel
theorem dX3_addFound_5 : decode cX3_addFound 5 = .ok (.getfield 31, 3) := by decide +kernel
theorem dX3_addFound_8 : decode cX3_addFound 8 = .ok (.iload_n 1, 1) := by decide +kernel
theorem dX3_addFound_9 : decode cX3_addFound 9 = .ok (.invokestatic 48, 3) := by decide +kernel
theorem dX3_addFound_12 : decode cX3_addFound 12 = .ok (.aload_n 0, 1) := by decide +kernel
theorem dX3_addFound_13 : decode cX3_addFound 13 = .ok (.getfield 24, 3) := by decide +kernel
theorem dX3_addFound_16 : decode cX3_addFound 16 = .ok (.aload_n 0, 1) := by decide +kernel
theorem dX3_addFound_17 : decode cX3_addFound 17 = .ok (.getfield 31, 3) := by decide +kernel
theorem dX3_addFound_20 : decode cX3_addFound 20 = .ok (.iload_n 2, 1) := by decide +kernel
theorem dX3_addFound_21 : decode cX3_addFound 21 = .ok (.invokestatic 48, 3) := by decide +kernel
theorem dX3_addFound_24 : decode cX3_addFound 24 = .ok (.aload_n 0, 1) := by decide +kernel
theorem dX3_addFound_25 : decode cX3_addFound 25 = .ok (.dup, 1) := by decide +kernel
theorem dX3_addFound_26 : decode cX3_addFound 26 = .ok (.getfield 31, 3) := by decide +kernel
theorem dX3_addFound_29 : decode cX3_addFound 29 = .ok (.iconst 1, 1) := by decide +kernel
theorem dX3_addFound_30 : decode cX3_addFound 30 = .ok (.iadd, 1) := by decide +kernel
theorem dX3_addFound_31 : decode cX3_addFound 31 = .ok (.putfield 31, 3) := by decide +kernel
theorem dX3_addFound_34 : decode cX3_addFound 34 = .ok (.return_, 1) := by decide +kernel
set_option maxRecDepth 20000 in
theorem ggX3_isAsFound_X8_at : GoodIn wsX3_isAsFound wsX8_at := goodIn_r _ [6] (by decide +kernel) (by decide +kernel)
set_option maxRecDepth 20000 in
theorem gX3_isAsFound_X8_at_n52 : GoodIn wsX3_isAsFound (wsX8_at) := ggX3_isAsFound_X8_at
theorem dX3_isAsFound_0 : decode cX3_isAsFound 0 = .ok (.iconst 0, 1) := by decide +kernel
theorem dX3_isAsFound_1 : decode cX3_isAsFound 1 = .ok (.istore_n 2, 1) := by decide +kernel
theorem dX3_isAsFound_2 : decode cX3_isAsFound 2 = .ok (.iload_n 2, 1) := by decide +kernel
theorem dX3_isAsFound_3 : decode cX3_isAsFound 3 = .ok (.aload_n 0, 1) := by decide +kernel
theorem dX3_isAsFound_4 : decode cX3_isAsFound 4 = .ok (.getfield 31, 3) := by decide +kernel
theorem dX3_isAsFound_7 : decode cX3_isAsFound 7 = .ok (.if_icmp .ge 34, 3) := by decide +kernel
theorem dX3_isAsFound_10 : decode cX3_isAsFound 10 = .ok (.aload_n 1, 1) := by decide +kernel
theorem dX3_isAsFound_11 : decode cX3_isAsFound 11 = .ok (.aload_n 0, 1) := by decide +kernel
theorem dX3_isAsFound_12 : decode cX3_isAsFound 12 = .ok (.getfield 21, 3) := by decide +kernel
theorem dX3_isAsFound_15 : decode cX3_isAsFound 15 = .ok (.iload_n 2, 1) := by decide +kernel
theorem dX3_isAsFound_16 : decode cX3_isAsFound 16 = .ok (.invokestatic 52, 3) := by decide +kernel
theorem dX3_isAsFound_19 : decode cX3_isAsFound 19 = .ok (.invokestatic 52, 3) := by decide +kernel
theorem dX3_isAsFound_22 : decode cX3_isAsFound 22 = .ok (.aload_n 0, 1) := by decide +kernel
theorem dX3_isAsFound_23 : decode cX3_isAsFound 23 = .ok (.getfield 24, 3) := by decide +kernel
theorem dX3_isAsFound_26 : decode cX3_isAsFound 26 = .ok (.iload_n 2, 1) := by decide +kernel
theorem dX3_isAsFound_27 : decode cX3_isAsFound 27 = .ok (.invokestatic 52, 3) := by decide +kernel
theorem dX3_isAsFound_30 : decode cX3_isAsFound 30 = .ok (.if_icmp .eq 5, 3) := by decide +kernel
theorem dX3_isAsFound_33 : decode cX3_isAsFound 33 = .ok (.iconst 0, 1) := by decide +kernel
theorem dX3_isAsFound_34 : decode cX3_isAsFound 34 = .ok (.ireturn, 1) := by decide +kernel
theorem dX3_isAsFound_35 : decode cX3_isAsFound 35 = .ok (.iinc 2 1, 3) := by decide +kernel
theorem dX3_isAsFound_38 : decode cX3_isAsFound 38 = .ok (.goto (-36), 3) := by decide +kernel
theorem dX3_isAsFound_41 : decode cX3_isAsFound 41 = .ok (.iconst 1, 1) := by decide +kernel
theorem dX3_isAsFound_42 : decode cX3_isAsFound 42 = .ok (.ireturn, 1) := by decide +kernel
theorem dX4_init_0 : decode cX4_init 0 = .ok (.aload_n 0, 1) := by decide +kernel
theorem dX4_init_1 : decode cX4_init 1 = .ok (.invokespecial 3, 3) := by decide +kernel
theorem dX4_init_4 : decode cX4_init 4 = .ok (.aload_n 0, 1) := by decide +kernel
theorem dX4_init_5 : decode cX4_init 5 = .ok (.bipush 18, 2) := by decide +kernel
theorem dX4_init_7 : decode cX4_init 7 = .ok (.newarray .int, 2) := by decide +kernel
theorem dX4_init_9 : decode cX4_init 9 = .ok (.putfield 9, 3) := by decide +kernel
theorem dX4_init_12 : decode cX4_init 12 = .ok (.return_, 1) := by decide +kernel
set_option maxRecDepth 20000 in
theorem ggX4_add_X8_put : GoodIn wsX4_add wsX8_put := goodIn_r _ [5] (by decide +kernel) (by decide +kernel)
set_option maxRecDepth 20000 in
theorem gX4_add_X8_put_n19 : GoodIn wsX4_add (wsX8_put) := ggX4_add_X8_put
theorem dX4_add_0 : decode cX4_add 0 = .ok (.aload_n 0, 1) := by decide +kernel
theorem dX4_add_1 : decode cX4_add 1 = .ok (.getfield 15, 3) := by decide +kernel
theorem dX4_add_4 : decode cX4_add 4 = .ok (.aload_n 0, 1) := by decide +kernel
theorem dX4_add_5 : decode cX4_add 5 = .ok (.getfield 9, 3) := by decide +kernel
theorem dX4_add_8 : decode cX4_add 8 = .ok (.arraylength, 1) := by decide +kernel
theorem dX4_add_9 : decode cX4_add 9 = .ok (.if_icmp .ge 25, 3) := by decide +kernel
theorem dX4_add_12 : decode cX4_add 12 = .ok (.aload_n 0, 1) := by decide +kernel
theorem dX4_add_13 : decode cX4_add 13 = .ok (.getfield 9, 3) := by decide +kernel
theorem dX4_add_16 : decode cX4_add 16 = .ok (.aload_n 0, 1) := by decide +kernel
theorem dX4_add_17 : decode cX4_add 17 = .ok (.getfield 15, 3) := by decide +kernel
theorem dX4_add_20 : decode cX4_add 20 = .ok (.iload_n 1, 1) := by decide +kernel
theorem dX4_add_21 : decode cX4_add 21 = .ok (.invokestatic 19, 3) := by decide +kernel
theorem dX4_add_24 : decode cX4_add 24 = .ok (.aload_n 0, 1) := by decide +kernel
theorem dX4_add_25 : decode cX4_add 25 = .ok (.dup, 1) := by decide +kernel
theorem dX4_add_26 : decode cX4_add 26 = .ok (.getfield 15, 3) := by decide +kernel
theorem dX4_add_29 : decode cX4_add 29 = .ok (.iconst 1, 1) := by decide +kernel
theorem dX4_add_30 : decode cX4_add 30 = .ok (.iadd, 1) := by decide +kernel
theorem dX4_add_31 : decode cX4_add 31 = .ok (.putfield 15, 3) := by decide +kernel
theorem dX4_add_34 : decode cX4_add 34 = .ok (.return_, 1) := by decide +kernel
theorem dX4_clear_0 : decode cX4_clear 0 = .ok (.aload_n 0, 1) := by decide +kernel
theorem dX4_clear_1 : decode cX4_clear 1 = .ok (.iconst 0, 1) := by decide +kernel
theorem dX4_clear_2 : decode cX4_clear 2 = .ok (.putfield 15, 3) := by decide +kernel
theorem dX4_clear_5 : decode cX4_clear 5 = .ok (.return_, 1) := by decide +kernel
set_option maxRecDepth 20000 in
theorem ggX4_code_X8_at : GoodIn wsX4_code wsX8_at := goodIn_r _ [4] (by decide +kernel) (by decide +kernel)
set_option maxRecDepth 20000 in
theorem gX4_code_X8_at_n23 : GoodIn wsX4_code (wsX8_at) := ggX4_code_X8_at
theorem dX4_code_0 : decode cX4_code 0 = .ok (.aload_n 0, 1) := by decide +kernel
theorem dX4_code_1 : decode cX4_code 1 = .ok (.getfield 9, 3) := by decide +kernel
theorem dX4_code_4 : decode cX4_code 4 = .ok (.iload_n 1, 1) := by decide +kernel
theorem dX4_code_5 : decode cX4_code 5 = .ok (.invokestatic 23, 3) := by decide +kernel
theorem dX4_code_8 : decode cX4_code 8 = .ok (.ireturn, 1) := by decide +kernel
set_option maxRecDepth 20000 in
theorem ggX4_rightLetters_X4_closing : GoodIn wsX4_rightLetters wsX4_closing := goodIn_r _ [6, 1, 7, 8, 9, 5, 10, 11, 12, 13, 14, 33, 34] (by decide +kernel) (by decide +kernel)
set_option maxRecDepth 20000 in
theorem gX4_rightLetters_X4_closing : GoodIn wsX4_rightLetters (wsV RX4 27 RX4 yX4_closing wsX4_closing) := goodIn_app (goodIn_of _ (by decide +kernel)) ggX4_rightLetters_X4_closing
set_option maxRecDepth 20000 in
theorem ggX4_rightLetters_X4_isRight : GoodIn wsX4_rightLetters wsX4_isRight := goodIn_r _ [18, 19, 20, 21, 5, 22, 23, 24, 25, 26, 11, 12, 13, 14, 7, 8, 9, 10, 27, 28, 29, 30, 31, 32, 33, 34] (by decide +kernel) (by decide +kernel)
set_option maxRecDepth 20000 in
theorem gX4_rightLetters_X4_isRight : GoodIn wsX4_rightLetters (wsV RX4 31 RX4 yX4_isRight wsX4_isRight) := goodIn_app (goodIn_of _ (by decide +kernel)) ggX4_rightLetters_X4_isRight
theorem dX4_rightLetters_0 : decode cX4_rightLetters 0 = .ok (.aload_n 0, 1) := by decide +kernel
theorem dX4_rightLetters_1 : decode cX4_rightLetters 1 = .ok (.invokevirtual 27, 3) := by decide +kernel
theorem dX4_rightLetters_4 : decode cX4_rightLetters 4 = .ok (.istore_n 1, 1) := by decide +kernel
theorem dX4_rightLetters_5 : decode cX4_rightLetters 5 = .ok (.iconst 0, 1) := by decide +kernel
theorem dX4_rightLetters_6 : decode cX4_rightLetters 6 = .ok (.istore_n 2, 1) := by decide +kernel
theorem dX4_rightLetters_7 : decode cX4_rightLetters 7 = .ok (.iload_n 2, 1) := by decide +kernel
theorem dX4_rightLetters_8 : decode cX4_rightLetters 8 = .ok (.aload_n 0, 1) := by decide +kernel
theorem dX4_rightLetters_9 : decode cX4_rightLetters 9 = .ok (.getfield 15, 3) := by decide +kernel
theorem dX4_rightLetters_12 : decode cX4_rightLetters 12 = .ok (.if_icmp .ge 18, 3) := by decide +kernel
theorem dX4_rightLetters_15 : decode cX4_rightLetters 15 = .ok (.aload_n 0, 1) := by decide +kernel
theorem dX4_rightLetters_16 : decode cX4_rightLetters 16 = .ok (.iload_n 2, 1) := by decide +kernel
theorem dX4_rightLetters_17 : decode cX4_rightLetters 17 = .ok (.iload_n 1, 1) := by decide +kernel
theorem dX4_rightLetters_18 : decode cX4_rightLetters 18 = .ok (.invokevirtual 31, 3) := by decide +kernel
theorem dX4_rightLetters_21 : decode cX4_rightLetters 21 = .ok (.ifCond .eq 9, 3) := by decide +kernel
theorem dX4_rightLetters_24 : decode cX4_rightLetters 24 = .ok (.iinc 2 1, 3) := by decide +kernel
theorem dX4_rightLetters_27 : decode cX4_rightLetters 27 = .ok (.goto (-20), 3) := by decide +kernel
theorem dX4_rightLetters_30 : decode cX4_rightLetters 30 = .ok (.iload_n 2, 1) := by decide +kernel
theorem dX4_rightLetters_31 : decode cX4_rightLetters 31 = .ok (.ireturn, 1) := by decide +kernel
set_option maxRecDepth 20000 in
theorem ggX4_isWhole_X4_closing : GoodIn wsX4_isWhole wsX4_closing := goodIn_r _ [6, 1, 7, 8, 9, 5, 10, 11, 12, 13, 14, 37, 38] (by decide +kernel) (by decide +kernel)
set_option maxRecDepth 20000 in
theorem gX4_isWhole_X4_closing : GoodIn wsX4_isWhole (wsV RX4 27 RX4 yX4_closing wsX4_closing) := goodIn_app (goodIn_of _ (by decide +kernel)) ggX4_isWhole_X4_closing
set_option maxRecDepth 20000 in
theorem ggX4_isWhole_X4_rightLetters : GoodIn wsX4_isWhole wsX4_rightLetters := goodIn_r _ [18, 1, 2, 3, 4, 5, 6, 7, 8, 9, 10, 11, 12, 13, 14, 19, 20, 21, 22, 23, 24, 25, 26, 27, 28, 29, 30, 31, 32, 33, 34, 35, 36, 37, 38] (by decide +kernel) (by decide +kernel)
set_option maxRecDepth 20000 in
theorem gX4_isWhole_X4_rightLetters : GoodIn wsX4_isWhole (wsV RX4 35 RX4 yX4_rightLetters wsX4_rightLetters) := goodIn_app (goodIn_of _ (by decide +kernel)) ggX4_isWhole_X4_rightLetters
theorem dX4_isWhole_0 : decode cX4_isWhole 0 = .ok (.aload_n 0, 1) := by decide +kernel
theorem dX4_isWhole_1 : decode cX4_isWhole 1 = .ok (.getfield 15, 3) := by decide +kernel
theorem dX4_isWhole_4 : decode cX4_isWhole 4 = .ok (.aload_n 0, 1) := by decide +kernel
theorem dX4_isWhole_5 : decode cX4_isWhole 5 = .ok (.invokevirtual 27, 3) := by decide +kernel
theorem dX4_isWhole_8 : decode cX4_isWhole 8 = .ok (.iconst 2, 1) := by decide +kernel
theorem dX4_isWhole_9 : decode cX4_isWhole 9 = .ok (.iadd, 1) := by decide +kernel
theorem dX4_isWhole_10 : decode cX4_isWhole 10 = .ok (.if_icmp .ne 18, 3) := by decide +kernel
theorem dX4_isWhole_13 : decode cX4_isWhole 13 = .ok (.aload_n 0, 1) := by decide +kernel
theorem dX4_isWhole_14 : decode cX4_isWhole 14 = .ok (.invokevirtual 35, 3) := by decide +kernel
theorem dX4_isWhole_17 : decode cX4_isWhole 17 = .ok (.aload_n 0, 1) := by decide +kernel
theorem dX4_isWhole_18 : decode cX4_isWhole 18 = .ok (.getfield 15, 3) := by decide +kernel
theorem dX4_isWhole_21 : decode cX4_isWhole 21 = .ok (.if_icmp .ne 7, 3) := by decide +kernel
theorem dX4_isWhole_24 : decode cX4_isWhole 24 = .ok (.iconst 1, 1) := by decide +kernel
theorem dX4_isWhole_25 : decode cX4_isWhole 25 = .ok (.goto 4, 3) := by decide +kernel
theorem dX4_isWhole_28 : decode cX4_isWhole 28 = .ok (.iconst 0, 1) := by decide +kernel
theorem dX4_isWhole_29 : decode cX4_isWhole 29 = .ok (.ireturn, 1) := by decide +kernel
set_option maxRecDepth 20000 in
theorem ggX4_fathers_X4_closing : GoodIn wsX4_fathers wsX4_closing := goodIn_r _ [9, 10, 11, 12, 13, 8, 14, 15, 16, 17, 18, 19, 20] (by decide +kernel) (by decide +kernel)
set_option maxRecDepth 20000 in
theorem gX4_fathers_X4_closing : GoodIn wsX4_fathers (wsV RX4 27 RX4 yX4_closing wsX4_closing) := goodIn_app (goodIn_of _ (by decide +kernel)) ggX4_fathers_X4_closing
theorem dX4_fathers_0 : decode cX4_fathers 0 = .ok (.aload_n 0, 1) := by decide +kernel
theorem dX4_fathers_1 : decode cX4_fathers 1 = .ok (.invokevirtual 27, 3) := by decide +kernel
theorem dX4_fathers_4 : decode cX4_fathers 4 = .ok (.iconst 1, 1) := by decide +kernel
theorem dX4_fathers_5 : decode cX4_fathers 5 = .ok (.iadd, 1) := by decide +kernel
theorem dX4_fathers_6 : decode cX4_fathers 6 = .ok (.iconst 4, 1) := by decide +kernel
theorem dX4_fathers_7 : decode cX4_fathers 7 = .ok (.idiv, 1) := by decide +kernel
theorem dX4_fathers_8 : decode cX4_fathers 8 = .ok (.iconst 4, 1) := by decide +kernel
theorem dX4_fathers_9 : decode cX4_fathers 9 = .ok (.invokestatic 38, 3) := by decide +kernel
theorem dX4_fathers_12 : decode cX4_fathers 12 = .ok (.ireturn, 1) := by decide +kernel
set_option maxRecDepth 20000 in
theorem ggX4_father_X4_digit : GoodIn wsX4_father wsX4_digit := goodIn_r _ [20, 21, 22, 23, 24, 63, 64] (by decide +kernel) (by decide +kernel)
set_option maxRecDepth 20000 in
theorem gX4_father_X4_digit : GoodIn wsX4_father (wsV RX4 44 RX4 yX4_digit wsX4_digit) := goodIn_app (goodIn_of _ (by decide +kernel)) ggX4_father_X4_digit
set_option maxRecDepth 20000 in
theorem ggX4_father_X4_code : GoodIn wsX4_father wsX4_code := goodIn_r _ [28, 21, 22, 23, 24, 63, 64] (by decide +kernel) (by decide +kernel)
set_option maxRecDepth 20000 in
theorem gX4_father_X4_code : GoodIn wsX4_father (wsV RX4 48 RX4 yX4_code wsX4_code) := goodIn_app (goodIn_of _ (by decide +kernel)) ggX4_father_X4_code
set_option maxRecDepth 20000 in
theorem ggX4_father_X1_init : GoodIn wsX4_father wsX1_init := goodIn_r _ [31, 32, 33, 15, 34, 35, 36, 37, 38, 39, 59, 60, 53, 54, 61, 62, 57, 58, 55, 56] (by decide +kernel) (by decide +kernel)
set_option maxRecDepth 20000 in
theorem gX4_father_X1_init : GoodIn wsX4_father (wsX1_init) := ggX4_father_X1_init
set_option maxRecDepth 20000 in
theorem ggX4_father_X6_init : GoodIn wsX4_father wsX6_init := goodIn_r _ [42, 43, 33, 15, 34, 35, 36, 37, 38, 39, 59, 60, 53, 54, 61, 62, 57, 58, 55, 56] (by decide +kernel) (by decide +kernel)
set_option maxRecDepth 20000 in
theorem gX4_father_X6_init : GoodIn wsX4_father (wsX6_init) := ggX4_father_X6_init
set_option maxRecDepth 20000 in
theorem ggX4_father_X5_init : GoodIn wsX4_father wsX5_init := goodIn_r _ [46, 47, 33, 15, 34, 35, 36, 37, 38, 39, 59, 60, 53, 54, 61, 62, 57, 58, 55, 56] (by decide +kernel) (by decide +kernel)
set_option maxRecDepth 20000 in
theorem gX4_father_X5_init : GoodIn wsX4_father (wsX5_init) := ggX4_father_X5_init
set_option maxRecDepth 20000 in
theorem ggX4_father_X0_init : GoodIn wsX4_father wsX0_init := goodIn_r _ [50, 51, 30, 3, 31, 32, 33, 15, 34, 35, 36, 37, 38, 39, 59, 60, 53, 54, 61, 62, 57, 58, 55, 56] (by decide +kernel) (by decide +kernel)
set_option maxRecDepth 20000 in
theorem gX4_father_X0_init : GoodIn wsX4_father (wsX0_init) := ggX4_father_X0_init
set_option maxRecDepth 20000 in
theorem ggX4_father_X2_init : GoodIn wsX4_father wsX2_init := goodIn_r _ [34, 35, 36, 37, 38, 39, 59, 60, 53, 54, 61, 62, 57, 58, 55, 56] (by decide +kernel) (by decide +kernel)
set_option maxRecDepth 20000 in
theorem gX4_father_X2_init : GoodIn wsX4_father (wsX2_init) := ggX4_father_X2_init
theorem dX4_father_0 : decode cX4_father 0 = .ok (.aload_n 0, 1) := by decide +kernel
theorem dX4_father_1 : decode cX4_father 1 = .ok (.iconst 4, 1) := by decide +kernel
theorem dX4_father_2 : decode cX4_father 2 = .ok (.iload_n 1, 1) := by decide +kernel
theorem dX4_father_3 : decode cX4_father 3 = .ok (.imul, 1) := by decide +kernel
theorem dX4_father_4 : decode cX4_father 4 = .ok (.iconst 1, 1) := by decide +kernel
theorem dX4_father_5 : decode cX4_father 5 = .ok (.iadd, 1) := by decide +kernel
theorem dX4_father_6 : decode cX4_father 6 = .ok (.invokevirtual 44, 3) := by decide +kernel
theorem dX4_father_9 : decode cX4_father 9 = .ok (.istore_n 2, 1) := by decide +kernel
theorem dX4_father_10 : decode cX4_father 10 = .ok (.aload_n 0, 1) := by decide +kernel
theorem dX4_father_11 : decode cX4_father 11 = .ok (.iconst 4, 1) := by decide +kernel
theorem dX4_father_12 : decode cX4_father 12 = .ok (.iload_n 1, 1) := by decide +kernel
theorem dX4_father_13 : decode cX4_father 13 = .ok (.imul, 1) := by decide +kernel
theorem dX4_father_14 : decode cX4_father 14 = .ok (.iconst 2, 1) := by decide +kernel
theorem dX4_father_15 : decode cX4_father 15 = .ok (.iadd, 1) := by decide +kernel
theorem dX4_father_16 : decode cX4_father 16 = .ok (.invokevirtual 44, 3) := by decide +kernel
theorem dX4_father_19 : decode cX4_father 19 = .ok (.istore_n 3, 1) := by decide +kernel
theorem dX4_father_20 : decode cX4_father 20 = .ok (.aload_n 0, 1) := by decide +kernel
theorem dX4_father_21 : decode cX4_father 21 = .ok (.iconst 4, 1) := by decide +kernel
theorem dX4_father_22 : decode cX4_father 22 = .ok (.iload_n 1, 1) := by decide +kernel
theorem dX4_father_23 : decode cX4_father 23 = .ok (.imul, 1) := by decide +kernel
theorem dX4_father_24 : decode cX4_father 24 = .ok (.invokevirtual 48, 3) := by decide +kernel
theorem dX4_father_27 : decode cX4_father 27 = .ok (.lookupswitch 81 #[(97, 71), (99, 41), (112, 61), (115, 51)], 41) := by decide +kernel
theorem dX4_father_68 : decode cX4_father 68 = .ok (.new 51, 3) := by decide +kernel
theorem dX4_father_71 : decode cX4_father 71 = .ok (.dup, 1) := by decide +kernel
theorem dX4_father_72 : decode cX4_father 72 = .ok (.iload_n 2, 1) := by decide +kernel
theorem dX4_father_73 : decode cX4_father 73 = .ok (.iload_n 3, 1) := by decide +kernel
theorem dX4_father_74 : decode cX4_father 74 = .ok (.invokespecial 53, 3) := by decide +kernel
theorem dX4_father_77 : decode cX4_father 77 = .ok (.areturn, 1) := by decide +kernel
theorem dX4_father_78 : decode cX4_father 78 = .ok (.new 56, 3) := by decide +kernel
theorem dX4_father_81 : decode cX4_father 81 = .ok (.dup, 1) := by decide +kernel
theorem dX4_father_82 : decode cX4_father 82 = .ok (.iload_n 2, 1) := by decide +kernel
theorem dX4_father_83 : decode cX4_father 83 = .ok (.iload_n 3, 1) := by decide +kernel
theorem dX4_father_84 : decode cX4_father 84 = .ok (.invokespecial 58, 3) := by decide +kernel
theorem dX4_father_87 : decode cX4_father 87 = .ok (.areturn, 1) := by decide +kernel
theorem dX4_father_88 : decode cX4_father 88 = .ok (.new 59, 3) := by decide +kernel
theorem dX4_father_91 : decode cX4_father 91 = .ok (.dup, 1) := by decide +kernel
theorem dX4_father_92 : decode cX4_father 92 = .ok (.iload_n 2, 1) := by decide +kernel
theorem dX4_father_93 : decode cX4_father 93 = .ok (.iload_n 3, 1) := by decide +kernel
theorem dX4_father_94 : decode cX4_father 94 = .ok (.invokespecial 61, 3) := by decide +kernel
theorem dX4_father_97 : decode cX4_father 97 = .ok (.areturn, 1) := by decide +kernel
theorem dX4_father_98 : decode cX4_father 98 = .ok (.new 62, 3) := by decide +kernel
theorem dX4_father_101 : decode cX4_father 101 = .ok (.dup, 1) := by decide +kernel
theorem dX4_father_102 : decode cX4_father 102 = .ok (.iload_n 2, 1) := by decide +kernel
theorem dX4_father_103 : decode cX4_father 103 = .ok (.iload_n 3, 1) := by decide +kernel
theorem dX4_father_104 : decode cX4_father 104 = .ok (.invokespecial 64, 3) := by decide +kernel
theorem dX4_father_107 : decode cX4_father 107 = .ok (.areturn, 1) := by decide +kernel
theorem dX4_father_108 : decode cX4_father 108 = .ok (.new 65, 3) := by decide +kernel
theorem dX4_father_111 : decode cX4_father 111 = .ok (.dup, 1) := by decide +kernel
theorem dX4_father_112 : decode cX4_father 112 = .ok (.iload_n 2, 1) := by decide +kernel
theorem dX4_father_113 : decode cX4_father 113 = .ok (.iload_n 3, 1) := by decide +kernel
theorem dX4_father_114 : decode cX4_father 114 = .ok (.invokespecial 67, 3) := by decide +kernel
theorem dX4_father_117 : decode cX4_father 117 = .ok (.areturn, 1) := by decide +kernel
set_option maxRecDepth 20000 in
theorem ggX4_fit_X4_closing : GoodIn wsX4_fit wsX4_closing := goodIn_r _ [5, 6, 7, 8, 9, 4, 10, 11, 12, 13, 14, 19, 20] (by decide +kernel) (by decide +kernel)
set_option maxRecDepth 20000 in
theorem gX4_fit_X4_closing : GoodIn wsX4_fit (wsV RX4 27 RX4 yX4_closing wsX4_closing) := goodIn_app (goodIn_of _ (by decide +kernel)) ggX4_fit_X4_closing
set_option maxRecDepth 20000 in
theorem ggX4_fit_X4_digit : GoodIn wsX4_fit wsX4_digit := goodIn_r _ [18, 11, 12, 13, 14, 19, 20] (by decide +kernel) (by decide +kernel)
set_option maxRecDepth 20000 in
theorem gX4_fit_X4_digit : GoodIn wsX4_fit (wsV RX4 44 RX4 yX4_digit wsX4_digit) := goodIn_app (goodIn_of _ (by decide +kernel)) ggX4_fit_X4_digit
theorem dX4_fit_0 : decode cX4_fit 0 = .ok (.aload_n 0, 1) := by decide +kernel
theorem dX4_fit_1 : decode cX4_fit 1 = .ok (.aload_n 0, 1) := by decide +kernel
theorem dX4_fit_2 : decode cX4_fit 2 = .ok (.invokevirtual 27, 3) := by decide +kernel
theorem dX4_fit_5 : decode cX4_fit 5 = .ok (.iconst 1, 1) := by decide +kernel
theorem dX4_fit_6 : decode cX4_fit 6 = .ok (.iadd, 1) := by decide +kernel
theorem dX4_fit_7 : decode cX4_fit 7 = .ok (.invokevirtual 44, 3) := by decide +kernel
theorem dX4_fit_10 : decode cX4_fit 10 = .ok (.ireturn, 1) := by decide +kernel
set_option maxRecDepth 20000 in
theorem ggX4_digit_X8_at : GoodIn wsX4_digit wsX8_at := goodIn_r _ [4] (by decide +kernel) (by decide +kernel)
set_option maxRecDepth 20000 in
theorem gX4_digit_X8_at_n23 : GoodIn wsX4_digit (wsX8_at) := ggX4_digit_X8_at
theorem dX4_digit_0 : decode cX4_digit 0 = .ok (.aload_n 0, 1) := by decide +kernel
theorem dX4_digit_1 : decode cX4_digit 1 = .ok (.getfield 9, 3) := by decide +kernel
theorem dX4_digit_4 : decode cX4_digit 4 = .ok (.iload_n 1, 1) := by decide +kernel
theorem dX4_digit_5 : decode cX4_digit 5 = .ok (.invokestatic 23, 3) := by decide +kernel
theorem dX4_digit_8 : decode cX4_digit 8 = .ok (.bipush 48, 2) := by decide +kernel
theorem dX4_digit_10 : decode cX4_digit 10 = .ok (.isub, 1) := by decide +kernel
theorem dX4_digit_11 : decode cX4_digit 11 = .ok (.ireturn, 1) := by decide +kernel
set_option maxRecDepth 20000 in
theorem ggX4_closing_X4_code : GoodIn wsX4_closing wsX4_code := goodIn_r _ [6, 7, 8, 9, 10, 11, 12] (by decide +kernel) (by decide +kernel)
set_option maxRecDepth 20000 in
theorem gX4_closing_X4_code : GoodIn wsX4_closing (wsV RX4 48 RX4 yX4_code wsX4_code) := goodIn_app (goodIn_of _ (by decide +kernel)) ggX4_closing_X4_code
theorem dX4_closing_0 : decode cX4_closing 0 = .ok (.iconst 0, 1) := by decide +kernel
theorem dX4_closing_1 : decode cX4_closing 1 = .ok (.istore_n 1, 1) := by decide +kernel
theorem dX4_closing_2 : decode cX4_closing 2 = .ok (.iload_n 1, 1) := by decide +kernel
theorem dX4_closing_3 : decode cX4_closing 3 = .ok (.aload_n 0, 1) := by decide +kernel
theorem dX4_closing_4 : decode cX4_closing 4 = .ok (.getfield 15, 3) := by decide +kernel
theorem dX4_closing_7 : decode cX4_closing 7 = .ok (.if_icmp .ge 19, 3) := by decide +kernel
theorem dX4_closing_10 : decode cX4_closing 10 = .ok (.aload_n 0, 1) := by decide +kernel
theorem dX4_closing_11 : decode cX4_closing 11 = .ok (.iload_n 1, 1) := by decide +kernel
theorem dX4_closing_12 : decode cX4_closing 12 = .ok (.invokevirtual 48, 3) := by decide +kernel
theorem dX4_closing_15 : decode cX4_closing 15 = .ok (.bipush 59, 2) := by decide +kernel
theorem dX4_closing_17 : decode cX4_closing 17 = .ok (.if_icmp .eq 9, 3) := by decide +kernel
theorem dX4_closing_20 : decode cX4_closing 20 = .ok (.iinc 1 1, 3) := by decide +kernel
theorem dX4_closing_23 : decode cX4_closing 23 = .ok (.goto (-21), 3) := by decide +kernel
theorem dX4_closing_26 : decode cX4_closing 26 = .ok (.iload_n 1, 1) := by decide +kernel
theorem dX4_closing_27 : decode cX4_closing 27 = .ok (.ireturn, 1) := by decide +kernel
set_option maxRecDepth 20000 in
theorem ggX4_isRight_X4_isDigit : GoodIn wsX4_isRight wsX4_isDigit := goodIn_r _ [5, 6, 7, 8, 4, 9, 10, 11, 12, 13, 24, 25] (by decide +kernel) (by decide +kernel)
set_option maxRecDepth 20000 in
theorem gX4_isRight_X4_isDigit : GoodIn wsX4_isRight (wsV RX4 68 RX4 yX4_isDigit wsX4_isDigit) := goodIn_app (goodIn_of _ (by decide +kernel)) ggX4_isRight_X4_isDigit
set_option maxRecDepth 20000 in
theorem ggX4_isRight_X4_code : GoodIn wsX4_isRight wsX4_code := goodIn_r _ [17, 10, 11, 12, 13, 24, 25] (by decide +kernel) (by decide +kernel)
set_option maxRecDepth 20000 in
theorem gX4_isRight_X4_code : GoodIn wsX4_isRight (wsV RX4 48 RX4 yX4_code wsX4_code) := goodIn_app (goodIn_of _ (by decide +kernel)) ggX4_isRight_X4_code
set_option maxRecDepth 20000 in
theorem ggX4_isRight_X4_isKind : GoodIn wsX4_isRight wsX4_isKind := goodIn_r _ [20] (by decide +kernel) (by decide +kernel)
set_option maxRecDepth 20000 in
theorem gX4_isRight_X4_isKind : GoodIn wsX4_isRight (va_wsS RX4 72 yX4_isKind wsX4_isKind) := goodIn_app (goodIn_of _ (by decide +kernel)) ggX4_isRight_X4_isKind
set_option maxRecDepth 20000 in
theorem ggX4_isRight_X4_endsFather : GoodIn wsX4_isRight wsX4_endsFather := goodIn_r _ [23] (by decide +kernel) (by decide +kernel)
set_option maxRecDepth 20000 in
theorem gX4_isRight_X4_endsFather : GoodIn wsX4_isRight (va_wsS RX4 76 yX4_endsFather wsX4_endsFather) := goodIn_app (goodIn_of _ (by decide +kernel)) ggX4_isRight_X4_endsFather
theorem dX4_isRight_0 : decode cX4_isRight 0 = .ok (.iload_n 1, 1) := by decide +kernel
theorem dX4_isRight_1 : decode cX4_isRight 1 = .ok (.iload_n 2, 1) := by decide +kernel
theorem dX4_isRight_2 : decode cX4_isRight 2 = .ok (.if_icmp .le 27, 3) := by decide +kernel
theorem dX4_isRight_5 : decode cX4_isRight 5 = .ok (.iload_n 1, 1) := by decide +kernel
theorem dX4_isRight_6 : decode cX4_isRight 6 = .ok (.iload_n 2, 1) := by decide +kernel
theorem dX4_isRight_7 : decode cX4_isRight 7 = .ok (.iconst 1, 1) := by decide +kernel
theorem dX4_isRight_8 : decode cX4_isRight 8 = .ok (.iadd, 1) := by decide +kernel
theorem dX4_isRight_9 : decode cX4_isRight 9 = .ok (.if_icmp .ne 18, 3) := by decide +kernel
theorem dX4_isRight_12 : decode cX4_isRight 12 = .ok (.aload_n 0, 1) := by decide +kernel
theorem dX4_isRight_13 : decode cX4_isRight 13 = .ok (.iload_n 1, 1) := by decide +kernel
theorem dX4_isRight_14 : decode cX4_isRight 14 = .ok (.iconst 0, 1) := by decide +kernel
theorem dX4_isRight_15 : decode cX4_isRight 15 = .ok (.bipush 9, 2) := by decide +kernel
theorem dX4_isRight_17 : decode cX4_isRight 17 = .ok (.invokevirtual 68, 3) := by decide +kernel
theorem dX4_isRight_20 : decode cX4_isRight 20 = .ok (.ifCond .eq 7, 3) := by decide +kernel
theorem dX4_isRight_23 : decode cX4_isRight 23 = .ok (.iconst 1, 1) := by decide +kernel
theorem dX4_isRight_24 : decode cX4_isRight 24 = .ok (.goto 4, 3) := by decide +kernel
theorem dX4_isRight_27 : decode cX4_isRight 27 = .ok (.iconst 0, 1) := by decide +kernel
theorem dX4_isRight_28 : decode cX4_isRight 28 = .ok (.ireturn, 1) := by decide +kernel
theorem dX4_isRight_29 : decode cX4_isRight 29 = .ok (.iload_n 1, 1) := by decide +kernel
theorem dX4_isRight_30 : decode cX4_isRight 30 = .ok (.iconst 4, 1) := by decide +kernel
theorem dX4_isRight_31 : decode cX4_isRight 31 = .ok (.irem, 1) := by decide +kernel
theorem dX4_isRight_32 : decode cX4_isRight 32 = .ok (.tableswitch 54 0 2 #[28, 37, 45], 28) := by decide +kernel
theorem dX4_isRight_60 : decode cX4_isRight 60 = .ok (.aload_n 0, 1) := by decide +kernel
theorem dX4_isRight_61 : decode cX4_isRight 61 = .ok (.iload_n 1, 1) := by decide +kernel
theorem dX4_isRight_62 : decode cX4_isRight 62 = .ok (.invokevirtual 48, 3) := by decide +kernel
theorem dX4_isRight_65 : decode cX4_isRight 65 = .ok (.invokestatic 72, 3) := by decide +kernel
theorem dX4_isRight_68 : decode cX4_isRight 68 = .ok (.ireturn, 1) := by decide +kernel
theorem dX4_isRight_69 : decode cX4_isRight 69 = .ok (.aload_n 0, 1) := by decide +kernel
theorem dX4_isRight_70 : decode cX4_isRight 70 = .ok (.iload_n 1, 1) := by decide +kernel
theorem dX4_isRight_71 : decode cX4_isRight 71 = .ok (.iconst 0, 1) := by decide +kernel
theorem dX4_isRight_72 : decode cX4_isRight 72 = .ok (.iconst 5, 1) := by decide +kernel
theorem dX4_isRight_73 : decode cX4_isRight 73 = .ok (.invokevirtual 68, 3) := by decide +kernel
theorem dX4_isRight_76 : decode cX4_isRight 76 = .ok (.ireturn, 1) := by decide +kernel
theorem dX4_isRight_77 : decode cX4_isRight 77 = .ok (.aload_n 0, 1) := by decide +kernel
theorem dX4_isRight_78 : decode cX4_isRight 78 = .ok (.iload_n 1, 1) := by decide +kernel
theorem dX4_isRight_79 : decode cX4_isRight 79 = .ok (.iconst 1, 1) := by decide +kernel
theorem dX4_isRight_80 : decode cX4_isRight 80 = .ok (.bipush 9, 2) := by decide +kernel
theorem dX4_isRight_82 : decode cX4_isRight 82 = .ok (.invokevirtual 68, 3) := by decide +kernel
theorem dX4_isRight_85 : decode cX4_isRight 85 = .ok (.ireturn, 1) := by decide +kernel
theorem dX4_isRight_86 : decode cX4_isRight 86 = .ok (.aload_n 0, 1) := by decide +kernel
theorem dX4_isRight_87 : decode cX4_isRight 87 = .ok (.iload_n 1, 1) := by decide +kernel
theorem dX4_isRight_88 : decode cX4_isRight 88 = .ok (.invokevirtual 48, 3) := by decide +kernel
theorem dX4_isRight_91 : decode cX4_isRight 91 = .ok (.iload_n 1, 1) := by decide +kernel
theorem dX4_isRight_92 : decode cX4_isRight 92 = .ok (.iconst 4, 1) := by decide +kernel
theorem dX4_isRight_93 : decode cX4_isRight 93 = .ok (.idiv, 1) := by decide +kernel
theorem dX4_isRight_94 : decode cX4_isRight 94 = .ok (.iconst 1, 1) := by decide +kernel
theorem dX4_isRight_95 : decode cX4_isRight 95 = .ok (.iadd, 1) := by decide +kernel
theorem dX4_isRight_96 : decode cX4_isRight 96 = .ok (.invokestatic 76, 3) := by decide +kernel
theorem dX4_isRight_99 : decode cX4_isRight 99 = .ok (.ireturn, 1) := by decide +kernel
set_option maxRecDepth 20000 in
theorem ggX4_isDigit_X4_digit : GoodIn wsX4_isDigit wsX4_digit := goodIn_r _ [5, 6, 7, 8, 9, 10, 11] (by decide +kernel) (by decide +kernel)
