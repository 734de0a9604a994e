theorem dX9_found_53 : decode cX9_found 53 = .ok (.iload_n 1, 1) := by decide +kernel
theorem dX9_found_54 : decode cX9_found 54 = .ok (.iastore, 1) := by decide +kernel
theorem dX9_found_55 : decode cX9_found 55 = .ok (.aload_n 0, 1) := by decide +kernel
theorem dX9_found_56 : decode cX9_found 56 = .ok (.getfield 31, 3) := by decide +kernel
theorem dX9_found_59 : decode cX9_found 59 = .ok (.aload_n 0, 1) := by decide +kernel
theorem dX9_found_60 : decode cX9_found 60 = .ok (.getfield 115, 3) := by decide +kernel
theorem dX9_found_63 : decode cX9_found 63 = .ok (.iload_n 2, 1) := by decide +kernel
theorem dX9_found_64 : decode cX9_found 64 = .ok (.iastore, 1) := by decide +kernel
theorem dX9_found_65 : decode cX9_found 65 = .ok (.aload_n 0, 1) := by decide +kernel
theorem dX9_found_66 : decode cX9_found 66 = .ok (.dup, 1) := by decide +kernel
theorem dX9_found_67 : decode cX9_found 67 = .ok (.getfield 115, 3) := by decide +kernel
theorem dX9_found_70 : decode cX9_found 70 = .ok (.iconst 1, 1) := by decide +kernel
theorem dX9_found_71 : decode cX9_found 71 = .ok (.iadd, 1) := by decide +kernel
theorem dX9_found_72 : decode cX9_found 72 = .ok (.putfield 115, 3) := by decide +kernel
theorem dX9_found_75 : decode cX9_found 75 = .ok (.aload_n 0, 1) := by decide +kernel
theorem dX9_found_76 : decode cX9_found 76 = .ok (.getfield 115, 3) := by decide +kernel
theorem dX9_found_79 : decode cX9_found 79 = .ok (.ireturn, 1) := by decide +kernel
theorem dX9_forget_0 : decode cX9_forget 0 = .ok (.aload_n 0, 1) := by decide +kernel
theorem dX9_forget_1 : decode cX9_forget 1 = .ok (.getfield 115, 3) := by decide +kernel
theorem dX9_forget_4 : decode cX9_forget 4 = .ok (.istore_n 1, 1) := by decide +kernel
theorem dX9_forget_5 : decode cX9_forget 5 = .ok (.aload_n 0, 1) := by decide +kernel
theorem dX9_forget_6 : decode cX9_forget 6 = .ok (.iconst 0, 1) := by decide +kernel
theorem dX9_forget_7 : decode cX9_forget 7 = .ok (.putfield 115, 3) := by decide +kernel
theorem dX9_forget_10 : decode cX9_forget 10 = .ok (.iload_n 1, 1) := by decide +kernel
theorem dX9_forget_11 : decode cX9_forget 11 = .ok (.ireturn, 1) := by decide +kernel
set_option maxRecDepth 20000 in
theorem ggX9_layWho_X9_thinkDay : GoodIn wsX9_layWho wsX9_thinkDay := goodIn_r _ [9, 10, 11, 12, 13, 14, 8, 15, 16, 17, 18, 19, 20, 4, 21, 22, 23, 24, 1, 25, 26, 27, 28, 29, 30, 31, 32, 33, 34, 35, 36, 37, 38, 39, 40, 41, 42, 43, 44, 45, 46, 47, 48, 49, 50, 51, 52, 53, 54, 55, 56, 57, 58, 59, 60, 61, 62, 63, 64, 65, 66, 67, 68, 69, 70, 71, 72, 73, 74, 75, 76, 77, 78, 79] (by decide +kernel) (by decide +kernel)
set_option maxRecDepth 20000 in
theorem gX9_layWho_X9_thinkDay : GoodIn wsX9_layWho (wsV RX9 145 RX9 yX9_thinkDay wsX9_thinkDay) := goodIn_app (goodIn_of _ (by decide +kernel)) ggX9_layWho_X9_thinkDay
theorem dX9_layWho_0 : decode cX9_layWho 0 = .ok (.aload_n 0, 1) := by decide +kernel
theorem dX9_layWho_1 : decode cX9_layWho 1 = .ok (.getfield 25, 3) := by decide +kernel
theorem dX9_layWho_4 : decode cX9_layWho 4 = .ok (.iload_n 1, 1) := by decide +kernel
theorem dX9_layWho_5 : decode cX9_layWho 5 = .ok (.iaload, 1) := by decide +kernel
theorem dX9_layWho_6 : decode cX9_layWho 6 = .ok (.istore_n 2, 1) := by decide +kernel
theorem dX9_layWho_7 : decode cX9_layWho 7 = .ok (.iconst 0, 1) := by decide +kernel
theorem dX9_layWho_8 : decode cX9_layWho 8 = .ok (.istore_n 3, 1) := by decide +kernel
theorem dX9_layWho_9 : decode cX9_layWho 9 = .ok (.iload_n 3, 1) := by decide +kernel
theorem dX9_layWho_10 : decode cX9_layWho 10 = .ok (.aload_n 0, 1) := by decide +kernel
theorem dX9_layWho_11 : decode cX9_layWho 11 = .ok (.getfield 100, 3) := by decide +kernel
theorem dX9_layWho_14 : decode cX9_layWho 14 = .ok (.if_icmp .gt 67, 3) := by decide +kernel
theorem dX9_layWho_17 : decode cX9_layWho 17 = .ok (.aload_n 0, 1) := by decide +kernel
theorem dX9_layWho_18 : decode cX9_layWho 18 = .ok (.getfield 25, 3) := by decide +kernel
theorem dX9_layWho_21 : decode cX9_layWho 21 = .ok (.iload_n 1, 1) := by decide +kernel
theorem dX9_layWho_22 : decode cX9_layWho 22 = .ok (.iload_n 3, 1) := by decide +kernel
theorem dX9_layWho_23 : decode cX9_layWho 23 = .ok (.aload_n 0, 1) := by decide +kernel
theorem dX9_layWho_24 : decode cX9_layWho 24 = .ok (.getfield 100, 3) := by decide +kernel
theorem dX9_layWho_27 : decode cX9_layWho 27 = .ok (.if_icmp .ne 7, 3) := by decide +kernel
theorem dX9_layWho_30 : decode cX9_layWho 30 = .ok (.iconst (-1), 1) := by decide +kernel
theorem dX9_layWho_31 : decode cX9_layWho 31 = .ok (.goto 4, 3) := by decide +kernel
theorem dX9_layWho_34 : decode cX9_layWho 34 = .ok (.iload_n 3, 1) := by decide +kernel
theorem dX9_layWho_35 : decode cX9_layWho 35 = .ok (.iastore, 1) := by decide +kernel
theorem dX9_layWho_36 : decode cX9_layWho 36 = .ok (.aload_n 0, 1) := by decide +kernel
theorem dX9_layWho_37 : decode cX9_layWho 37 = .ok (.invokevirtual 145, 3) := by decide +kernel
theorem dX9_layWho_40 : decode cX9_layWho 40 = .ok (.iconst 0, 1) := by decide +kernel
theorem dX9_layWho_41 : decode cX9_layWho 41 = .ok (.istore 4, 2) := by decide +kernel
theorem dX9_layWho_43 : decode cX9_layWho 43 = .ok (.iload 4, 2) := by decide +kernel
theorem dX9_layWho_45 : decode cX9_layWho 45 = .ok (.bipush 8, 2) := by decide +kernel
theorem dX9_layWho_47 : decode cX9_layWho 47 = .ok (.if_icmp .gt 28, 3) := by decide +kernel
theorem dX9_layWho_50 : decode cX9_layWho 50 = .ok (.aload_n 0, 1) := by decide +kernel
theorem dX9_layWho_51 : decode cX9_layWho 51 = .ok (.getfield 53, 3) := by decide +kernel
theorem dX9_layWho_54 : decode cX9_layWho 54 = .ok (.bipush 9, 2) := by decide +kernel
theorem dX9_layWho_56 : decode cX9_layWho 56 = .ok (.iload_n 3, 1) := by decide +kernel
theorem dX9_layWho_57 : decode cX9_layWho 57 = .ok (.imul, 1) := by decide +kernel
theorem dX9_layWho_58 : decode cX9_layWho 58 = .ok (.iload 4, 2) := by decide +kernel
theorem dX9_layWho_60 : decode cX9_layWho 60 = .ok (.iadd, 1) := by decide +kernel
theorem dX9_layWho_61 : decode cX9_layWho 61 = .ok (.aload_n 0, 1) := by decide +kernel
theorem dX9_layWho_62 : decode cX9_layWho 62 = .ok (.getfield 38, 3) := by decide +kernel
theorem dX9_layWho_65 : decode cX9_layWho 65 = .ok (.iload 4, 2) := by decide +kernel
theorem dX9_layWho_67 : decode cX9_layWho 67 = .ok (.iaload, 1) := by decide +kernel
theorem dX9_layWho_68 : decode cX9_layWho 68 = .ok (.iastore, 1) := by decide +kernel
theorem dX9_layWho_69 : decode cX9_layWho 69 = .ok (.iinc 4 1, 3) := by decide +kernel
theorem dX9_layWho_72 : decode cX9_layWho 72 = .ok (.goto (-29), 3) := by decide +kernel
theorem dX9_layWho_75 : decode cX9_layWho 75 = .ok (.iinc 3 1, 3) := by decide +kernel
theorem dX9_layWho_78 : decode cX9_layWho 78 = .ok (.goto (-69), 3) := by decide +kernel
theorem dX9_layWho_81 : decode cX9_layWho 81 = .ok (.aload_n 0, 1) := by decide +kernel
theorem dX9_layWho_82 : decode cX9_layWho 82 = .ok (.getfield 25, 3) := by decide +kernel
theorem dX9_layWho_85 : decode cX9_layWho 85 = .ok (.iload_n 1, 1) := by decide +kernel
theorem dX9_layWho_86 : decode cX9_layWho 86 = .ok (.iload_n 2, 1) := by decide +kernel
theorem dX9_layWho_87 : decode cX9_layWho 87 = .ok (.iastore, 1) := by decide +kernel
theorem dX9_layWho_88 : decode cX9_layWho 88 = .ok (.return_, 1) := by decide +kernel
theorem dX9_fitting_0 : decode cX9_fitting 0 = .ok (.iconst 0, 1) := by decide +kernel
theorem dX9_fitting_1 : decode cX9_fitting 1 = .ok (.istore_n 1, 1) := by decide +kernel
theorem dX9_fitting_2 : decode cX9_fitting 2 = .ok (.iconst 0, 1) := by decide +kernel
theorem dX9_fitting_3 : decode cX9_fitting 3 = .ok (.istore_n 2, 1) := by decide +kernel
theorem dX9_fitting_4 : decode cX9_fitting 4 = .ok (.iload_n 2, 1) := by decide +kernel
theorem dX9_fitting_5 : decode cX9_fitting 5 = .ok (.aload_n 0, 1) := by decide +kernel
theorem dX9_fitting_6 : decode cX9_fitting 6 = .ok (.getfield 100, 3) := by decide +kernel
theorem dX9_fitting_9 : decode cX9_fitting 9 = .ok (.if_icmp .gt 80, 3) := by decide +kernel
theorem dX9_fitting_12 : decode cX9_fitting 12 = .ok (.iconst 1, 1) := by decide +kernel
theorem dX9_fitting_13 : decode cX9_fitting 13 = .ok (.istore_n 3, 1) := by decide +kernel
theorem dX9_fitting_14 : decode cX9_fitting 14 = .ok (.iconst 0, 1) := by decide +kernel
theorem dX9_fitting_15 : decode cX9_fitting 15 = .ok (.istore 4, 2) := by decide +kernel
theorem dX9_fitting_17 : decode cX9_fitting 17 = .ok (.iload 4, 2) := by decide +kernel
theorem dX9_fitting_19 : decode cX9_fitting 19 = .ok (.aload_n 0, 1) := by decide +kernel
theorem dX9_fitting_20 : decode cX9_fitting 20 = .ok (.getfield 115, 3) := by decide +kernel
theorem dX9_fitting_23 : decode cX9_fitting 23 = .ok (.if_icmp .ge 46, 3) := by decide +kernel
theorem dX9_fitting_26 : decode cX9_fitting 26 = .ok (.iload_n 3, 1) := by decide +kernel
theorem dX9_fitting_27 : decode cX9_fitting 27 = .ok (.ifCond .eq 34, 3) := by decide +kernel
theorem dX9_fitting_30 : decode cX9_fitting 30 = .ok (.aload_n 0, 1) := by decide +kernel
theorem dX9_fitting_31 : decode cX9_fitting 31 = .ok (.getfield 53, 3) := by decide +kernel
theorem dX9_fitting_34 : decode cX9_fitting 34 = .ok (.bipush 9, 2) := by decide +kernel
theorem dX9_fitting_36 : decode cX9_fitting 36 = .ok (.iload_n 2, 1) := by decide +kernel
theorem dX9_fitting_37 : decode cX9_fitting 37 = .ok (.imul, 1) := by decide +kernel
theorem dX9_fitting_38 : decode cX9_fitting 38 = .ok (.aload_n 0, 1) := by decide +kernel
theorem dX9_fitting_39 : decode cX9_fitting 39 = .ok (.getfield 28, 3) := by decide +kernel
theorem dX9_fitting_42 : decode cX9_fitting 42 = .ok (.iload 4, 2) := by decide +kernel
theorem dX9_fitting_44 : decode cX9_fitting 44 = .ok (.iaload, 1) := by decide +kernel
theorem dX9_fitting_45 : decode cX9_fitting 45 = .ok (.iadd, 1) := by decide +kernel
theorem dX9_fitting_46 : decode cX9_fitting 46 = .ok (.iaload, 1) := by decide +kernel
theorem dX9_fitting_47 : decode cX9_fitting 47 = .ok (.aload_n 0, 1) := by decide +kernel
theorem dX9_fitting_48 : decode cX9_fitting 48 = .ok (.getfield 31, 3) := by decide +kernel
theorem dX9_fitting_51 : decode cX9_fitting 51 = .ok (.iload 4, 2) := by decide +kernel
theorem dX9_fitting_53 : decode cX9_fitting 53 = .ok (.iaload, 1) := by decide +kernel
theorem dX9_fitting_54 : decode cX9_fitting 54 = .ok (.if_icmp .ne 7, 3) := by decide +kernel
theorem dX9_fitting_57 : decode cX9_fitting 57 = .ok (.iconst 1, 1) := by decide +kernel
theorem dX9_fitting_58 : decode cX9_fitting 58 = .ok (.goto 4, 3) := by decide +kernel
theorem dX9_fitting_61 : decode cX9_fitting 61 = .ok (.iconst 0, 1) := by decide +kernel
theorem dX9_fitting_62 : decode cX9_fitting 62 = .ok (.istore_n 3, 1) := by decide +kernel
theorem dX9_fitting_63 : decode cX9_fitting 63 = .ok (.iinc 4 1, 3) := by decide +kernel
theorem dX9_fitting_66 : decode cX9_fitting 66 = .ok (.goto (-49), 3) := by decide +kernel
theorem dX9_fitting_69 : decode cX9_fitting 69 = .ok (.iload_n 1, 1) := by decide +kernel
theorem dX9_fitting_70 : decode cX9_fitting 70 = .ok (.iload_n 3, 1) := by decide +kernel
theorem dX9_fitting_71 : decode cX9_fitting 71 = .ok (.ifCond .eq 9, 3) := by decide +kernel
theorem dX9_fitting_74 : decode cX9_fitting 74 = .ok (.iconst 1, 1) := by decide +kernel
theorem dX9_fitting_75 : decode cX9_fitting 75 = .ok (.iload_n 2, 1) := by decide +kernel
theorem dX9_fitting_76 : decode cX9_fitting 76 = .ok (.ishl, 1) := by decide +kernel
theorem dX9_fitting_77 : decode cX9_fitting 77 = .ok (.goto 4, 3) := by decide +kernel
theorem dX9_fitting_80 : decode cX9_fitting 80 = .ok (.iconst 0, 1) := by decide +kernel
theorem dX9_fitting_81 : decode cX9_fitting 81 = .ok (.ior, 1) := by decide +kernel
theorem dX9_fitting_82 : decode cX9_fitting 82 = .ok (.istore_n 1, 1) := by decide +kernel
theorem dX9_fitting_83 : decode cX9_fitting 83 = .ok (.iinc 2 1, 3) := by decide +kernel
theorem dX9_fitting_86 : decode cX9_fitting 86 = .ok (.goto (-82), 3) := by decide +kernel
theorem dX9_fitting_89 : decode cX9_fitting 89 = .ok (.iload_n 1, 1) := by decide +kernel
theorem dX9_fitting_90 : decode cX9_fitting 90 = .ok (.ireturn, 1) := by decide +kernel
set_option maxRecDepth 20000 in
theorem ggX9_whoIn_X9_layWho : GoodIn wsX9_whoIn wsX9_layWho := goodIn_r _ [6, 7, 1, 8, 9, 10, 11, 12, 5, 13, 14, 15, 16, 17, 18, 19, 20, 21, 22, 23, 24, 25, 26, 27, 28, 29, 30, 31, 32, 33, 34, 35, 36, 37, 38, 39, 40, 41, 42, 50, 51, 52, 53, 54, 55, 56, 57, 58, 59, 60, 61, 62, 63, 64, 65, 66, 67, 68, 69, 70, 71, 72, 73, 74, 75, 76, 77, 78, 79, 80, 81, 82, 83, 84, 85, 86, 87, 88, 89, 90] (by decide +kernel) (by decide +kernel)
set_option maxRecDepth 20000 in
theorem gX9_whoIn_X9_layWho : GoodIn wsX9_whoIn (wsV RX9 193 RX9 yX9_layWho wsX9_layWho) := goodIn_app (goodIn_of _ (by decide +kernel)) ggX9_whoIn_X9_layWho
set_option maxRecDepth 20000 in
theorem ggX9_whoIn_X9_fitting : GoodIn wsX9_whoIn wsX9_fitting := goodIn_r _ [46, 1, 47, 8, 48, 49, 50, 51, 52, 53, 54, 55, 56, 57, 58, 59, 60, 61, 62, 63, 64, 65, 66, 67, 68, 69, 70, 71, 72, 73, 74, 75, 76, 77, 78, 79, 80, 81, 82, 83, 84, 85, 86, 87, 88, 89, 90] (by decide +kernel) (by decide +kernel)
set_option maxRecDepth 20000 in
theorem gX9_whoIn_X9_fitting : GoodIn wsX9_whoIn (wsV RX9 196 RX9 yX9_fitting wsX9_fitting) := goodIn_app (goodIn_of _ (by decide +kernel)) ggX9_whoIn_X9_fitting
set_option maxRecDepth 20000 in
theorem ggX9_whoIn_X9_isIn : GoodIn wsX9_whoIn wsX9_isIn := goodIn_r _ [37] (by decide +kernel) (by decide +kernel)
set_option maxRecDepth 20000 in
theorem gX9_whoIn_X9_isIn : GoodIn wsX9_whoIn (va_wsS RX9 127 yX9_isIn wsX9_isIn) := goodIn_app (goodIn_of _ (by decide +kernel)) ggX9_whoIn_X9_isIn
theorem dX9_whoIn_0 : decode cX9_whoIn 0 = .ok (.aload_n 0, 1) := by decide +kernel
theorem dX9_whoIn_1 : decode cX9_whoIn 1 = .ok (.iload_n 1, 1) := by decide +kernel
theorem dX9_whoIn_2 : decode cX9_whoIn 2 = .ok (.invokevirtual 193, 3) := by decide +kernel
theorem dX9_whoIn_5 : decode cX9_whoIn 5 = .ok (.aload_n 0, 1) := by decide +kernel
theorem dX9_whoIn_6 : decode cX9_whoIn 6 = .ok (.invokevirtual 196, 3) := by decide +kernel
theorem dX9_whoIn_9 : decode cX9_whoIn 9 = .ok (.istore_n 2, 1) := by decide +kernel
theorem dX9_whoIn_10 : decode cX9_whoIn 10 = .ok (.iload_n 2, 1) := by decide +kernel
theorem dX9_whoIn_11 : decode cX9_whoIn 11 = .ok (.iconst 1, 1) := by decide +kernel
theorem dX9_whoIn_12 : decode cX9_whoIn 12 = .ok (.aload_n 0, 1) := by decide +kernel
theorem dX9_whoIn_13 : decode cX9_whoIn 13 = .ok (.getfield 100, 3) := by decide +kernel
theorem dX9_whoIn_16 : decode cX9_whoIn 16 = .ok (.ishl, 1) := by decide +kernel
theorem dX9_whoIn_17 : decode cX9_whoIn 17 = .ok (.iconst 1, 1) := by decide +kernel
theorem dX9_whoIn_18 : decode cX9_whoIn 18 = .ok (.isub, 1) := by decide +kernel
theorem dX9_whoIn_19 : decode cX9_whoIn 19 = .ok (.iand, 1) := by decide +kernel
theorem dX9_whoIn_20 : decode cX9_whoIn 20 = .ok (.istore_n 3, 1) := by decide +kernel
theorem dX9_whoIn_21 : decode cX9_whoIn 21 = .ok (.iload_n 2, 1) := by decide +kernel
theorem dX9_whoIn_22 : decode cX9_whoIn 22 = .ok (.aload_n 0, 1) := by decide +kernel
theorem dX9_whoIn_23 : decode cX9_whoIn 23 = .ok (.getfield 100, 3) := by decide +kernel
theorem dX9_whoIn_26 : decode cX9_whoIn 26 = .ok (.invokestatic 127, 3) := by decide +kernel
theorem dX9_whoIn_29 : decode cX9_whoIn 29 = .ok (.ifCond .eq 10, 3) := by decide +kernel
theorem dX9_whoIn_32 : decode cX9_whoIn 32 = .ok (.iload_n 3, 1) := by decide +kernel
theorem dX9_whoIn_33 : decode cX9_whoIn 33 = .ok (.bipush 16, 2) := by decide +kernel
theorem dX9_whoIn_35 : decode cX9_whoIn 35 = .ok (.ior, 1) := by decide +kernel
theorem dX9_whoIn_36 : decode cX9_whoIn 36 = .ok (.goto 4, 3) := by decide +kernel
theorem dX9_whoIn_39 : decode cX9_whoIn 39 = .ok (.iload_n 3, 1) := by decide +kernel
theorem dX9_whoIn_40 : decode cX9_whoIn 40 = .ok (.ireturn, 1) := by decide +kernel
set_option maxRecDepth 20000 in
theorem ggX9_lookFor_X9_layWho : GoodIn wsX9_lookFor wsX9_layWho := goodIn_r _ [8, 9, 2, 3, 10, 11, 12, 13, 7, 14, 15, 16, 17, 18, 19, 20, 21, 22, 23, 24, 25, 26, 27, 28, 29, 30, 31, 32, 33, 34, 35, 36, 37, 38, 39, 40, 41, 42, 43, 51, 52, 53, 54, 55, 56, 57, 58, 59, 60, 61, 62, 63, 64, 65, 66, 67, 68, 69, 70, 71, 72, 73, 74, 75, 76, 77, 78, 79, 80, 81, 82, 83, 84, 85, 86, 87, 88, 89, 90, 91] (by decide +kernel) (by decide +kernel)
set_option maxRecDepth 20000 in
theorem gX9_lookFor_X9_layWho : GoodIn wsX9_lookFor (wsV RX9 193 RX9 yX9_layWho wsX9_layWho) := goodIn_app (goodIn_of _ (by decide +kernel)) ggX9_lookFor_X9_layWho
set_option maxRecDepth 20000 in
theorem ggX9_lookFor_X9_fitting : GoodIn wsX9_lookFor wsX9_fitting := goodIn_r _ [47, 2, 48, 3, 49, 50, 51, 52, 53, 54, 55, 56, 57, 58, 59, 60, 61, 62, 63, 64, 65, 66, 67, 68, 69, 70, 71, 72, 73, 74, 75, 76, 77, 78, 79, 80, 81, 82, 83, 84, 85, 86, 87, 88, 89, 90, 91] (by decide +kernel) (by decide +kernel)
set_option maxRecDepth 20000 in
theorem gX9_lookFor_X9_fitting : GoodIn wsX9_lookFor (wsV RX9 196 RX9 yX9_fitting wsX9_fitting) := goodIn_app (goodIn_of _ (by decide +kernel)) ggX9_lookFor_X9_fitting
set_option maxRecDepth 20000 in
theorem ggX9_lookFor_X9_isIn : GoodIn wsX9_lookFor wsX9_isIn := goodIn_r _ [38] (by decide +kernel) (by decide +kernel)
set_option maxRecDepth 20000 in
theorem gX9_lookFor_X9_isIn : GoodIn wsX9_lookFor (va_wsS RX9 127 yX9_isIn wsX9_isIn) := goodIn_app (goodIn_of _ (by decide +kernel)) ggX9_lookFor_X9_isIn
theorem dX9_lookFor_0 : decode cX9_lookFor 0 = .ok (.aload_n 0, 1) := by decide +kernel
theorem dX9_lookFor_1 : decode cX9_lookFor 1 = .ok (.iload_n 1, 1) := by decide +kernel
theorem dX9_lookFor_2 : decode cX9_lookFor 2 = .ok (.invokevirtual 193, 3) := by decide +kernel
theorem dX9_lookFor_5 : decode cX9_lookFor 5 = .ok (.aload_n 0, 1) := by decide +kernel
theorem dX9_lookFor_6 : decode cX9_lookFor 6 = .ok (.invokevirtual 196, 3) := by decide +kernel
theorem dX9_lookFor_9 : decode cX9_lookFor 9 = .ok (.istore_n 2, 1) := by decide +kernel
theorem dX9_lookFor_10 : decode cX9_lookFor 10 = .ok (.iconst (-1), 1) := by decide +kernel
theorem dX9_lookFor_11 : decode cX9_lookFor 11 = .ok (.istore_n 3, 1) := by decide +kernel
theorem dX9_lookFor_12 : decode cX9_lookFor 12 = .ok (.ldc 199, 2) := by decide +kernel
theorem dX9_lookFor_14 : decode cX9_lookFor 14 = .ok (.istore 4, 2) := by decide +kernel
theorem dX9_lookFor_16 : decode cX9_lookFor 16 = .ok (.iconst 0, 1) := by decide +kernel
theorem dX9_lookFor_17 : decode cX9_lookFor 17 = .ok (.istore 5, 2) := by decide +kernel
theorem dX9_lookFor_19 : decode cX9_lookFor 19 = .ok (.iload 5, 2) := by decide +kernel
theorem dX9_lookFor_21 : decode cX9_lookFor 21 = .ok (.bipush 8, 2) := by decide +kernel
theorem dX9_lookFor_23 : decode cX9_lookFor 23 = .ok (.if_icmp .gt 136, 3) := by decide +kernel
theorem dX9_lookFor_26 : decode cX9_lookFor 26 = .ok (.iload_n 2, 1) := by decide +kernel
theorem dX9_lookFor_27 : decode cX9_lookFor 27 = .ok (.ifCond .eq 132, 3) := by decide +kernel
theorem dX9_lookFor_30 : decode cX9_lookFor 30 = .ok (.iconst 0, 1) := by decide +kernel
theorem dX9_lookFor_31 : decode cX9_lookFor 31 = .ok (.istore 6, 2) := by decide +kernel
theorem dX9_lookFor_33 : decode cX9_lookFor 33 = .ok (.iconst 0, 1) := by decide +kernel
theorem dX9_lookFor_34 : decode cX9_lookFor 34 = .ok (.istore 7, 2) := by decide +kernel
theorem dX9_lookFor_36 : decode cX9_lookFor 36 = .ok (.iload 7, 2) := by decide +kernel
theorem dX9_lookFor_38 : decode cX9_lookFor 38 = .ok (.bipush 9, 2) := by decide +kernel
theorem dX9_lookFor_40 : decode cX9_lookFor 40 = .ok (.if_icmp .gt 83, 3) := by decide +kernel
theorem dX9_lookFor_43 : decode cX9_lookFor 43 = .ok (.iconst 0, 1) := by decide +kernel
theorem dX9_lookFor_44 : decode cX9_lookFor 44 = .ok (.istore 8, 2) := by decide +kernel
theorem dX9_lookFor_46 : decode cX9_lookFor 46 = .ok (.iconst 0, 1) := by decide +kernel
theorem dX9_lookFor_47 : decode cX9_lookFor 47 = .ok (.istore 9, 2) := by decide +kernel
theorem dX9_lookFor_49 : decode cX9_lookFor 49 = .ok (.iload 9, 2) := by decide +kernel
theorem dX9_lookFor_51 : decode cX9_lookFor 51 = .ok (.aload_n 0, 1) := by decide +kernel
theorem dX9_lookFor_52 : decode cX9_lookFor 52 = .ok (.getfield 100, 3) := by decide +kernel
theorem dX9_lookFor_55 : decode cX9_lookFor 55 = .ok (.if_icmp .gt 46, 3) := by decide +kernel
theorem dX9_lookFor_58 : decode cX9_lookFor 58 = .ok (.iload 8, 2) := by decide +kernel
theorem dX9_lookFor_60 : decode cX9_lookFor 60 = .ok (.iload_n 2, 1) := by decide +kernel
theorem dX9_lookFor_61 : decode cX9_lookFor 61 = .ok (.iload 9, 2) := by decide +kernel
theorem dX9_lookFor_63 : decode cX9_lookFor 63 = .ok (.invokestatic 127, 3) := by decide +kernel
theorem dX9_lookFor_66 : decode cX9_lookFor 66 = .ok (.ifCond .eq 25, 3) := by decide +kernel
theorem dX9_lookFor_69 : decode cX9_lookFor 69 = .ok (.aload_n 0, 1) := by decide +kernel
theorem dX9_lookFor_70 : decode cX9_lookFor 70 = .ok (.getfield 53, 3) := by decide +kernel
theorem dX9_lookFor_73 : decode cX9_lookFor 73 = .ok (.bipush 9, 2) := by decide +kernel
theorem dX9_lookFor_75 : decode cX9_lookFor 75 = .ok (.iload 9, 2) := by decide +kernel
theorem dX9_lookFor_77 : decode cX9_lookFor 77 = .ok (.imul, 1) := by decide +kernel
theorem dX9_lookFor_78 : decode cX9_lookFor 78 = .ok (.iload 5, 2) := by decide +kernel
theorem dX9_lookFor_80 : decode cX9_lookFor 80 = .ok (.iadd, 1) := by decide +kernel
theorem dX9_lookFor_81 : decode cX9_lookFor 81 = .ok (.iaload, 1) := by decide +kernel
theorem dX9_lookFor_82 : decode cX9_lookFor 82 = .ok (.iload 7, 2) := by decide +kernel
theorem dX9_lookFor_84 : decode cX9_lookFor 84 = .ok (.if_icmp .ne 7, 3) := by decide +kernel
theorem dX9_lookFor_87 : decode cX9_lookFor 87 = .ok (.iconst 1, 1) := by decide +kernel
theorem dX9_lookFor_88 : decode cX9_lookFor 88 = .ok (.goto 4, 3) := by decide +kernel
theorem dX9_lookFor_91 : decode cX9_lookFor 91 = .ok (.iconst 0, 1) := by decide +kernel
theorem dX9_lookFor_92 : decode cX9_lookFor 92 = .ok (.iadd, 1) := by decide +kernel
theorem dX9_lookFor_93 : decode cX9_lookFor 93 = .ok (.istore 8, 2) := by decide +kernel
theorem dX9_lookFor_95 : decode cX9_lookFor 95 = .ok (.iinc 9 1, 3) := by decide +kernel
theorem dX9_lookFor_98 : decode cX9_lookFor 98 = .ok (.goto (-49), 3) := by decide +kernel
theorem dX9_lookFor_101 : decode cX9_lookFor 101 = .ok (.iload 8, 2) := by decide +kernel
theorem dX9_lookFor_103 : decode cX9_lookFor 103 = .ok (.iload 6, 2) := by decide +kernel
theorem dX9_lookFor_105 : decode cX9_lookFor 105 = .ok (.if_icmp .le 8, 3) := by decide +kernel
theorem dX9_lookFor_108 : decode cX9_lookFor 108 = .ok (.iload 8, 2) := by decide +kernel
theorem dX9_lookFor_110 : decode cX9_lookFor 110 = .ok (.goto 5, 3) := by decide +kernel
theorem dX9_lookFor_113 : decode cX9_lookFor 113 = .ok (.iload 6, 2) := by decide +kernel
theorem dX9_lookFor_115 : decode cX9_lookFor 115 = .ok (.istore 6, 2) := by decide +kernel
theorem dX9_lookFor_117 : decode cX9_lookFor 117 = .ok (.iinc 7 1, 3) := by decide +kernel
theorem dX9_lookFor_120 : decode cX9_lookFor 120 = .ok (.goto (-84), 3) := by decide +kernel
theorem dX9_lookFor_123 : decode cX9_lookFor 123 = .ok (.iload 6, 2) := by decide +kernel
theorem dX9_lookFor_125 : decode cX9_lookFor 125 = .ok (.iload 4, 2) := by decide +kernel
theorem dX9_lookFor_127 : decode cX9_lookFor 127 = .ok (.if_icmp .ge 8, 3) := by decide +kernel
theorem dX9_lookFor_130 : decode cX9_lookFor 130 = .ok (.iload 5, 2) := by decide +kernel
theorem dX9_lookFor_132 : decode cX9_lookFor 132 = .ok (.goto 4, 3) := by decide +kernel
theorem dX9_lookFor_135 : decode cX9_lookFor 135 = .ok (.iload_n 3, 1) := by decide +kernel
theorem dX9_lookFor_136 : decode cX9_lookFor 136 = .ok (.istore_n 3, 1) := by decide +kernel
theorem dX9_lookFor_137 : decode cX9_lookFor 137 = .ok (.iload 6, 2) := by decide +kernel
theorem dX9_lookFor_139 : decode cX9_lookFor 139 = .ok (.iload 4, 2) := by decide +kernel
theorem dX9_lookFor_141 : decode cX9_lookFor 141 = .ok (.if_icmp .ge 8, 3) := by decide +kernel
theorem dX9_lookFor_144 : decode cX9_lookFor 144 = .ok (.iload 6, 2) := by decide +kernel
theorem dX9_lookFor_146 : decode cX9_lookFor 146 = .ok (.goto 5, 3) := by decide +kernel
theorem dX9_lookFor_149 : decode cX9_lookFor 149 = .ok (.iload 4, 2) := by decide +kernel
theorem dX9_lookFor_151 : decode cX9_lookFor 151 = .ok (.istore 4, 2) := by decide +kernel
theorem dX9_lookFor_153 : decode cX9_lookFor 153 = .ok (.iinc 5 1, 3) := by decide +kernel
theorem dX9_lookFor_156 : decode cX9_lookFor 156 = .ok (.goto (-137), 3) := by decide +kernel
theorem dX9_lookFor_159 : decode cX9_lookFor 159 = .ok (.iload_n 3, 1) := by decide +kernel
theorem dX9_lookFor_160 : decode cX9_lookFor 160 = .ok (.ireturn, 1) := by decide +kernel
theorem dX9_draw_0 : decode cX9_draw 0 = .ok (.aload_n 0, 1) := by decide +kernel
theorem dX9_draw_1 : decode cX9_draw 1 = .ok (.ldc2_w 200, 3) := by decide +kernel
theorem dX9_draw_4 : decode cX9_draw 4 = .ok (.aload_n 0, 1) := by decide +kernel
theorem dX9_draw_5 : decode cX9_draw 5 = .ok (.getfield 202, 3) := by decide +kernel
theorem dX9_draw_8 : decode cX9_draw 8 = .ok (.lmul, 1) := by decide +kernel
theorem dX9_draw_9 : decode cX9_draw 9 = .ok (.ldc2_w 206, 3) := by decide +kernel
theorem dX9_draw_12 : decode cX9_draw 12 = .ok (.ladd, 1) := by decide +kernel
theorem dX9_draw_13 : decode cX9_draw 13 = .ok (.ldc2_w 208, 3) := by decide +kernel
theorem dX9_draw_16 : decode cX9_draw 16 = .ok (.land, 1) := by decide +kernel
theorem dX9_draw_17 : decode cX9_draw 17 = .ok (.putfield 202, 3) := by decide +kernel
theorem dX9_draw_20 : decode cX9_draw 20 = .ok (.aload_n 0, 1) := by decide +kernel
theorem dX9_draw_21 : decode cX9_draw 21 = .ok (.getfield 202, 3) := by decide +kernel
theorem dX9_draw_24 : decode cX9_draw 24 = .ok (.ldc2_w 210, 3) := by decide +kernel
theorem dX9_draw_27 : decode cX9_draw 27 = .ok (.ldiv, 1) := by decide +kernel
theorem dX9_draw_28 : decode cX9_draw 28 = .ok (.iload_n 1, 1) := by decide +kernel
theorem dX9_draw_29 : decode cX9_draw 29 = .ok (.i2l, 1) := by decide +kernel
theorem dX9_draw_30 : decode cX9_draw 30 = .ok (.lrem, 1) := by decide +kernel
theorem dX9_draw_31 : decode cX9_draw 31 = .ok (.l2i, 1) := by decide +kernel
theorem dX9_draw_32 : decode cX9_draw 32 = .ok (.ireturn, 1) := by decide +kernel
set_option maxRecDepth 20000 in
theorem ggX9_monthsNow_X9_save : GoodIn wsX9_monthsNow wsX9_save := goodIn_r _ [12, 13, 5, 60, 61, 62, 63, 64, 65, 66, 67, 68, 69, 70, 71, 72, 73, 74, 75, 76, 77, 78, 79, 80, 81, 82, 83, 84, 85, 86, 87, 88, 89, 90, 91, 92, 93, 94, 95, 96, 97, 98, 99, 100] (by decide +kernel) (by decide +kernel)
set_option maxRecDepth 20000 in
theorem gX9_monthsNow_X9_save : GoodIn wsX9_monthsNow (wsV RX9 177 RX9 yX9_save wsX9_save) := goodIn_app (goodIn_of _ (by decide +kernel)) ggX9_monthsNow_X9_save
set_option maxRecDepth 20000 in
theorem ggX9_monthsNow_X9_draw : GoodIn wsX9_monthsNow wsX9_draw := goodIn_r _ [17, 18, 1, 19, 20, 21, 60, 61, 62, 63, 64, 65, 66, 67, 68, 69, 70, 71, 72, 73, 74, 75, 76, 77, 78, 79, 80, 81, 82, 83, 84, 85, 86, 87, 88, 89, 90, 91, 92, 93, 94, 95, 96, 97, 98, 99, 100] (by decide +kernel) (by decide +kernel)
set_option maxRecDepth 20000 in
theorem gX9_monthsNow_X9_draw : GoodIn wsX9_monthsNow (wsV RX9 212 RX9 yX9_draw wsX9_draw) := goodIn_app (goodIn_of _ (by decide +kernel)) ggX9_monthsNow_X9_draw
set_option maxRecDepth 20000 in
theorem ggX9_monthsNow_X9_passDay : GoodIn wsX9_monthsNow wsX9_passDay := goodIn_r _ [25, 6, 7, 26, 27, 28, 29, 30, 31, 32, 11, 33, 5, 34, 35, 36, 37, 38, 39, 40, 41, 42, 43, 44, 45, 46, 47, 60, 61, 62, 63, 64, 65, 66, 67, 68, 69, 70, 71, 72, 73, 74, 75, 76, 77, 78, 79, 80, 81, 82, 83, 84, 85, 86, 87, 88, 89, 90, 91, 92, 93, 94, 95, 96, 97, 98, 99, 100] (by decide +kernel) (by decide +kernel)
set_option maxRecDepth 20000 in
theorem gX9_monthsNow_X9_passDay : GoodIn wsX9_monthsNow (wsV RX9 141 RX9 yX9_passDay wsX9_passDay) := goodIn_app (goodIn_of _ (by decide +kernel)) ggX9_monthsNow_X9_passDay
set_option maxRecDepth 20000 in
theorem ggX9_monthsNow_X9_gainAll : GoodIn wsX9_monthsNow wsX9_gainAll := goodIn_r _ [51, 4, 27, 60, 61, 62, 63, 64, 65, 66, 67, 68, 69, 70, 71, 72, 73, 74, 75, 76, 77, 78, 79, 80, 81, 82, 83, 84, 85, 86, 87, 88, 89, 90, 91, 92, 93, 94, 95, 96, 97, 98, 99, 100] (by decide +kernel) (by decide +kernel)
set_option maxRecDepth 20000 in
theorem gX9_monthsNow_X9_gainAll : GoodIn wsX9_monthsNow (wsV RX9 174 RX9 yX9_gainAll wsX9_gainAll) := goodIn_app (goodIn_of _ (by decide +kernel)) ggX9_monthsNow_X9_gainAll
set_option maxRecDepth 20000 in
theorem ggX9_monthsNow_X9_fallAll : GoodIn wsX9_monthsNow wsX9_fallAll := goodIn_r _ [55, 4, 28, 60, 61, 62, 63, 64, 65, 66, 67, 68, 69, 70, 71, 72, 73, 74, 75, 76, 77, 78, 79, 80, 81, 82, 83, 84, 85, 86, 87, 88, 89, 90, 91, 92, 93, 94, 95, 96, 97, 98, 99, 100] (by decide +kernel) (by decide +kernel)
set_option maxRecDepth 20000 in
theorem gX9_monthsNow_X9_fallAll : GoodIn wsX9_monthsNow (wsV RX9 215 RX9 yX9_fallAll wsX9_fallAll) := goodIn_app (goodIn_of _ (by decide +kernel)) ggX9_monthsNow_X9_fallAll
set_option maxRecDepth 20000 in
theorem ggX9_monthsNow_X9_load : GoodIn wsX9_monthsNow wsX9_load := goodIn_r _ [59, 5, 13, 60, 61, 62, 63, 64, 65, 66, 67, 68, 69, 70, 71, 72, 73, 74, 75, 76, 77, 78, 79, 80, 81, 82, 83, 84, 85, 86, 87, 88, 89, 90, 91, 92, 93, 94, 95, 96, 97, 98, 99, 100] (by decide +kernel) (by decide +kernel)
set_option maxRecDepth 20000 in
theorem gX9_monthsNow_X9_load : GoodIn wsX9_monthsNow (wsV RX9 180 RX9 yX9_load wsX9_load) := goodIn_app (goodIn_of _ (by decide +kernel)) ggX9_monthsNow_X9_load
theorem dX9_monthsNow_0 : decode cX9_monthsNow 0 = .ok (.aload_n 0, 1) := by decide +kernel
theorem dX9_monthsNow_1 : decode cX9_monthsNow 1 = .ok (.invokevirtual 177, 3) := by decide +kernel
theorem dX9_monthsNow_4 : decode cX9_monthsNow 4 = .ok (.aload_n 0, 1) := by decide +kernel
theorem dX9_monthsNow_5 : decode cX9_monthsNow 5 = .ok (.iload_n 2, 1) := by decide +kernel
theorem dX9_monthsNow_6 : decode cX9_monthsNow 6 = .ok (.i2l, 1) := by decide +kernel
theorem dX9_monthsNow_7 : decode cX9_monthsNow 7 = .ok (.putfield 202, 3) := by decide +kernel
theorem dX9_monthsNow_10 : decode cX9_monthsNow 10 = .ok (.iconst 0, 1) := by decide +kernel
theorem dX9_monthsNow_11 : decode cX9_monthsNow 11 = .ok (.istore 4, 2) := by decide +kernel
theorem dX9_monthsNow_13 : decode cX9_monthsNow 13 = .ok (.iconst 0, 1) := by decide +kernel
theorem dX9_monthsNow_14 : decode cX9_monthsNow 14 = .ok (.istore 5, 2) := by decide +kernel
theorem dX9_monthsNow_16 : decode cX9_monthsNow 16 = .ok (.aload_n 0, 1) := by decide +kernel
theorem dX9_monthsNow_17 : decode cX9_monthsNow 17 = .ok (.getfield 103, 3) := by decide +kernel
theorem dX9_monthsNow_20 : decode cX9_monthsNow 20 = .ok (.istore 6, 2) := by decide +kernel
theorem dX9_monthsNow_22 : decode cX9_monthsNow 22 = .ok (.aload_n 0, 1) := by decide +kernel
theorem dX9_monthsNow_23 : decode cX9_monthsNow 23 = .ok (.getfield 109, 3) := by decide +kernel
theorem dX9_monthsNow_26 : decode cX9_monthsNow 26 = .ok (.istore 7, 2) := by decide +kernel
theorem dX9_monthsNow_28 : decode cX9_monthsNow 28 = .ok (.iconst 0, 1) := by decide +kernel
theorem dX9_monthsNow_29 : decode cX9_monthsNow 29 = .ok (.istore 8, 2) := by decide +kernel
theorem dX9_monthsNow_31 : decode cX9_monthsNow 31 = .ok (.iload 8, 2) := by decide +kernel
theorem dX9_monthsNow_33 : decode cX9_monthsNow 33 = .ok (.iload_n 1, 1) := by decide +kernel
theorem dX9_monthsNow_34 : decode cX9_monthsNow 34 = .ok (.if_icmp .ge 97, 3) := by decide +kernel
theorem dX9_monthsNow_37 : decode cX9_monthsNow 37 = .ok (.iconst 0, 1) := by decide +kernel
theorem dX9_monthsNow_38 : decode cX9_monthsNow 38 = .ok (.istore 9, 2) := by decide +kernel
theorem dX9_monthsNow_40 : decode cX9_monthsNow 40 = .ok (.iload 9, 2) := by decide +kernel
theorem dX9_monthsNow_42 : decode cX9_monthsNow 42 = .ok (.bipush 8, 2) := by decide +kernel
theorem dX9_monthsNow_44 : decode cX9_monthsNow 44 = .ok (.if_icmp .ge 43, 3) := by decide +kernel
theorem dX9_monthsNow_47 : decode cX9_monthsNow 47 = .ok (.aload_n 0, 1) := by decide +kernel
theorem dX9_monthsNow_48 : decode cX9_monthsNow 48 = .ok (.aload_n 0, 1) := by decide +kernel
theorem dX9_monthsNow_49 : decode cX9_monthsNow 49 = .ok (.getfield 100, 3) := by decide +kernel
theorem dX9_monthsNow_52 : decode cX9_monthsNow 52 = .ok (.iconst 1, 1) := by decide +kernel
theorem dX9_monthsNow_53 : decode cX9_monthsNow 53 = .ok (.iadd, 1) := by decide +kernel
theorem dX9_monthsNow_54 : decode cX9_monthsNow 54 = .ok (.invokevirtual 212, 3) := by decide +kernel
theorem dX9_monthsNow_57 : decode cX9_monthsNow 57 = .ok (.istore 10, 2) := by decide +kernel
theorem dX9_monthsNow_59 : decode cX9_monthsNow 59 = .ok (.aload_n 0, 1) := by decide +kernel
theorem dX9_monthsNow_60 : decode cX9_monthsNow 60 = .ok (.getfield 25, 3) := by decide +kernel
theorem dX9_monthsNow_63 : decode cX9_monthsNow 63 = .ok (.iload 9, 2) := by decide +kernel
theorem dX9_monthsNow_65 : decode cX9_monthsNow 65 = .ok (.iload 10, 2) := by decide +kernel
theorem dX9_monthsNow_67 : decode cX9_monthsNow 67 = .ok (.aload_n 0, 1) := by decide +kernel
theorem dX9_monthsNow_68 : decode cX9_monthsNow 68 = .ok (.getfield 100, 3) := by decide +kernel
theorem dX9_monthsNow_71 : decode cX9_monthsNow 71 = .ok (.if_icmp .ne 7, 3) := by decide +kernel
theorem dX9_monthsNow_74 : decode cX9_monthsNow 74 = .ok (.iconst (-1), 1) := by decide +kernel
theorem dX9_monthsNow_75 : decode cX9_monthsNow 75 = .ok (.goto 5, 3) := by decide +kernel
