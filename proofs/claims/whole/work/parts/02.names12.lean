theorem dX9_gainAll_17 : decode cX9_gainAll 17 = .ok (.iload_n 2, 1) := by decide +kernel
theorem dX9_gainAll_18 : decode cX9_gainAll 18 = .ok (.iaload, 1) := by decide +kernel
theorem dX9_gainAll_19 : decode cX9_gainAll 19 = .ok (.iadd, 1) := by decide +kernel
theorem dX9_gainAll_20 : decode cX9_gainAll 20 = .ok (.istore_n 1, 1) := by decide +kernel
theorem dX9_gainAll_21 : decode cX9_gainAll 21 = .ok (.iinc 2 1, 3) := by decide +kernel
theorem dX9_gainAll_24 : decode cX9_gainAll 24 = .ok (.goto (-20), 3) := by decide +kernel
theorem dX9_gainAll_27 : decode cX9_gainAll 27 = .ok (.iload_n 1, 1) := by decide +kernel
theorem dX9_gainAll_28 : decode cX9_gainAll 28 = .ok (.ireturn, 1) := by decide +kernel
theorem dX9_fallAll_0 : decode cX9_fallAll 0 = .ok (.iconst 0, 1) := by decide +kernel
theorem dX9_fallAll_1 : decode cX9_fallAll 1 = .ok (.istore_n 1, 1) := by decide +kernel
theorem dX9_fallAll_2 : decode cX9_fallAll 2 = .ok (.iconst 0, 1) := by decide +kernel
theorem dX9_fallAll_3 : decode cX9_fallAll 3 = .ok (.istore_n 2, 1) := by decide +kernel
theorem dX9_fallAll_4 : decode cX9_fallAll 4 = .ok (.iload_n 2, 1) := by decide +kernel
theorem dX9_fallAll_5 : decode cX9_fallAll 5 = .ok (.aload_n 0, 1) := by decide +kernel
theorem dX9_fallAll_6 : decode cX9_fallAll 6 = .ok (.getfield 100, 3) := by decide +kernel
theorem dX9_fallAll_9 : decode cX9_fallAll 9 = .ok (.if_icmp .ge 18, 3) := by decide +kernel
theorem dX9_fallAll_12 : decode cX9_fallAll 12 = .ok (.iload_n 1, 1) := by decide +kernel
theorem dX9_fallAll_13 : decode cX9_fallAll 13 = .ok (.aload_n 0, 1) := by decide +kernel
theorem dX9_fallAll_14 : decode cX9_fallAll 14 = .ok (.getfield 47, 3) := by decide +kernel
theorem dX9_fallAll_17 : decode cX9_fallAll 17 = .ok (.iload_n 2, 1) := by decide +kernel
theorem dX9_fallAll_18 : decode cX9_fallAll 18 = .ok (.iaload, 1) := by decide +kernel
theorem dX9_fallAll_19 : decode cX9_fallAll 19 = .ok (.iadd, 1) := by decide +kernel
theorem dX9_fallAll_20 : decode cX9_fallAll 20 = .ok (.istore_n 1, 1) := by decide +kernel
theorem dX9_fallAll_21 : decode cX9_fallAll 21 = .ok (.iinc 2 1, 3) := by decide +kernel
theorem dX9_fallAll_24 : decode cX9_fallAll 24 = .ok (.goto (-20), 3) := by decide +kernel
theorem dX9_fallAll_27 : decode cX9_fallAll 27 = .ok (.iload_n 1, 1) := by decide +kernel
theorem dX9_fallAll_28 : decode cX9_fallAll 28 = .ok (.ireturn, 1) := by decide +kernel
theorem dX9_shiftsOf_0 : decode cX9_shiftsOf 0 = .ok (.iconst 0, 1) := by decide +kernel
theorem dX9_shiftsOf_1 : decode cX9_shiftsOf 1 = .ok (.istore_n 2, 1) := by decide +kernel
theorem dX9_shiftsOf_2 : decode cX9_shiftsOf 2 = .ok (.iconst 0, 1) := by decide +kernel
theorem dX9_shiftsOf_3 : decode cX9_shiftsOf 3 = .ok (.istore_n 3, 1) := by decide +kernel
theorem dX9_shiftsOf_4 : decode cX9_shiftsOf 4 = .ok (.iload_n 3, 1) := by decide +kernel
theorem dX9_shiftsOf_5 : decode cX9_shiftsOf 5 = .ok (.bipush 8, 2) := by decide +kernel
theorem dX9_shiftsOf_7 : decode cX9_shiftsOf 7 = .ok (.if_icmp .ge 29, 3) := by decide +kernel
theorem dX9_shiftsOf_10 : decode cX9_shiftsOf 10 = .ok (.iload_n 2, 1) := by decide +kernel
theorem dX9_shiftsOf_11 : decode cX9_shiftsOf 11 = .ok (.aload_n 0, 1) := by decide +kernel
theorem dX9_shiftsOf_12 : decode cX9_shiftsOf 12 = .ok (.getfield 25, 3) := by decide +kernel
theorem dX9_shiftsOf_15 : decode cX9_shiftsOf 15 = .ok (.iload_n 3, 1) := by decide +kernel
theorem dX9_shiftsOf_16 : decode cX9_shiftsOf 16 = .ok (.iaload, 1) := by decide +kernel
theorem dX9_shiftsOf_17 : decode cX9_shiftsOf 17 = .ok (.iload_n 1, 1) := by decide +kernel
theorem dX9_shiftsOf_18 : decode cX9_shiftsOf 18 = .ok (.if_icmp .ne 9, 3) := by decide +kernel
theorem dX9_shiftsOf_21 : decode cX9_shiftsOf 21 = .ok (.iconst 1, 1) := by decide +kernel
theorem dX9_shiftsOf_22 : decode cX9_shiftsOf 22 = .ok (.iload_n 3, 1) := by decide +kernel
theorem dX9_shiftsOf_23 : decode cX9_shiftsOf 23 = .ok (.ishl, 1) := by decide +kernel
theorem dX9_shiftsOf_24 : decode cX9_shiftsOf 24 = .ok (.goto 4, 3) := by decide +kernel
theorem dX9_shiftsOf_27 : decode cX9_shiftsOf 27 = .ok (.iconst 0, 1) := by decide +kernel
theorem dX9_shiftsOf_28 : decode cX9_shiftsOf 28 = .ok (.ior, 1) := by decide +kernel
theorem dX9_shiftsOf_29 : decode cX9_shiftsOf 29 = .ok (.istore_n 2, 1) := by decide +kernel
theorem dX9_shiftsOf_30 : decode cX9_shiftsOf 30 = .ok (.iinc 3 1, 3) := by decide +kernel
theorem dX9_shiftsOf_33 : decode cX9_shiftsOf 33 = .ok (.goto (-29), 3) := by decide +kernel
theorem dX9_shiftsOf_36 : decode cX9_shiftsOf 36 = .ok (.iload_n 2, 1) := by decide +kernel
theorem dX9_shiftsOf_37 : decode cX9_shiftsOf 37 = .ok (.ireturn, 1) := by decide +kernel
set_option maxRecDepth 20000 in
theorem ggX9_gainThen_X9_thinkDay : GoodIn wsX9_gainThen wsX9_thinkDay := goodIn_r _ [6, 7, 8, 9, 10, 11, 5, 12, 13, 14, 15, 1, 16, 17, 18, 19, 20, 21, 22, 23, 24, 25, 26, 27, 28, 29, 30, 31, 32, 33, 34, 35, 36, 37, 38, 39, 40, 41, 42, 43, 44, 45, 46, 47, 48, 49, 50, 51, 52, 53, 54, 55, 56, 57, 58, 59, 60, 61, 62, 63, 64, 65, 66, 67, 68, 69, 70, 71, 72, 73, 74, 75, 76, 77] (by decide +kernel) (by decide +kernel)
set_option maxRecDepth 20000 in
theorem gX9_gainThen_X9_thinkDay : GoodIn wsX9_gainThen (wsV RX9 145 RX9 yX9_thinkDay wsX9_thinkDay) := goodIn_app (goodIn_of _ (by decide +kernel)) ggX9_gainThen_X9_thinkDay
theorem dX9_gainThen_0 : decode cX9_gainThen 0 = .ok (.aload_n 0, 1) := by decide +kernel
theorem dX9_gainThen_1 : decode cX9_gainThen 1 = .ok (.invokevirtual 145, 3) := by decide +kernel
theorem dX9_gainThen_4 : decode cX9_gainThen 4 = .ok (.aload_n 0, 1) := by decide +kernel
theorem dX9_gainThen_5 : decode cX9_gainThen 5 = .ok (.getfield 44, 3) := by decide +kernel
theorem dX9_gainThen_8 : decode cX9_gainThen 8 = .ok (.iload_n 1, 1) := by decide +kernel
theorem dX9_gainThen_9 : decode cX9_gainThen 9 = .ok (.iaload, 1) := by decide +kernel
theorem dX9_gainThen_10 : decode cX9_gainThen 10 = .ok (.ireturn, 1) := by decide +kernel
set_option maxRecDepth 20000 in
theorem ggX9_fatherNow_X9_shiftsOf : GoodIn wsX9_fatherNow wsX9_shiftsOf := goodIn_r _ [11, 12, 47, 48, 49, 50, 51, 52, 53, 54, 55, 56, 57, 58, 59, 60, 61, 62, 63, 64, 65, 66, 67, 68, 69, 70, 71, 72, 73, 74, 75, 76, 77, 78, 79, 80, 81, 82, 83, 84, 85, 86, 87] (by decide +kernel) (by decide +kernel)
set_option maxRecDepth 20000 in
theorem gX9_fatherNow_X9_shiftsOf : GoodIn wsX9_fatherNow (wsV RX9 148 RX9 yX9_shiftsOf wsX9_shiftsOf) := goodIn_app (goodIn_of _ (by decide +kernel)) ggX9_fatherNow_X9_shiftsOf
set_option maxRecDepth 20000 in
theorem ggX9_fatherNow_X9_gainThen : GoodIn wsX9_fatherNow wsX9_gainThen := goodIn_r _ [16, 17, 18, 19, 20, 10, 21, 22, 6, 23, 24, 25, 26, 27, 28, 29, 30, 31, 32, 33, 34, 35, 12, 36, 2, 1, 37, 38, 39, 40, 41, 42, 43, 44, 45, 46, 3, 47, 48, 49, 50, 51, 52, 53, 54, 55, 56, 57, 58, 59, 60, 61, 62, 63, 64, 65, 66, 67, 68, 69, 70, 71, 72, 73, 74, 75, 76, 77, 78, 79, 80, 81, 82, 83, 84, 85, 86, 87] (by decide +kernel) (by decide +kernel)
set_option maxRecDepth 20000 in
theorem gX9_fatherNow_X9_gainThen : GoodIn wsX9_fatherNow (wsV RX9 151 RX9 yX9_gainThen wsX9_gainThen) := goodIn_app (goodIn_of _ (by decide +kernel)) ggX9_fatherNow_X9_gainThen
theorem dX9_fatherNow_0 : decode cX9_fatherNow 0 = .ok (.iload_n 2, 1) := by decide +kernel
theorem dX9_fatherNow_1 : decode cX9_fatherNow 1 = .ok (.tableswitch 98 0 6 #[43, 50, 57, 64, 71, 78, 84], 43) := by decide +kernel
theorem dX9_fatherNow_44 : decode cX9_fatherNow 44 = .ok (.aload_n 0, 1) := by decide +kernel
theorem dX9_fatherNow_45 : decode cX9_fatherNow 45 = .ok (.getfield 7, 3) := by decide +kernel
theorem dX9_fatherNow_48 : decode cX9_fatherNow 48 = .ok (.iload_n 1, 1) := by decide +kernel
theorem dX9_fatherNow_49 : decode cX9_fatherNow 49 = .ok (.iaload, 1) := by decide +kernel
theorem dX9_fatherNow_50 : decode cX9_fatherNow 50 = .ok (.ireturn, 1) := by decide +kernel
theorem dX9_fatherNow_51 : decode cX9_fatherNow 51 = .ok (.aload_n 0, 1) := by decide +kernel
theorem dX9_fatherNow_52 : decode cX9_fatherNow 52 = .ok (.getfield 13, 3) := by decide +kernel
theorem dX9_fatherNow_55 : decode cX9_fatherNow 55 = .ok (.iload_n 1, 1) := by decide +kernel
theorem dX9_fatherNow_56 : decode cX9_fatherNow 56 = .ok (.iaload, 1) := by decide +kernel
theorem dX9_fatherNow_57 : decode cX9_fatherNow 57 = .ok (.ireturn, 1) := by decide +kernel
theorem dX9_fatherNow_58 : decode cX9_fatherNow 58 = .ok (.aload_n 0, 1) := by decide +kernel
theorem dX9_fatherNow_59 : decode cX9_fatherNow 59 = .ok (.getfield 16, 3) := by decide +kernel
theorem dX9_fatherNow_62 : decode cX9_fatherNow 62 = .ok (.iload_n 1, 1) := by decide +kernel
theorem dX9_fatherNow_63 : decode cX9_fatherNow 63 = .ok (.iaload, 1) := by decide +kernel
theorem dX9_fatherNow_64 : decode cX9_fatherNow 64 = .ok (.ireturn, 1) := by decide +kernel
theorem dX9_fatherNow_65 : decode cX9_fatherNow 65 = .ok (.aload_n 0, 1) := by decide +kernel
theorem dX9_fatherNow_66 : decode cX9_fatherNow 66 = .ok (.getfield 19, 3) := by decide +kernel
theorem dX9_fatherNow_69 : decode cX9_fatherNow 69 = .ok (.iload_n 1, 1) := by decide +kernel
theorem dX9_fatherNow_70 : decode cX9_fatherNow 70 = .ok (.iaload, 1) := by decide +kernel
theorem dX9_fatherNow_71 : decode cX9_fatherNow 71 = .ok (.ireturn, 1) := by decide +kernel
theorem dX9_fatherNow_72 : decode cX9_fatherNow 72 = .ok (.aload_n 0, 1) := by decide +kernel
theorem dX9_fatherNow_73 : decode cX9_fatherNow 73 = .ok (.getfield 22, 3) := by decide +kernel
theorem dX9_fatherNow_76 : decode cX9_fatherNow 76 = .ok (.iload_n 1, 1) := by decide +kernel
theorem dX9_fatherNow_77 : decode cX9_fatherNow 77 = .ok (.iaload, 1) := by decide +kernel
theorem dX9_fatherNow_78 : decode cX9_fatherNow 78 = .ok (.ireturn, 1) := by decide +kernel
theorem dX9_fatherNow_79 : decode cX9_fatherNow 79 = .ok (.aload_n 0, 1) := by decide +kernel
theorem dX9_fatherNow_80 : decode cX9_fatherNow 80 = .ok (.iload_n 1, 1) := by decide +kernel
theorem dX9_fatherNow_81 : decode cX9_fatherNow 81 = .ok (.invokevirtual 148, 3) := by decide +kernel
theorem dX9_fatherNow_84 : decode cX9_fatherNow 84 = .ok (.ireturn, 1) := by decide +kernel
theorem dX9_fatherNow_85 : decode cX9_fatherNow 85 = .ok (.aload_n 0, 1) := by decide +kernel
theorem dX9_fatherNow_86 : decode cX9_fatherNow 86 = .ok (.getfield 109, 3) := by decide +kernel
theorem dX9_fatherNow_89 : decode cX9_fatherNow 89 = .ok (.aload_n 0, 1) := by decide +kernel
theorem dX9_fatherNow_90 : decode cX9_fatherNow 90 = .ok (.getfield 13, 3) := by decide +kernel
theorem dX9_fatherNow_93 : decode cX9_fatherNow 93 = .ok (.iload_n 1, 1) := by decide +kernel
theorem dX9_fatherNow_94 : decode cX9_fatherNow 94 = .ok (.iaload, 1) := by decide +kernel
theorem dX9_fatherNow_95 : decode cX9_fatherNow 95 = .ok (.ishr, 1) := by decide +kernel
theorem dX9_fatherNow_96 : decode cX9_fatherNow 96 = .ok (.iconst 1, 1) := by decide +kernel
theorem dX9_fatherNow_97 : decode cX9_fatherNow 97 = .ok (.iand, 1) := by decide +kernel
theorem dX9_fatherNow_98 : decode cX9_fatherNow 98 = .ok (.ireturn, 1) := by decide +kernel
theorem dX9_fatherNow_99 : decode cX9_fatherNow 99 = .ok (.aload_n 0, 1) := by decide +kernel
theorem dX9_fatherNow_100 : decode cX9_fatherNow 100 = .ok (.iload_n 1, 1) := by decide +kernel
theorem dX9_fatherNow_101 : decode cX9_fatherNow 101 = .ok (.invokevirtual 151, 3) := by decide +kernel
theorem dX9_fatherNow_104 : decode cX9_fatherNow 104 = .ok (.ireturn, 1) := by decide +kernel
set_option maxRecDepth 20000 in
theorem ggX9_about_X9_isFather : GoodIn wsX9_about wsX9_isFather := goodIn_r _ [5, 6, 7, 8, 4, 9, 59, 60, 61, 62, 63, 64, 65, 66, 67, 68, 69, 70, 71, 72, 73, 74, 75, 76, 77, 78, 79, 80, 81, 82, 83, 84, 85, 86, 87, 88, 89, 90, 91, 92, 93, 94, 95, 96, 97, 98, 99] (by decide +kernel) (by decide +kernel)
set_option maxRecDepth 20000 in
theorem gX9_about_X9_isFather : GoodIn wsX9_about (wsV RX9 154 RX9 yX9_isFather wsX9_isFather) := goodIn_app (goodIn_of _ (by decide +kernel)) ggX9_about_X9_isFather
set_option maxRecDepth 20000 in
theorem ggX9_about_X9_within : GoodIn wsX9_about wsX9_within := goodIn_r _ [9] (by decide +kernel) (by decide +kernel)
set_option maxRecDepth 20000 in
theorem gX9_about_X9_within : GoodIn wsX9_about (va_wsS RX9 71 yX9_within wsX9_within) := goodIn_app (goodIn_of _ (by decide +kernel)) ggX9_about_X9_within
set_option maxRecDepth 20000 in
theorem ggX9_about_X9_fatherNow : GoodIn wsX9_about wsX9_fatherNow := goodIn_r _ [13, 14, 15, 16, 17, 18, 19, 20, 21, 22, 4, 23, 24, 25, 26, 27, 28, 29, 30, 31, 32, 33, 34, 35, 36, 37, 38, 39, 40, 41, 42, 43, 44, 45, 46, 47, 48, 49, 50, 51, 52, 53, 54, 55, 56, 57, 58, 59, 60, 61, 62, 63, 64, 65, 66, 67, 68, 69, 70, 71, 72, 73, 74, 75, 76, 77, 78, 79, 80, 81, 82, 83, 84, 85, 86, 87, 88, 89, 90, 91, 92, 93, 94, 95, 96, 97, 98, 99] (by decide +kernel) (by decide +kernel)
set_option maxRecDepth 20000 in
theorem gX9_about_X9_fatherNow : GoodIn wsX9_about (wsV RX9 158 RX9 yX9_fatherNow wsX9_fatherNow) := goodIn_app (goodIn_of _ (by decide +kernel)) ggX9_about_X9_fatherNow
theorem dX9_about_0 : decode cX9_about 0 = .ok (.aload_n 0, 1) := by decide +kernel
theorem dX9_about_1 : decode cX9_about 1 = .ok (.iload_n 1, 1) := by decide +kernel
theorem dX9_about_2 : decode cX9_about 2 = .ok (.invokevirtual 154, 3) := by decide +kernel
theorem dX9_about_5 : decode cX9_about 5 = .ok (.ifCond .ne 8, 3) := by decide +kernel
theorem dX9_about_8 : decode cX9_about 8 = .ok (.bipush (-101), 2) := by decide +kernel
theorem dX9_about_10 : decode cX9_about 10 = .ok (.goto 24, 3) := by decide +kernel
theorem dX9_about_13 : decode cX9_about 13 = .ok (.iload_n 2, 1) := by decide +kernel
theorem dX9_about_14 : decode cX9_about 14 = .ok (.iconst 0, 1) := by decide +kernel
theorem dX9_about_15 : decode cX9_about 15 = .ok (.bipush 7, 2) := by decide +kernel
theorem dX9_about_17 : decode cX9_about 17 = .ok (.invokestatic 71, 3) := by decide +kernel
theorem dX9_about_20 : decode cX9_about 20 = .ok (.ifCond .eq 12, 3) := by decide +kernel
theorem dX9_about_23 : decode cX9_about 23 = .ok (.aload_n 0, 1) := by decide +kernel
theorem dX9_about_24 : decode cX9_about 24 = .ok (.iload_n 1, 1) := by decide +kernel
theorem dX9_about_25 : decode cX9_about 25 = .ok (.iload_n 2, 1) := by decide +kernel
theorem dX9_about_26 : decode cX9_about 26 = .ok (.invokevirtual 158, 3) := by decide +kernel
theorem dX9_about_29 : decode cX9_about 29 = .ok (.goto 5, 3) := by decide +kernel
theorem dX9_about_32 : decode cX9_about 32 = .ok (.bipush (-102), 2) := by decide +kernel
theorem dX9_about_34 : decode cX9_about 34 = .ok (.ireturn, 1) := by decide +kernel
set_option maxRecDepth 20000 in
theorem ggX9_as_X9_isFather : GoodIn wsX9_as wsX9_isFather := goodIn_r _ [6, 7, 8, 9, 5, 10, 11, 12, 13, 14, 15, 16, 17, 18, 19, 20, 21, 22, 23, 24, 25, 26, 27, 28, 29, 30, 31, 32, 33, 34, 35, 36, 37, 38, 39, 40, 41, 42, 43, 44, 45, 46, 47, 48, 49, 50, 51] (by decide +kernel) (by decide +kernel)
set_option maxRecDepth 20000 in
theorem gX9_as_X9_isFather : GoodIn wsX9_as (wsV RX9 154 RX9 yX9_isFather wsX9_isFather) := goodIn_app (goodIn_of _ (by decide +kernel)) ggX9_as_X9_isFather
set_option maxRecDepth 20000 in
theorem ggX9_as_X9_within : GoodIn wsX9_as wsX9_within := goodIn_r _ [10] (by decide +kernel) (by decide +kernel)
set_option maxRecDepth 20000 in
theorem gX9_as_X9_within : GoodIn wsX9_as (va_wsS RX9 71 yX9_within wsX9_within) := goodIn_app (goodIn_of _ (by decide +kernel)) ggX9_as_X9_within
theorem dX9_as_0 : decode cX9_as 0 = .ok (.aload_n 0, 1) := by decide +kernel
theorem dX9_as_1 : decode cX9_as 1 = .ok (.iload_n 1, 1) := by decide +kernel
theorem dX9_as_2 : decode cX9_as 2 = .ok (.invokevirtual 154, 3) := by decide +kernel
theorem dX9_as_5 : decode cX9_as 5 = .ok (.ifCond .ne 6, 3) := by decide +kernel
theorem dX9_as_8 : decode cX9_as 8 = .ok (.bipush (-101), 2) := by decide +kernel
theorem dX9_as_10 : decode cX9_as 10 = .ok (.ireturn, 1) := by decide +kernel
theorem dX9_as_11 : decode cX9_as 11 = .ok (.iload_n 2, 1) := by decide +kernel
theorem dX9_as_12 : decode cX9_as 12 = .ok (.iconst 0, 1) := by decide +kernel
theorem dX9_as_13 : decode cX9_as 13 = .ok (.iconst 4, 1) := by decide +kernel
theorem dX9_as_14 : decode cX9_as 14 = .ok (.invokestatic 71, 3) := by decide +kernel
theorem dX9_as_17 : decode cX9_as 17 = .ok (.ifCond .ne 6, 3) := by decide +kernel
theorem dX9_as_20 : decode cX9_as 20 = .ok (.bipush (-102), 2) := by decide +kernel
theorem dX9_as_22 : decode cX9_as 22 = .ok (.ireturn, 1) := by decide +kernel
theorem dX9_as_23 : decode cX9_as 23 = .ok (.aload_n 0, 1) := by decide +kernel
theorem dX9_as_24 : decode cX9_as 24 = .ok (.getfield 7, 3) := by decide +kernel
theorem dX9_as_27 : decode cX9_as 27 = .ok (.iload_n 1, 1) := by decide +kernel
theorem dX9_as_28 : decode cX9_as 28 = .ok (.iaload, 1) := by decide +kernel
theorem dX9_as_29 : decode cX9_as 29 = .ok (.istore_n 3, 1) := by decide +kernel
theorem dX9_as_30 : decode cX9_as 30 = .ok (.iload_n 2, 1) := by decide +kernel
theorem dX9_as_31 : decode cX9_as 31 = .ok (.ifCond .eq 18, 3) := by decide +kernel
theorem dX9_as_34 : decode cX9_as 34 = .ok (.iload_n 3, 1) := by decide +kernel
theorem dX9_as_35 : decode cX9_as 35 = .ok (.iload_n 2, 1) := by decide +kernel
theorem dX9_as_36 : decode cX9_as 36 = .ok (.if_icmp .eq 13, 3) := by decide +kernel
theorem dX9_as_39 : decode cX9_as 39 = .ok (.iload_n 2, 1) := by decide +kernel
theorem dX9_as_40 : decode cX9_as 40 = .ok (.iconst 1, 1) := by decide +kernel
theorem dX9_as_41 : decode cX9_as 41 = .ok (.if_icmp .ne 12, 3) := by decide +kernel
theorem dX9_as_44 : decode cX9_as 44 = .ok (.iload_n 3, 1) := by decide +kernel
theorem dX9_as_45 : decode cX9_as 45 = .ok (.iconst 4, 1) := by decide +kernel
theorem dX9_as_46 : decode cX9_as 46 = .ok (.if_icmp .ne 7, 3) := by decide +kernel
theorem dX9_as_49 : decode cX9_as 49 = .ok (.iload_n 1, 1) := by decide +kernel
theorem dX9_as_50 : decode cX9_as 50 = .ok (.goto 4, 3) := by decide +kernel
theorem dX9_as_53 : decode cX9_as 53 = .ok (.iconst (-1), 1) := by decide +kernel
theorem dX9_as_54 : decode cX9_as 54 = .ok (.ireturn, 1) := by decide +kernel
set_option maxRecDepth 20000 in
theorem ggX9_rota_X9_isShift : GoodIn wsX9_rota wsX9_isShift := goodIn_r _ [6, 7, 8, 9, 5, 10, 15, 16, 17, 18, 19, 20, 21, 22, 23, 24, 25, 26, 27, 28, 29, 30, 31, 32, 33, 34, 35, 36, 37, 38, 39, 40, 41, 42, 43, 44, 45, 46, 47, 48, 49, 50, 51, 52, 53, 54, 55] (by decide +kernel) (by decide +kernel)
set_option maxRecDepth 20000 in
theorem gX9_rota_X9_isShift : GoodIn wsX9_rota (wsV RX9 162 RX9 yX9_isShift wsX9_isShift) := goodIn_app (goodIn_of _ (by decide +kernel)) ggX9_rota_X9_isShift
set_option maxRecDepth 20000 in
theorem ggX9_rota_X9_isFather : GoodIn wsX9_rota wsX9_isFather := goodIn_r _ [14, 7, 8, 9, 5, 10, 15, 16, 17, 18, 19, 20, 21, 22, 23, 24, 25, 26, 27, 28, 29, 30, 31, 32, 33, 34, 35, 36, 37, 38, 39, 40, 41, 42, 43, 44, 45, 46, 47, 48, 49, 50, 51, 52, 53, 54, 55] (by decide +kernel) (by decide +kernel)
set_option maxRecDepth 20000 in
theorem gX9_rota_X9_isFather : GoodIn wsX9_rota (wsV RX9 154 RX9 yX9_isFather wsX9_isFather) := goodIn_app (goodIn_of _ (by decide +kernel)) ggX9_rota_X9_isFather
theorem dX9_rota_0 : decode cX9_rota 0 = .ok (.aload_n 0, 1) := by decide +kernel
theorem dX9_rota_1 : decode cX9_rota 1 = .ok (.iload_n 1, 1) := by decide +kernel
theorem dX9_rota_2 : decode cX9_rota 2 = .ok (.invokevirtual 162, 3) := by decide +kernel
theorem dX9_rota_5 : decode cX9_rota 5 = .ok (.ifCond .eq 16, 3) := by decide +kernel
theorem dX9_rota_8 : decode cX9_rota 8 = .ok (.iload_n 2, 1) := by decide +kernel
theorem dX9_rota_9 : decode cX9_rota 9 = .ok (.iconst (-1), 1) := by decide +kernel
theorem dX9_rota_10 : decode cX9_rota 10 = .ok (.if_icmp .eq 14, 3) := by decide +kernel
theorem dX9_rota_13 : decode cX9_rota 13 = .ok (.aload_n 0, 1) := by decide +kernel
theorem dX9_rota_14 : decode cX9_rota 14 = .ok (.iload_n 2, 1) := by decide +kernel
theorem dX9_rota_15 : decode cX9_rota 15 = .ok (.invokevirtual 154, 3) := by decide +kernel
theorem dX9_rota_18 : decode cX9_rota 18 = .ok (.ifCond .ne 6, 3) := by decide +kernel
theorem dX9_rota_21 : decode cX9_rota 21 = .ok (.bipush (-101), 2) := by decide +kernel
theorem dX9_rota_23 : decode cX9_rota 23 = .ok (.ireturn, 1) := by decide +kernel
theorem dX9_rota_24 : decode cX9_rota 24 = .ok (.aload_n 0, 1) := by decide +kernel
theorem dX9_rota_25 : decode cX9_rota 25 = .ok (.getfield 25, 3) := by decide +kernel
theorem dX9_rota_28 : decode cX9_rota 28 = .ok (.iload_n 1, 1) := by decide +kernel
theorem dX9_rota_29 : decode cX9_rota 29 = .ok (.iaload, 1) := by decide +kernel
theorem dX9_rota_30 : decode cX9_rota 30 = .ok (.istore_n 3, 1) := by decide +kernel
theorem dX9_rota_31 : decode cX9_rota 31 = .ok (.aload_n 0, 1) := by decide +kernel
theorem dX9_rota_32 : decode cX9_rota 32 = .ok (.getfield 25, 3) := by decide +kernel
theorem dX9_rota_35 : decode cX9_rota 35 = .ok (.iload_n 1, 1) := by decide +kernel
theorem dX9_rota_36 : decode cX9_rota 36 = .ok (.iload_n 2, 1) := by decide +kernel
theorem dX9_rota_37 : decode cX9_rota 37 = .ok (.iastore, 1) := by decide +kernel
theorem dX9_rota_38 : decode cX9_rota 38 = .ok (.iload_n 3, 1) := by decide +kernel
theorem dX9_rota_39 : decode cX9_rota 39 = .ok (.ireturn, 1) := by decide +kernel
set_option maxRecDepth 20000 in
theorem ggX9_shiftNow_X9_thinkDay : GoodIn wsX9_shiftNow wsX9_thinkDay := goodIn_r _ [9, 10, 11, 12, 13, 14, 8, 15, 16, 17, 4, 18, 19, 2, 20, 21, 22, 23, 1, 3, 24, 25, 26, 27, 28, 29, 30, 31, 32, 33, 34, 35, 36, 59, 60, 61, 62, 63, 64, 65, 66, 67, 68, 69, 70, 71, 72, 73, 74, 75, 76, 77, 78, 79, 80, 81, 82, 83, 84, 85, 86, 87, 88, 89, 90, 91, 92, 93, 94, 95, 96, 97, 98, 99] (by decide +kernel) (by decide +kernel)
set_option maxRecDepth 20000 in
theorem gX9_shiftNow_X9_thinkDay : GoodIn wsX9_shiftNow (wsV RX9 145 RX9 yX9_thinkDay wsX9_thinkDay) := goodIn_app (goodIn_of _ (by decide +kernel)) ggX9_shiftNow_X9_thinkDay
set_option maxRecDepth 20000 in
theorem ggX9_shiftNow_X9_whoIn : GoodIn wsX9_shiftNow wsX9_whoIn := goodIn_r _ [40, 41, 42, 43, 44, 8, 45, 1, 46, 2, 5, 6, 7, 9, 10, 11, 12, 13, 14, 15, 16, 17, 4, 18, 19, 20, 21, 22, 23, 3, 24, 25, 26, 27, 28, 29, 30, 31, 32, 33, 34, 35, 36, 47, 48, 49, 50, 51, 52, 53, 59, 60, 61, 62, 63, 64, 65, 66, 67, 68, 69, 70, 71, 72, 73, 74, 75, 76, 77, 78, 79, 80, 81, 82, 83, 84, 85, 86, 87, 88, 89, 90, 91, 92, 93, 94, 95, 96, 97, 98, 99] (by decide +kernel) (by decide +kernel)
set_option maxRecDepth 20000 in
theorem gX9_shiftNow_X9_whoIn : GoodIn wsX9_shiftNow (wsV RX9 165 RX9 yX9_whoIn wsX9_whoIn) := goodIn_app (goodIn_of _ (by decide +kernel)) ggX9_shiftNow_X9_whoIn
set_option maxRecDepth 20000 in
theorem ggX9_shiftNow_X9_lookFor : GoodIn wsX9_shiftNow wsX9_lookFor := goodIn_r _ [57, 58, 41, 46, 42, 43, 44, 8, 45, 1, 2, 5, 6, 7, 9, 10, 11, 12, 13, 14, 15, 16, 17, 4, 18, 19, 20, 21, 22, 23, 3, 24, 25, 26, 27, 28, 29, 30, 31, 32, 33, 34, 35, 36, 47, 48, 49, 50, 51, 52, 53, 59, 60, 61, 62, 63, 64, 65, 66, 67, 68, 69, 70, 71, 72, 73, 74, 75, 76, 77, 78, 79, 80, 81, 82, 83, 84, 85, 86, 87, 88, 89, 90, 91, 92, 93, 94, 95, 96, 97, 98, 99] (by decide +kernel) (by decide +kernel)
set_option maxRecDepth 20000 in
theorem gX9_shiftNow_X9_lookFor : GoodIn wsX9_shiftNow (wsV RX9 168 RX9 yX9_lookFor wsX9_lookFor) := goodIn_app (goodIn_of _ (by decide +kernel)) ggX9_shiftNow_X9_lookFor
theorem dX9_shiftNow_0 : decode cX9_shiftNow 0 = .ok (.aload_n 0, 1) := by decide +kernel
theorem dX9_shiftNow_1 : decode cX9_shiftNow 1 = .ok (.invokevirtual 145, 3) := by decide +kernel
theorem dX9_shiftNow_4 : decode cX9_shiftNow 4 = .ok (.iload_n 2, 1) := by decide +kernel
theorem dX9_shiftNow_5 : decode cX9_shiftNow 5 = .ok (.tableswitch 71 0 4 #[35, 42, 49, 56, 65], 35) := by decide +kernel
theorem dX9_shiftNow_40 : decode cX9_shiftNow 40 = .ok (.aload_n 0, 1) := by decide +kernel
theorem dX9_shiftNow_41 : decode cX9_shiftNow 41 = .ok (.getfield 25, 3) := by decide +kernel
theorem dX9_shiftNow_44 : decode cX9_shiftNow 44 = .ok (.iload_n 1, 1) := by decide +kernel
theorem dX9_shiftNow_45 : decode cX9_shiftNow 45 = .ok (.iaload, 1) := by decide +kernel
theorem dX9_shiftNow_46 : decode cX9_shiftNow 46 = .ok (.ireturn, 1) := by decide +kernel
theorem dX9_shiftNow_47 : decode cX9_shiftNow 47 = .ok (.aload_n 0, 1) := by decide +kernel
theorem dX9_shiftNow_48 : decode cX9_shiftNow 48 = .ok (.getfield 38, 3) := by decide +kernel
theorem dX9_shiftNow_51 : decode cX9_shiftNow 51 = .ok (.iload_n 1, 1) := by decide +kernel
theorem dX9_shiftNow_52 : decode cX9_shiftNow 52 = .ok (.iaload, 1) := by decide +kernel
theorem dX9_shiftNow_53 : decode cX9_shiftNow 53 = .ok (.ireturn, 1) := by decide +kernel
theorem dX9_shiftNow_54 : decode cX9_shiftNow 54 = .ok (.aload_n 0, 1) := by decide +kernel
theorem dX9_shiftNow_55 : decode cX9_shiftNow 55 = .ok (.getfield 41, 3) := by decide +kernel
theorem dX9_shiftNow_58 : decode cX9_shiftNow 58 = .ok (.iload_n 1, 1) := by decide +kernel
theorem dX9_shiftNow_59 : decode cX9_shiftNow 59 = .ok (.iaload, 1) := by decide +kernel
theorem dX9_shiftNow_60 : decode cX9_shiftNow 60 = .ok (.ireturn, 1) := by decide +kernel
theorem dX9_shiftNow_61 : decode cX9_shiftNow 61 = .ok (.aload_n 0, 1) := by decide +kernel
theorem dX9_shiftNow_62 : decode cX9_shiftNow 62 = .ok (.getfield 134, 3) := by decide +kernel
theorem dX9_shiftNow_65 : decode cX9_shiftNow 65 = .ok (.iload_n 1, 1) := by decide +kernel
theorem dX9_shiftNow_66 : decode cX9_shiftNow 66 = .ok (.ishr, 1) := by decide +kernel
theorem dX9_shiftNow_67 : decode cX9_shiftNow 67 = .ok (.iconst 1, 1) := by decide +kernel
theorem dX9_shiftNow_68 : decode cX9_shiftNow 68 = .ok (.iand, 1) := by decide +kernel
theorem dX9_shiftNow_69 : decode cX9_shiftNow 69 = .ok (.ireturn, 1) := by decide +kernel
theorem dX9_shiftNow_70 : decode cX9_shiftNow 70 = .ok (.aload_n 0, 1) := by decide +kernel
theorem dX9_shiftNow_71 : decode cX9_shiftNow 71 = .ok (.iload_n 1, 1) := by decide +kernel
theorem dX9_shiftNow_72 : decode cX9_shiftNow 72 = .ok (.invokevirtual 165, 3) := by decide +kernel
theorem dX9_shiftNow_75 : decode cX9_shiftNow 75 = .ok (.ireturn, 1) := by decide +kernel
theorem dX9_shiftNow_76 : decode cX9_shiftNow 76 = .ok (.aload_n 0, 1) := by decide +kernel
theorem dX9_shiftNow_77 : decode cX9_shiftNow 77 = .ok (.iload_n 1, 1) := by decide +kernel
theorem dX9_shiftNow_78 : decode cX9_shiftNow 78 = .ok (.invokevirtual 168, 3) := by decide +kernel
theorem dX9_shiftNow_81 : decode cX9_shiftNow 81 = .ok (.ireturn, 1) := by decide +kernel
set_option maxRecDepth 20000 in
theorem ggX9_shift_X9_isShift : GoodIn wsX9_shift wsX9_isShift := goodIn_r _ [5, 6, 7, 8, 4, 9, 70, 71, 72, 73, 74, 75, 76, 77, 78, 79, 80, 81, 82, 83, 84, 85, 86, 87, 88, 89, 90, 91, 92, 93, 94, 95, 96, 97, 98, 99, 100, 101, 102, 103, 104, 105, 106, 107, 108, 109, 110] (by decide +kernel) (by decide +kernel)
set_option maxRecDepth 20000 in
theorem gX9_shift_X9_isShift : GoodIn wsX9_shift (wsV RX9 162 RX9 yX9_isShift wsX9_isShift) := goodIn_app (goodIn_of _ (by decide +kernel)) ggX9_shift_X9_isShift
set_option maxRecDepth 20000 in
theorem ggX9_shift_X9_within : GoodIn wsX9_shift wsX9_within := goodIn_r _ [9] (by decide +kernel) (by decide +kernel)
set_option maxRecDepth 20000 in
theorem gX9_shift_X9_within : GoodIn wsX9_shift (va_wsS RX9 71 yX9_within wsX9_within) := goodIn_app (goodIn_of _ (by decide +kernel)) ggX9_shift_X9_within
set_option maxRecDepth 20000 in
theorem ggX9_shift_X9_shiftNow : GoodIn wsX9_shift wsX9_shiftNow := goodIn_r _ [13, 14, 15, 16, 17, 18, 19, 20, 4, 21, 22, 23, 24, 25, 26, 27, 28, 29, 30, 31, 32, 33, 34, 35, 36, 37, 38, 39, 40, 41, 42, 43, 44, 45, 46, 47, 48, 49, 50, 51, 52, 6, 53, 54, 55, 56, 57, 58, 59, 60, 61, 62, 63, 64, 65, 66, 67, 68, 69, 70, 71, 72, 73, 74, 75, 76, 77, 78, 79, 80, 81, 82, 83, 84, 85, 86, 87, 88, 89, 90, 91, 92, 93, 94, 95, 96, 97, 98, 99, 100, 101, 102, 103, 104, 105, 106, 107, 108, 109, 110] (by decide +kernel) (by decide +kernel)
set_option maxRecDepth 20000 in
theorem gX9_shift_X9_shiftNow : GoodIn wsX9_shift (wsV RX9 171 RX9 yX9_shiftNow wsX9_shiftNow) := goodIn_app (goodIn_of _ (by decide +kernel)) ggX9_shift_X9_shiftNow
theorem dX9_shift_0 : decode cX9_shift 0 = .ok (.aload_n 0, 1) := by decide +kernel
theorem dX9_shift_1 : decode cX9_shift 1 = .ok (.iload_n 1, 1) := by decide +kernel
theorem dX9_shift_2 : decode cX9_shift 2 = .ok (.invokevirtual 162, 3) := by decide +kernel
theorem dX9_shift_5 : decode cX9_shift 5 = .ok (.ifCond .ne 8, 3) := by decide +kernel
theorem dX9_shift_8 : decode cX9_shift 8 = .ok (.bipush (-101), 2) := by decide +kernel
theorem dX9_shift_10 : decode cX9_shift 10 = .ok (.goto 23, 3) := by decide +kernel
theorem dX9_shift_13 : decode cX9_shift 13 = .ok (.iload_n 2, 1) := by decide +kernel
theorem dX9_shift_14 : decode cX9_shift 14 = .ok (.iconst 0, 1) := by decide +kernel
theorem dX9_shift_15 : decode cX9_shift 15 = .ok (.iconst 5, 1) := by decide +kernel
theorem dX9_shift_16 : decode cX9_shift 16 = .ok (.invokestatic 71, 3) := by decide +kernel
theorem dX9_shift_19 : decode cX9_shift 19 = .ok (.ifCond .eq 12, 3) := by decide +kernel
theorem dX9_shift_22 : decode cX9_shift 22 = .ok (.aload_n 0, 1) := by decide +kernel
theorem dX9_shift_23 : decode cX9_shift 23 = .ok (.iload_n 1, 1) := by decide +kernel
theorem dX9_shift_24 : decode cX9_shift 24 = .ok (.iload_n 2, 1) := by decide +kernel
theorem dX9_shift_25 : decode cX9_shift 25 = .ok (.invokevirtual 171, 3) := by decide +kernel
theorem dX9_shift_28 : decode cX9_shift 28 = .ok (.goto 5, 3) := by decide +kernel
theorem dX9_shift_31 : decode cX9_shift 31 = .ok (.bipush (-102), 2) := by decide +kernel
theorem dX9_shift_33 : decode cX9_shift 33 = .ok (.ireturn, 1) := by decide +kernel
set_option maxRecDepth 20000 in
theorem ggX9_day_X9_thinkDay : GoodIn wsX9_day wsX9_thinkDay := goodIn_r _ [15, 7, 9, 16, 17, 18, 14, 19, 6, 8, 20, 3, 5, 21, 22, 23, 24, 25, 26, 27, 28, 29, 30, 31, 32, 33, 34, 35, 36, 37, 38, 39, 40, 45, 46, 47, 48, 49, 50, 51, 52, 53, 54, 55, 56, 57, 58, 59, 60, 61, 62, 63, 64, 65, 66, 67, 68, 69, 70, 71, 72, 73, 74, 75, 76, 77, 78, 79, 80, 81, 82, 83, 84, 85] (by decide +kernel) (by decide +kernel)
set_option maxRecDepth 20000 in
theorem gX9_day_X9_thinkDay : GoodIn wsX9_day (wsV RX9 145 RX9 yX9_thinkDay wsX9_thinkDay) := goodIn_app (goodIn_of _ (by decide +kernel)) ggX9_day_X9_thinkDay
set_option maxRecDepth 20000 in
theorem ggX9_day_X9_gainAll : GoodIn wsX9_day wsX9_gainAll := goodIn_r _ [44, 1, 3, 45, 46, 47, 48, 49, 50, 51, 52, 53, 54, 55, 56, 57, 58, 59, 60, 61, 62, 63, 64, 65, 66, 67, 68, 69, 70, 71, 72, 73, 74, 75, 76, 77, 78, 79, 80, 81, 82, 83, 84, 85] (by decide +kernel) (by decide +kernel)
set_option maxRecDepth 20000 in
theorem gX9_day_X9_gainAll : GoodIn wsX9_day (wsV RX9 174 RX9 yX9_gainAll wsX9_gainAll) := goodIn_app (goodIn_of _ (by decide +kernel)) ggX9_day_X9_gainAll
theorem dX9_day_0 : decode cX9_day 0 = .ok (.aload_n 0, 1) := by decide +kernel
theorem dX9_day_1 : decode cX9_day 1 = .ok (.getfield 100, 3) := by decide +kernel
theorem dX9_day_4 : decode cX9_day 4 = .ok (.ifCond .ne 6, 3) := by decide +kernel
theorem dX9_day_7 : decode cX9_day 7 = .ok (.bipush (-103), 2) := by decide +kernel
theorem dX9_day_9 : decode cX9_day 9 = .ok (.ireturn, 1) := by decide +kernel
theorem dX9_day_10 : decode cX9_day 10 = .ok (.aload_n 0, 1) := by decide +kernel
theorem dX9_day_11 : decode cX9_day 11 = .ok (.invokevirtual 145, 3) := by decide +kernel
theorem dX9_day_14 : decode cX9_day 14 = .ok (.iconst 0, 1) := by decide +kernel
theorem dX9_day_15 : decode cX9_day 15 = .ok (.istore_n 1, 1) := by decide +kernel
theorem dX9_day_16 : decode cX9_day 16 = .ok (.iload_n 1, 1) := by decide +kernel
theorem dX9_day_17 : decode cX9_day 17 = .ok (.aload_n 0, 1) := by decide +kernel
theorem dX9_day_18 : decode cX9_day 18 = .ok (.getfield 100, 3) := by decide +kernel
theorem dX9_day_21 : decode cX9_day 21 = .ok (.if_icmp .ge 39, 3) := by decide +kernel
theorem dX9_day_24 : decode cX9_day 24 = .ok (.aload_n 0, 1) := by decide +kernel
theorem dX9_day_25 : decode cX9_day 25 = .ok (.getfield 19, 3) := by decide +kernel
theorem dX9_day_28 : decode cX9_day 28 = .ok (.iload_n 1, 1) := by decide +kernel
theorem dX9_day_29 : decode cX9_day 29 = .ok (.dup2, 1) := by decide +kernel
theorem dX9_day_30 : decode cX9_day 30 = .ok (.iaload, 1) := by decide +kernel
theorem dX9_day_31 : decode cX9_day 31 = .ok (.aload_n 0, 1) := by decide +kernel
theorem dX9_day_32 : decode cX9_day 32 = .ok (.getfield 44, 3) := by decide +kernel
theorem dX9_day_35 : decode cX9_day 35 = .ok (.iload_n 1, 1) := by decide +kernel
theorem dX9_day_36 : decode cX9_day 36 = .ok (.iaload, 1) := by decide +kernel
theorem dX9_day_37 : decode cX9_day 37 = .ok (.iadd, 1) := by decide +kernel
theorem dX9_day_38 : decode cX9_day 38 = .ok (.iastore, 1) := by decide +kernel
theorem dX9_day_39 : decode cX9_day 39 = .ok (.aload_n 0, 1) := by decide +kernel
theorem dX9_day_40 : decode cX9_day 40 = .ok (.getfield 22, 3) := by decide +kernel
theorem dX9_day_43 : decode cX9_day 43 = .ok (.iload_n 1, 1) := by decide +kernel
theorem dX9_day_44 : decode cX9_day 44 = .ok (.dup2, 1) := by decide +kernel
theorem dX9_day_45 : decode cX9_day 45 = .ok (.iaload, 1) := by decide +kernel
theorem dX9_day_46 : decode cX9_day 46 = .ok (.aload_n 0, 1) := by decide +kernel
theorem dX9_day_47 : decode cX9_day 47 = .ok (.getfield 47, 3) := by decide +kernel
theorem dX9_day_50 : decode cX9_day 50 = .ok (.iload_n 1, 1) := by decide +kernel
theorem dX9_day_51 : decode cX9_day 51 = .ok (.iaload, 1) := by decide +kernel
theorem dX9_day_52 : decode cX9_day 52 = .ok (.iadd, 1) := by decide +kernel
theorem dX9_day_53 : decode cX9_day 53 = .ok (.iastore, 1) := by decide +kernel
theorem dX9_day_54 : decode cX9_day 54 = .ok (.iinc 1 1, 3) := by decide +kernel
theorem dX9_day_57 : decode cX9_day 57 = .ok (.goto (-41), 3) := by decide +kernel
theorem dX9_day_60 : decode cX9_day 60 = .ok (.aload_n 0, 1) := by decide +kernel
theorem dX9_day_61 : decode cX9_day 61 = .ok (.aload_n 0, 1) := by decide +kernel
theorem dX9_day_62 : decode cX9_day 62 = .ok (.getfield 118, 3) := by decide +kernel
theorem dX9_day_65 : decode cX9_day 65 = .ok (.putfield 103, 3) := by decide +kernel
theorem dX9_day_68 : decode cX9_day 68 = .ok (.aload_n 0, 1) := by decide +kernel
theorem dX9_day_69 : decode cX9_day 69 = .ok (.aload_n 0, 1) := by decide +kernel
theorem dX9_day_70 : decode cX9_day 70 = .ok (.getfield 124, 3) := by decide +kernel
theorem dX9_day_73 : decode cX9_day 73 = .ok (.putfield 109, 3) := by decide +kernel
theorem dX9_day_76 : decode cX9_day 76 = .ok (.aload_n 0, 1) := by decide +kernel
