theorem dX8_digest_170 : decode cX8_digest 170 = .ok (.iinc 3 1, 3) := by decide +kernel
theorem dX8_digest_173 : decode cX8_digest 173 = .ok (.goto (-22), 3) := by decide +kernel
theorem dX8_digest_176 : decode cX8_digest 176 = .ok (.lload_n 1, 1) := by decide +kernel
theorem dX8_digest_177 : decode cX8_digest 177 = .ok (.lreturn, 1) := by decide +kernel
theorem dX8_hasCave_0 : decode cX8_hasCave 0 = .ok (.aload_n 0, 1) := by decide +kernel
theorem dX8_hasCave_1 : decode cX8_hasCave 1 = .ok (.getfield 87, 3) := by decide +kernel
theorem dX8_hasCave_4 : decode cX8_hasCave 4 = .ok (.ifCond .le 7, 3) := by decide +kernel
theorem dX8_hasCave_7 : decode cX8_hasCave 7 = .ok (.iconst 1, 1) := by decide +kernel
theorem dX8_hasCave_8 : decode cX8_hasCave 8 = .ok (.goto 4, 3) := by decide +kernel
theorem dX8_hasCave_11 : decode cX8_hasCave 11 = .ok (.iconst 0, 1) := by decide +kernel
theorem dX8_hasCave_12 : decode cX8_hasCave 12 = .ok (.ireturn, 1) := by decide +kernel
set_option maxRecDepth 20000 in
theorem ggX8_isShift_X8_hasCave : GoodIn wsX8_isShift wsX8_hasCave := goodIn_r _ [5, 6, 7, 8, 9, 10, 11, 12, 13, 14, 15, 16, 17, 18, 19] (by decide +kernel) (by decide +kernel)
set_option maxRecDepth 20000 in
theorem gX8_isShift_X8_hasCave : GoodIn wsX8_isShift (wsV RX8 161 RX8 yX8_hasCave wsX8_hasCave) := goodIn_app (goodIn_of _ (by decide +kernel)) ggX8_isShift_X8_hasCave
theorem dX8_isShift_0 : decode cX8_isShift 0 = .ok (.aload_n 0, 1) := by decide +kernel
theorem dX8_isShift_1 : decode cX8_isShift 1 = .ok (.invokevirtual 161, 3) := by decide +kernel
theorem dX8_isShift_4 : decode cX8_isShift 4 = .ok (.ifCond .eq 17, 3) := by decide +kernel
theorem dX8_isShift_7 : decode cX8_isShift 7 = .ok (.iload_n 1, 1) := by decide +kernel
theorem dX8_isShift_8 : decode cX8_isShift 8 = .ok (.ifCond .lt 13, 3) := by decide +kernel
theorem dX8_isShift_11 : decode cX8_isShift 11 = .ok (.iload_n 1, 1) := by decide +kernel
theorem dX8_isShift_12 : decode cX8_isShift 12 = .ok (.bipush 8, 2) := by decide +kernel
theorem dX8_isShift_14 : decode cX8_isShift 14 = .ok (.if_icmp .ge 7, 3) := by decide +kernel
theorem dX8_isShift_17 : decode cX8_isShift 17 = .ok (.iconst 1, 1) := by decide +kernel
theorem dX8_isShift_18 : decode cX8_isShift 18 = .ok (.goto 4, 3) := by decide +kernel
theorem dX8_isShift_21 : decode cX8_isShift 21 = .ok (.iconst 0, 1) := by decide +kernel
theorem dX8_isShift_22 : decode cX8_isShift 22 = .ok (.ireturn, 1) := by decide +kernel
theorem dX8_isFit_0 : decode cX8_isFit 0 = .ok (.iload_n 0, 1) := by decide +kernel
theorem dX8_isFit_1 : decode cX8_isFit 1 = .ok (.ifCond .lt 13, 3) := by decide +kernel
theorem dX8_isFit_4 : decode cX8_isFit 4 = .ok (.iload_n 0, 1) := by decide +kernel
theorem dX8_isFit_5 : decode cX8_isFit 5 = .ok (.bipush 9, 2) := by decide +kernel
theorem dX8_isFit_7 : decode cX8_isFit 7 = .ok (.if_icmp .gt 7, 3) := by decide +kernel
theorem dX8_isFit_10 : decode cX8_isFit 10 = .ok (.iconst 1, 1) := by decide +kernel
theorem dX8_isFit_11 : decode cX8_isFit 11 = .ok (.goto 4, 3) := by decide +kernel
theorem dX8_isFit_14 : decode cX8_isFit 14 = .ok (.iconst 0, 1) := by decide +kernel
theorem dX8_isFit_15 : decode cX8_isFit 15 = .ok (.ireturn, 1) := by decide +kernel
set_option maxRecDepth 20000 in
theorem ggX8_readFathers_X4_fathers : GoodIn wsX8_readFathers wsX4_fathers := goodIn_r _ [8, 9, 10, 11, 12, 13, 14, 15, 7, 16, 17, 18, 19, 20, 21, 22, 23, 24, 25, 86, 87] (by decide +kernel) (by decide +kernel)
set_option maxRecDepth 20000 in
theorem gX8_readFathers_X4_fathers : GoodIn wsX8_readFathers (wsV RX8 241 RX4 yX4_fathers wsX4_fathers) := goodIn_app (goodIn_of _ (by decide +kernel)) ggX8_readFathers_X4_fathers
set_option maxRecDepth 20000 in
theorem ggX8_readFathers_X4_father : GoodIn wsX8_readFathers wsX4_father := goodIn_r _ [29, 30, 31, 32, 33, 34, 35, 36, 37, 38, 39, 40, 41, 42, 43, 44, 45, 46, 47, 7, 48, 22, 23, 24, 25, 18, 19, 20, 21, 49, 50, 51, 52, 53, 54, 55, 56, 57, 58, 59, 60, 61, 62, 63, 64, 65, 66, 67, 68, 69, 70, 71, 72, 88, 89, 90, 91, 92, 93, 94, 95, 96, 97, 86, 87] (by decide +kernel) (by decide +kernel)
set_option maxRecDepth 20000 in
theorem gX8_readFathers_X4_father : GoodIn wsX8_readFathers (wsV RX8 243 RX4 yX4_father wsX4_father) := goodIn_app (goodIn_of _ (by decide +kernel)) ggX8_readFathers_X4_father
theorem dX8_readFathers_0 : decode cX8_readFathers 0 = .ok (.aload_n 0, 1) := by decide +kernel
theorem dX8_readFathers_1 : decode cX8_readFathers 1 = .ok (.aload_n 0, 1) := by decide +kernel
theorem dX8_readFathers_2 : decode cX8_readFathers 2 = .ok (.getfield 12, 3) := by decide +kernel
theorem dX8_readFathers_5 : decode cX8_readFathers 5 = .ok (.invokevirtual 241, 3) := by decide +kernel
theorem dX8_readFathers_8 : decode cX8_readFathers 8 = .ok (.putfield 87, 3) := by decide +kernel
theorem dX8_readFathers_11 : decode cX8_readFathers 11 = .ok (.iconst 0, 1) := by decide +kernel
theorem dX8_readFathers_12 : decode cX8_readFathers 12 = .ok (.istore_n 1, 1) := by decide +kernel
theorem dX8_readFathers_13 : decode cX8_readFathers 13 = .ok (.iload_n 1, 1) := by decide +kernel
theorem dX8_readFathers_14 : decode cX8_readFathers 14 = .ok (.aload_n 0, 1) := by decide +kernel
theorem dX8_readFathers_15 : decode cX8_readFathers 15 = .ok (.getfield 18, 3) := by decide +kernel
theorem dX8_readFathers_18 : decode cX8_readFathers 18 = .ok (.arraylength, 1) := by decide +kernel
theorem dX8_readFathers_19 : decode cX8_readFathers 19 = .ok (.if_icmp .ge 35, 3) := by decide +kernel
theorem dX8_readFathers_22 : decode cX8_readFathers 22 = .ok (.aload_n 0, 1) := by decide +kernel
theorem dX8_readFathers_23 : decode cX8_readFathers 23 = .ok (.getfield 18, 3) := by decide +kernel
theorem dX8_readFathers_26 : decode cX8_readFathers 26 = .ok (.iload_n 1, 1) := by decide +kernel
theorem dX8_readFathers_27 : decode cX8_readFathers 27 = .ok (.iload_n 1, 1) := by decide +kernel
theorem dX8_readFathers_28 : decode cX8_readFathers 28 = .ok (.aload_n 0, 1) := by decide +kernel
theorem dX8_readFathers_29 : decode cX8_readFathers 29 = .ok (.getfield 87, 3) := by decide +kernel
theorem dX8_readFathers_32 : decode cX8_readFathers 32 = .ok (.if_icmp .ge 14, 3) := by decide +kernel
theorem dX8_readFathers_35 : decode cX8_readFathers 35 = .ok (.aload_n 0, 1) := by decide +kernel
theorem dX8_readFathers_36 : decode cX8_readFathers 36 = .ok (.getfield 12, 3) := by decide +kernel
theorem dX8_readFathers_39 : decode cX8_readFathers 39 = .ok (.iload_n 1, 1) := by decide +kernel
theorem dX8_readFathers_40 : decode cX8_readFathers 40 = .ok (.invokevirtual 243, 3) := by decide +kernel
theorem dX8_readFathers_43 : decode cX8_readFathers 43 = .ok (.goto 4, 3) := by decide +kernel
theorem dX8_readFathers_46 : decode cX8_readFathers 46 = .ok (.aconst_null, 1) := by decide +kernel
theorem dX8_readFathers_47 : decode cX8_readFathers 47 = .ok (.aastore, 1) := by decide +kernel
theorem dX8_readFathers_48 : decode cX8_readFathers 48 = .ok (.iinc 1 1, 3) := by decide +kernel
theorem dX8_readFathers_51 : decode cX8_readFathers 51 = .ok (.goto (-38), 3) := by decide +kernel
theorem dX8_readFathers_54 : decode cX8_readFathers 54 = .ok (.return_, 1) := by decide +kernel
set_option maxRecDepth 20000 in
theorem ggX8_nextDay_X8_tryOut : GoodIn wsX8_nextDay wsX8_tryOut := goodIn_r _ [7, 8, 9, 1, 10, 11, 12, 13, 14, 15, 16, 17, 18, 19, 20, 21, 22, 23, 24, 25, 26, 27, 28, 6, 29, 30, 31, 32, 33, 34, 35, 36, 37, 38, 39, 40, 41, 42, 43, 44, 45, 46, 47, 48, 49, 50, 51, 52, 53, 54, 55, 56, 57, 58, 59, 60, 61, 62, 63, 64, 65, 66, 67, 68, 69, 70, 71, 72, 73, 74, 75, 76, 77, 78, 79, 80, 81, 82, 83, 84, 85, 86, 87, 88, 89, 90, 91, 92, 93, 94, 95, 96, 97, 98, 99, 100, 101, 102, 103, 104, 105, 106, 107, 108, 109, 110, 111, 112, 113, 114, 115, 116, 117, 118, 119, 120, 121, 122, 123, 124, 125, 126, 127, 128, 129, 130, 131, 132, 133] (by decide +kernel) (by decide +kernel)
set_option maxRecDepth 20000 in
theorem gX8_nextDay_X8_tryOut : GoodIn wsX8_nextDay (wsV RX8 247 RX8 yX8_tryOut wsX8_tryOut) := goodIn_app (goodIn_of _ (by decide +kernel)) ggX8_nextDay_X8_tryOut
theorem dX8_nextDay_0 : decode cX8_nextDay 0 = .ok (.aload_n 0, 1) := by decide +kernel
theorem dX8_nextDay_1 : decode cX8_nextDay 1 = .ok (.aload_n 0, 1) := by decide +kernel
theorem dX8_nextDay_2 : decode cX8_nextDay 2 = .ok (.getfield 25, 3) := by decide +kernel
theorem dX8_nextDay_5 : decode cX8_nextDay 5 = .ok (.getfield 135, 3) := by decide +kernel
theorem dX8_nextDay_8 : decode cX8_nextDay 8 = .ok (.invokevirtual 247, 3) := by decide +kernel
theorem dX8_nextDay_11 : decode cX8_nextDay 11 = .ok (.areturn, 1) := by decide +kernel
set_option maxRecDepth 20000 in
theorem ggX8_tryOut_X7_live : GoodIn wsX8_tryOut wsX7_live := goodIn_r _ [10, 11, 12, 13, 14, 15, 16, 17, 18, 19, 20, 21, 22, 23, 24, 25, 26, 27, 28, 29, 30, 31, 9, 32, 33, 34, 35, 36, 37, 38, 39, 40, 41, 42, 43, 44, 45, 46, 47, 48, 49, 50, 51, 52, 53, 54, 55, 56, 57, 58, 59, 60, 61, 62, 63, 64, 65, 66, 67, 68, 69, 70, 71, 72, 73, 74, 75, 76, 77, 78, 79, 80, 81, 82, 83, 84, 85, 86, 87, 88, 89, 112, 113, 114, 115, 116, 117, 118, 119, 120, 121, 122, 123, 124, 125, 126, 127, 128] (by decide +kernel) (by decide +kernel)
set_option maxRecDepth 20000 in
theorem gX8_tryOut_X7_live : GoodIn wsX8_tryOut (wsV RX8 203 RX7 yX7_live wsX7_live) := goodIn_app (goodIn_of _ (by decide +kernel)) ggX8_tryOut_X7_live
theorem dX8_tryOut_0 : decode cX8_tryOut 0 = .ok (.aload_n 0, 1) := by decide +kernel
theorem dX8_tryOut_1 : decode cX8_tryOut 1 = .ok (.getfield 35, 3) := by decide +kernel
theorem dX8_tryOut_4 : decode cX8_tryOut 4 = .ok (.aload_n 0, 1) := by decide +kernel
theorem dX8_tryOut_5 : decode cX8_tryOut 5 = .ok (.getfield 18, 3) := by decide +kernel
theorem dX8_tryOut_8 : decode cX8_tryOut 8 = .ok (.aload_n 1, 1) := by decide +kernel
theorem dX8_tryOut_9 : decode cX8_tryOut 9 = .ok (.aload_n 0, 1) := by decide +kernel
theorem dX8_tryOut_10 : decode cX8_tryOut 10 = .ok (.getfield 25, 3) := by decide +kernel
theorem dX8_tryOut_13 : decode cX8_tryOut 13 = .ok (.getfield 167, 3) := by decide +kernel
theorem dX8_tryOut_16 : decode cX8_tryOut 16 = .ok (.aload_n 0, 1) := by decide +kernel
theorem dX8_tryOut_17 : decode cX8_tryOut 17 = .ok (.getfield 25, 3) := by decide +kernel
theorem dX8_tryOut_20 : decode cX8_tryOut 20 = .ok (.getfield 117, 3) := by decide +kernel
theorem dX8_tryOut_23 : decode cX8_tryOut 23 = .ok (.invokevirtual 203, 3) := by decide +kernel
theorem dX8_tryOut_26 : decode cX8_tryOut 26 = .ok (.aload_n 0, 1) := by decide +kernel
theorem dX8_tryOut_27 : decode cX8_tryOut 27 = .ok (.getfield 35, 3) := by decide +kernel
theorem dX8_tryOut_30 : decode cX8_tryOut 30 = .ok (.areturn, 1) := by decide +kernel
set_option maxRecDepth 20000 in
theorem ggX8_shiftsOf_X8_at : GoodIn wsX8_shiftsOf wsX8_at := goodIn_r _ [6] (by decide +kernel) (by decide +kernel)
set_option maxRecDepth 20000 in
theorem gX8_shiftsOf_X8_at : GoodIn wsX8_shiftsOf (va_wsS RX8 106 yX8_at wsX8_at) := goodIn_app (goodIn_of _ (by decide +kernel)) ggX8_shiftsOf_X8_at
theorem dX8_shiftsOf_0 : decode cX8_shiftsOf 0 = .ok (.iconst 0, 1) := by decide +kernel
theorem dX8_shiftsOf_1 : decode cX8_shiftsOf 1 = .ok (.istore_n 2, 1) := by decide +kernel
theorem dX8_shiftsOf_2 : decode cX8_shiftsOf 2 = .ok (.iconst 0, 1) := by decide +kernel
theorem dX8_shiftsOf_3 : decode cX8_shiftsOf 3 = .ok (.istore_n 3, 1) := by decide +kernel
theorem dX8_shiftsOf_4 : decode cX8_shiftsOf 4 = .ok (.iload_n 3, 1) := by decide +kernel
theorem dX8_shiftsOf_5 : decode cX8_shiftsOf 5 = .ok (.bipush 8, 2) := by decide +kernel
theorem dX8_shiftsOf_7 : decode cX8_shiftsOf 7 = .ok (.if_icmp .ge 30, 3) := by decide +kernel
theorem dX8_shiftsOf_10 : decode cX8_shiftsOf 10 = .ok (.aload_n 0, 1) := by decide +kernel
theorem dX8_shiftsOf_11 : decode cX8_shiftsOf 11 = .ok (.getfield 25, 3) := by decide +kernel
theorem dX8_shiftsOf_14 : decode cX8_shiftsOf 14 = .ok (.getfield 135, 3) := by decide +kernel
theorem dX8_shiftsOf_17 : decode cX8_shiftsOf 17 = .ok (.iload_n 3, 1) := by decide +kernel
theorem dX8_shiftsOf_18 : decode cX8_shiftsOf 18 = .ok (.invokestatic 106, 3) := by decide +kernel
theorem dX8_shiftsOf_21 : decode cX8_shiftsOf 21 = .ok (.iload_n 1, 1) := by decide +kernel
theorem dX8_shiftsOf_22 : decode cX8_shiftsOf 22 = .ok (.if_icmp .ne 9, 3) := by decide +kernel
theorem dX8_shiftsOf_25 : decode cX8_shiftsOf 25 = .ok (.iload_n 2, 1) := by decide +kernel
theorem dX8_shiftsOf_26 : decode cX8_shiftsOf 26 = .ok (.iconst 1, 1) := by decide +kernel
theorem dX8_shiftsOf_27 : decode cX8_shiftsOf 27 = .ok (.iload_n 3, 1) := by decide +kernel
theorem dX8_shiftsOf_28 : decode cX8_shiftsOf 28 = .ok (.ishl, 1) := by decide +kernel
theorem dX8_shiftsOf_29 : decode cX8_shiftsOf 29 = .ok (.ior, 1) := by decide +kernel
theorem dX8_shiftsOf_30 : decode cX8_shiftsOf 30 = .ok (.istore_n 2, 1) := by decide +kernel
theorem dX8_shiftsOf_31 : decode cX8_shiftsOf 31 = .ok (.iinc 3 1, 3) := by decide +kernel
theorem dX8_shiftsOf_34 : decode cX8_shiftsOf 34 = .ok (.goto (-30), 3) := by decide +kernel
theorem dX8_shiftsOf_37 : decode cX8_shiftsOf 37 = .ok (.iload_n 2, 1) := by decide +kernel
theorem dX8_shiftsOf_38 : decode cX8_shiftsOf 38 = .ok (.ireturn, 1) := by decide +kernel
set_option maxRecDepth 20000 in
theorem ggX8_nextMeritOf_X8_nextDay : GoodIn wsX8_nextMeritOf wsX8_nextDay := goodIn_r _ [8, 1, 2, 9, 10, 11, 7, 12, 13, 14, 15, 16, 17, 18, 19, 20, 21, 22, 23, 24, 25, 26, 27, 28, 29, 30, 31, 32, 33, 34, 35, 36, 37, 38, 39, 40, 41, 42, 43, 44, 45, 46, 47, 48, 49, 50, 51, 52, 53, 54, 55, 56, 57, 58, 59, 60, 61, 62, 63, 64, 65, 66, 67, 68, 69, 70, 71, 72, 73, 74, 75, 76, 77, 78, 79, 80, 81, 82, 83, 84, 85, 86, 87, 88, 89, 90, 91, 92, 93, 94, 95, 96, 97, 98, 99, 101, 102, 103, 104, 105, 106, 107, 108, 109, 110, 111, 112, 113, 114, 115, 116, 117, 118, 119, 120, 121, 122, 123, 124, 125, 126, 127, 128, 129, 130, 131, 132, 133, 134, 135, 136, 137, 138, 139] (by decide +kernel) (by decide +kernel)
set_option maxRecDepth 20000 in
theorem gX8_nextMeritOf_X8_nextDay : GoodIn wsX8_nextMeritOf (wsV RX8 142 RX8 yX8_nextDay wsX8_nextDay) := goodIn_app (goodIn_of _ (by decide +kernel)) ggX8_nextMeritOf_X8_nextDay
set_option maxRecDepth 20000 in
theorem ggX8_nextMeritOf_X8_at : GoodIn wsX8_nextMeritOf wsX8_at := goodIn_r _ [36] (by decide +kernel) (by decide +kernel)
set_option maxRecDepth 20000 in
theorem gX8_nextMeritOf_X8_at : GoodIn wsX8_nextMeritOf (va_wsS RX8 106 yX8_at wsX8_at) := goodIn_app (goodIn_of _ (by decide +kernel)) ggX8_nextMeritOf_X8_at
theorem dX8_nextMeritOf_0 : decode cX8_nextMeritOf 0 = .ok (.aload_n 0, 1) := by decide +kernel
theorem dX8_nextMeritOf_1 : decode cX8_nextMeritOf 1 = .ok (.invokevirtual 142, 3) := by decide +kernel
theorem dX8_nextMeritOf_4 : decode cX8_nextMeritOf 4 = .ok (.astore_n 2, 1) := by decide +kernel
theorem dX8_nextMeritOf_5 : decode cX8_nextMeritOf 5 = .ok (.iconst 0, 1) := by decide +kernel
theorem dX8_nextMeritOf_6 : decode cX8_nextMeritOf 6 = .ok (.istore_n 3, 1) := by decide +kernel
theorem dX8_nextMeritOf_7 : decode cX8_nextMeritOf 7 = .ok (.iconst 0, 1) := by decide +kernel
theorem dX8_nextMeritOf_8 : decode cX8_nextMeritOf 8 = .ok (.istore 4, 2) := by decide +kernel
theorem dX8_nextMeritOf_10 : decode cX8_nextMeritOf 10 = .ok (.iload 4, 2) := by decide +kernel
theorem dX8_nextMeritOf_12 : decode cX8_nextMeritOf 12 = .ok (.bipush 8, 2) := by decide +kernel
theorem dX8_nextMeritOf_14 : decode cX8_nextMeritOf 14 = .ok (.if_icmp .ge 37, 3) := by decide +kernel
theorem dX8_nextMeritOf_17 : decode cX8_nextMeritOf 17 = .ok (.aload_n 0, 1) := by decide +kernel
theorem dX8_nextMeritOf_18 : decode cX8_nextMeritOf 18 = .ok (.getfield 25, 3) := by decide +kernel
theorem dX8_nextMeritOf_21 : decode cX8_nextMeritOf 21 = .ok (.getfield 135, 3) := by decide +kernel
theorem dX8_nextMeritOf_24 : decode cX8_nextMeritOf 24 = .ok (.iload 4, 2) := by decide +kernel
theorem dX8_nextMeritOf_26 : decode cX8_nextMeritOf 26 = .ok (.invokestatic 106, 3) := by decide +kernel
theorem dX8_nextMeritOf_29 : decode cX8_nextMeritOf 29 = .ok (.iload_n 1, 1) := by decide +kernel
theorem dX8_nextMeritOf_30 : decode cX8_nextMeritOf 30 = .ok (.if_icmp .ne 15, 3) := by decide +kernel
theorem dX8_nextMeritOf_33 : decode cX8_nextMeritOf 33 = .ok (.iload_n 3, 1) := by decide +kernel
theorem dX8_nextMeritOf_34 : decode cX8_nextMeritOf 34 = .ok (.aload_n 2, 1) := by decide +kernel
theorem dX8_nextMeritOf_35 : decode cX8_nextMeritOf 35 = .ok (.getfield 164, 3) := by decide +kernel
theorem dX8_nextMeritOf_38 : decode cX8_nextMeritOf 38 = .ok (.iload 4, 2) := by decide +kernel
theorem dX8_nextMeritOf_40 : decode cX8_nextMeritOf 40 = .ok (.invokestatic 106, 3) := by decide +kernel
theorem dX8_nextMeritOf_43 : decode cX8_nextMeritOf 43 = .ok (.iadd, 1) := by decide +kernel
theorem dX8_nextMeritOf_44 : decode cX8_nextMeritOf 44 = .ok (.istore_n 3, 1) := by decide +kernel
theorem dX8_nextMeritOf_45 : decode cX8_nextMeritOf 45 = .ok (.iinc 4 1, 3) := by decide +kernel
theorem dX8_nextMeritOf_48 : decode cX8_nextMeritOf 48 = .ok (.goto (-38), 3) := by decide +kernel
theorem dX8_nextMeritOf_51 : decode cX8_nextMeritOf 51 = .ok (.iload_n 3, 1) := by decide +kernel
theorem dX8_nextMeritOf_52 : decode cX8_nextMeritOf 52 = .ok (.ireturn, 1) := by decide +kernel
set_option maxRecDepth 20000 in
theorem ggX8_seekBest_X8_copy : GoodIn wsX8_seekBest wsX8_copy := goodIn_r _ [10] (by decide +kernel) (by decide +kernel)
set_option maxRecDepth 20000 in
theorem gX8_seekBest_X8_copy : GoodIn wsX8_seekBest (va_wsS RX8 186 yX8_copy wsX8_copy) := goodIn_app (goodIn_of _ (by decide +kernel)) ggX8_seekBest_X8_copy
set_option maxRecDepth 20000 in
theorem ggX8_seekBest_X8_put : GoodIn wsX8_seekBest wsX8_put := goodIn_r _ [13] (by decide +kernel) (by decide +kernel)
set_option maxRecDepth 20000 in
theorem gX8_seekBest_X8_put : GoodIn wsX8_seekBest (va_wsS RX8 138 yX8_put wsX8_put) := goodIn_app (goodIn_of _ (by decide +kernel)) ggX8_seekBest_X8_put
set_option maxRecDepth 20000 in
theorem ggX8_seekBest_X8_weighPlan : GoodIn wsX8_seekBest wsX8_weighPlan := goodIn_r _ [17, 3, 18, 19, 4, 5, 20, 21, 22, 9, 23, 24, 25, 1, 26, 27, 28, 29, 30, 31, 32, 33, 34, 35, 36, 37, 38, 39, 40, 41, 42, 43, 12, 13, 44, 45, 46, 47, 48, 49, 50, 51, 52, 53, 54, 55, 56, 57, 58, 59, 60, 61, 62, 63, 64, 65, 66, 67, 68, 69, 70, 71, 72, 73, 74, 75, 76, 77, 78, 79, 80, 81, 82, 83, 84, 85, 86, 87, 88, 89, 90, 91, 92, 93, 94, 95, 96, 97, 98, 99, 100, 101, 102, 103, 104, 105, 106, 107, 108, 109, 110, 111, 112, 113, 114, 115, 116, 117, 118, 119, 120, 121, 122, 132, 133, 134, 135, 136, 137, 138, 123, 124, 125, 126, 127, 128, 129, 130, 131, 139, 140, 141, 142, 143, 144, 145, 146, 147, 148] (by decide +kernel) (by decide +kernel)
set_option maxRecDepth 20000 in
theorem gX8_seekBest_X8_weighPlan : GoodIn wsX8_seekBest (wsV RX8 251 RX8 yX8_weighPlan wsX8_weighPlan) := goodIn_app (goodIn_of _ (by decide +kernel)) ggX8_seekBest_X8_weighPlan
theorem dX8_seekBest_0 : decode cX8_seekBest 0 = .ok (.aload_n 0, 1) := by decide +kernel
theorem dX8_seekBest_1 : decode cX8_seekBest 1 = .ok (.getfield 25, 3) := by decide +kernel
theorem dX8_seekBest_4 : decode cX8_seekBest 4 = .ok (.getfield 135, 3) := by decide +kernel
theorem dX8_seekBest_7 : decode cX8_seekBest 7 = .ok (.aload_n 0, 1) := by decide +kernel
theorem dX8_seekBest_8 : decode cX8_seekBest 8 = .ok (.getfield 39, 3) := by decide +kernel
theorem dX8_seekBest_11 : decode cX8_seekBest 11 = .ok (.invokestatic 186, 3) := by decide +kernel
theorem dX8_seekBest_14 : decode cX8_seekBest 14 = .ok (.aload_n 0, 1) := by decide +kernel
theorem dX8_seekBest_15 : decode cX8_seekBest 15 = .ok (.iconst (-1), 1) := by decide +kernel
theorem dX8_seekBest_16 : decode cX8_seekBest 16 = .ok (.putfield 49, 3) := by decide +kernel
theorem dX8_seekBest_19 : decode cX8_seekBest 19 = .ok (.iconst 0, 1) := by decide +kernel
theorem dX8_seekBest_20 : decode cX8_seekBest 20 = .ok (.istore_n 3, 1) := by decide +kernel
theorem dX8_seekBest_21 : decode cX8_seekBest 21 = .ok (.iload_n 3, 1) := by decide +kernel
theorem dX8_seekBest_22 : decode cX8_seekBest 22 = .ok (.aload_n 0, 1) := by decide +kernel
theorem dX8_seekBest_23 : decode cX8_seekBest 23 = .ok (.getfield 43, 3) := by decide +kernel
theorem dX8_seekBest_26 : decode cX8_seekBest 26 = .ok (.arraylength, 1) := by decide +kernel
theorem dX8_seekBest_27 : decode cX8_seekBest 27 = .ok (.if_icmp .ge 16, 3) := by decide +kernel
theorem dX8_seekBest_30 : decode cX8_seekBest 30 = .ok (.aload_n 0, 1) := by decide +kernel
theorem dX8_seekBest_31 : decode cX8_seekBest 31 = .ok (.getfield 43, 3) := by decide +kernel
theorem dX8_seekBest_34 : decode cX8_seekBest 34 = .ok (.iload_n 3, 1) := by decide +kernel
theorem dX8_seekBest_35 : decode cX8_seekBest 35 = .ok (.iconst (-1), 1) := by decide +kernel
theorem dX8_seekBest_36 : decode cX8_seekBest 36 = .ok (.iastore, 1) := by decide +kernel
theorem dX8_seekBest_37 : decode cX8_seekBest 37 = .ok (.iinc 3 1, 3) := by decide +kernel
theorem dX8_seekBest_40 : decode cX8_seekBest 40 = .ok (.goto (-19), 3) := by decide +kernel
theorem dX8_seekBest_43 : decode cX8_seekBest 43 = .ok (.iconst (-1), 1) := by decide +kernel
theorem dX8_seekBest_44 : decode cX8_seekBest 44 = .ok (.istore_n 3, 1) := by decide +kernel
theorem dX8_seekBest_45 : decode cX8_seekBest 45 = .ok (.iload_n 3, 1) := by decide +kernel
theorem dX8_seekBest_46 : decode cX8_seekBest 46 = .ok (.aload_n 0, 1) := by decide +kernel
theorem dX8_seekBest_47 : decode cX8_seekBest 47 = .ok (.getfield 87, 3) := by decide +kernel
theorem dX8_seekBest_50 : decode cX8_seekBest 50 = .ok (.if_icmp .ge 84, 3) := by decide +kernel
theorem dX8_seekBest_53 : decode cX8_seekBest 53 = .ok (.aload_n 0, 1) := by decide +kernel
theorem dX8_seekBest_54 : decode cX8_seekBest 54 = .ok (.getfield 39, 3) := by decide +kernel
theorem dX8_seekBest_57 : decode cX8_seekBest 57 = .ok (.iload_n 1, 1) := by decide +kernel
theorem dX8_seekBest_58 : decode cX8_seekBest 58 = .ok (.iload_n 3, 1) := by decide +kernel
theorem dX8_seekBest_59 : decode cX8_seekBest 59 = .ok (.invokestatic 138, 3) := by decide +kernel
theorem dX8_seekBest_62 : decode cX8_seekBest 62 = .ok (.iconst (-1), 1) := by decide +kernel
theorem dX8_seekBest_63 : decode cX8_seekBest 63 = .ok (.istore 4, 2) := by decide +kernel
theorem dX8_seekBest_65 : decode cX8_seekBest 65 = .ok (.iload 4, 2) := by decide +kernel
theorem dX8_seekBest_67 : decode cX8_seekBest 67 = .ok (.aload_n 0, 1) := by decide +kernel
theorem dX8_seekBest_68 : decode cX8_seekBest 68 = .ok (.getfield 87, 3) := by decide +kernel
theorem dX8_seekBest_71 : decode cX8_seekBest 71 = .ok (.if_icmp .ge 57, 3) := by decide +kernel
theorem dX8_seekBest_74 : decode cX8_seekBest 74 = .ok (.aload_n 0, 1) := by decide +kernel
theorem dX8_seekBest_75 : decode cX8_seekBest 75 = .ok (.getfield 39, 3) := by decide +kernel
theorem dX8_seekBest_78 : decode cX8_seekBest 78 = .ok (.iload_n 1, 1) := by decide +kernel
theorem dX8_seekBest_79 : decode cX8_seekBest 79 = .ok (.iconst 1, 1) := by decide +kernel
theorem dX8_seekBest_80 : decode cX8_seekBest 80 = .ok (.iadd, 1) := by decide +kernel
theorem dX8_seekBest_81 : decode cX8_seekBest 81 = .ok (.iload 4, 2) := by decide +kernel
theorem dX8_seekBest_83 : decode cX8_seekBest 83 = .ok (.invokestatic 138, 3) := by decide +kernel
theorem dX8_seekBest_86 : decode cX8_seekBest 86 = .ok (.iconst (-1), 1) := by decide +kernel
theorem dX8_seekBest_87 : decode cX8_seekBest 87 = .ok (.istore 5, 2) := by decide +kernel
theorem dX8_seekBest_89 : decode cX8_seekBest 89 = .ok (.iload 5, 2) := by decide +kernel
theorem dX8_seekBest_91 : decode cX8_seekBest 91 = .ok (.aload_n 0, 1) := by decide +kernel
theorem dX8_seekBest_92 : decode cX8_seekBest 92 = .ok (.getfield 87, 3) := by decide +kernel
theorem dX8_seekBest_95 : decode cX8_seekBest 95 = .ok (.if_icmp .ge 27, 3) := by decide +kernel
theorem dX8_seekBest_98 : decode cX8_seekBest 98 = .ok (.aload_n 0, 1) := by decide +kernel
theorem dX8_seekBest_99 : decode cX8_seekBest 99 = .ok (.getfield 39, 3) := by decide +kernel
theorem dX8_seekBest_102 : decode cX8_seekBest 102 = .ok (.iload_n 1, 1) := by decide +kernel
theorem dX8_seekBest_103 : decode cX8_seekBest 103 = .ok (.iconst 2, 1) := by decide +kernel
theorem dX8_seekBest_104 : decode cX8_seekBest 104 = .ok (.iadd, 1) := by decide +kernel
theorem dX8_seekBest_105 : decode cX8_seekBest 105 = .ok (.iload 5, 2) := by decide +kernel
theorem dX8_seekBest_107 : decode cX8_seekBest 107 = .ok (.invokestatic 138, 3) := by decide +kernel
theorem dX8_seekBest_110 : decode cX8_seekBest 110 = .ok (.aload_n 0, 1) := by decide +kernel
theorem dX8_seekBest_111 : decode cX8_seekBest 111 = .ok (.iload_n 1, 1) := by decide +kernel
theorem dX8_seekBest_112 : decode cX8_seekBest 112 = .ok (.iload_n 2, 1) := by decide +kernel
theorem dX8_seekBest_113 : decode cX8_seekBest 113 = .ok (.invokevirtual 251, 3) := by decide +kernel
theorem dX8_seekBest_116 : decode cX8_seekBest 116 = .ok (.iinc 5 1, 3) := by decide +kernel
theorem dX8_seekBest_119 : decode cX8_seekBest 119 = .ok (.goto (-30), 3) := by decide +kernel
theorem dX8_seekBest_122 : decode cX8_seekBest 122 = .ok (.iinc 4 1, 3) := by decide +kernel
theorem dX8_seekBest_125 : decode cX8_seekBest 125 = .ok (.goto (-60), 3) := by decide +kernel
theorem dX8_seekBest_128 : decode cX8_seekBest 128 = .ok (.iinc 3 1, 3) := by decide +kernel
theorem dX8_seekBest_131 : decode cX8_seekBest 131 = .ok (.goto (-86), 3) := by decide +kernel
theorem dX8_seekBest_134 : decode cX8_seekBest 134 = .ok (.return_, 1) := by decide +kernel
set_option maxRecDepth 20000 in
theorem ggX8_weighPlan_X8_tryOut : GoodIn wsX8_weighPlan wsX8_tryOut := goodIn_r _ [10, 11, 12, 13, 14, 15, 16, 17, 18, 19, 20, 21, 22, 23, 24, 25, 26, 27, 28, 29, 30, 31, 32, 9, 33, 34, 35, 36, 37, 38, 39, 40, 41, 42, 43, 44, 45, 46, 47, 48, 49, 50, 51, 52, 53, 54, 55, 56, 57, 58, 59, 60, 61, 62, 63, 64, 65, 66, 67, 68, 69, 70, 71, 72, 73, 74, 75, 76, 77, 78, 79, 80, 81, 82, 83, 84, 85, 86, 87, 88, 89, 90, 91, 92, 93, 94, 95, 96, 97, 98, 100, 101, 102, 103, 104, 105, 106, 107, 108, 109, 110, 111, 112, 120, 121, 122, 123, 124, 125, 126, 127, 128, 113, 114, 115, 116, 117, 118, 119, 129, 130, 131, 132, 133, 134, 135, 136, 137, 138] (by decide +kernel) (by decide +kernel)
set_option maxRecDepth 20000 in
theorem gX8_weighPlan_X8_tryOut : GoodIn wsX8_weighPlan (wsV RX8 247 RX8 yX8_tryOut wsX8_tryOut) := goodIn_app (goodIn_of _ (by decide +kernel)) ggX8_weighPlan_X8_tryOut
set_option maxRecDepth 20000 in
theorem ggX8_weighPlan_X8_at : GoodIn wsX8_weighPlan wsX8_at := goodIn_r _ [35] (by decide +kernel) (by decide +kernel)
set_option maxRecDepth 20000 in
theorem gX8_weighPlan_X8_at : GoodIn wsX8_weighPlan (va_wsS RX8 106 yX8_at wsX8_at) := goodIn_app (goodIn_of _ (by decide +kernel)) ggX8_weighPlan_X8_at
theorem dX8_weighPlan_0 : decode cX8_weighPlan 0 = .ok (.aload_n 0, 1) := by decide +kernel
theorem dX8_weighPlan_1 : decode cX8_weighPlan 1 = .ok (.aload_n 0, 1) := by decide +kernel
theorem dX8_weighPlan_2 : decode cX8_weighPlan 2 = .ok (.getfield 39, 3) := by decide +kernel
theorem dX8_weighPlan_5 : decode cX8_weighPlan 5 = .ok (.invokevirtual 247, 3) := by decide +kernel
theorem dX8_weighPlan_8 : decode cX8_weighPlan 8 = .ok (.astore_n 3, 1) := by decide +kernel
theorem dX8_weighPlan_9 : decode cX8_weighPlan 9 = .ok (.aload_n 3, 1) := by decide +kernel
theorem dX8_weighPlan_10 : decode cX8_weighPlan 10 = .ok (.getfield 146, 3) := by decide +kernel
theorem dX8_weighPlan_13 : decode cX8_weighPlan 13 = .ok (.bipush 8, 2) := by decide +kernel
theorem dX8_weighPlan_15 : decode cX8_weighPlan 15 = .ok (.invokestatic 106, 3) := by decide +kernel
theorem dX8_weighPlan_18 : decode cX8_weighPlan 18 = .ok (.iload_n 2, 1) := by decide +kernel
theorem dX8_weighPlan_19 : decode cX8_weighPlan 19 = .ok (.if_icmp .lt 14, 3) := by decide +kernel
theorem dX8_weighPlan_22 : decode cX8_weighPlan 22 = .ok (.aload_n 3, 1) := by decide +kernel
theorem dX8_weighPlan_23 : decode cX8_weighPlan 23 = .ok (.getfield 173, 3) := by decide +kernel
theorem dX8_weighPlan_26 : decode cX8_weighPlan 26 = .ok (.aload_n 0, 1) := by decide +kernel
theorem dX8_weighPlan_27 : decode cX8_weighPlan 27 = .ok (.getfield 49, 3) := by decide +kernel
theorem dX8_weighPlan_30 : decode cX8_weighPlan 30 = .ok (.if_icmp .gt 4, 3) := by decide +kernel
theorem dX8_weighPlan_33 : decode cX8_weighPlan 33 = .ok (.return_, 1) := by decide +kernel
theorem dX8_weighPlan_34 : decode cX8_weighPlan 34 = .ok (.aload_n 0, 1) := by decide +kernel
theorem dX8_weighPlan_35 : decode cX8_weighPlan 35 = .ok (.aload_n 3, 1) := by decide +kernel
theorem dX8_weighPlan_36 : decode cX8_weighPlan 36 = .ok (.getfield 173, 3) := by decide +kernel
theorem dX8_weighPlan_39 : decode cX8_weighPlan 39 = .ok (.putfield 49, 3) := by decide +kernel
theorem dX8_weighPlan_42 : decode cX8_weighPlan 42 = .ok (.iconst 0, 1) := by decide +kernel
theorem dX8_weighPlan_43 : decode cX8_weighPlan 43 = .ok (.istore 4, 2) := by decide +kernel
theorem dX8_weighPlan_45 : decode cX8_weighPlan 45 = .ok (.iload 4, 2) := by decide +kernel
theorem dX8_weighPlan_47 : decode cX8_weighPlan 47 = .ok (.aload_n 0, 1) := by decide +kernel
theorem dX8_weighPlan_48 : decode cX8_weighPlan 48 = .ok (.getfield 43, 3) := by decide +kernel
theorem dX8_weighPlan_51 : decode cX8_weighPlan 51 = .ok (.arraylength, 1) := by decide +kernel
theorem dX8_weighPlan_52 : decode cX8_weighPlan 52 = .ok (.if_icmp .ge 27, 3) := by decide +kernel
theorem dX8_weighPlan_55 : decode cX8_weighPlan 55 = .ok (.aload_n 0, 1) := by decide +kernel
theorem dX8_weighPlan_56 : decode cX8_weighPlan 56 = .ok (.getfield 43, 3) := by decide +kernel
theorem dX8_weighPlan_59 : decode cX8_weighPlan 59 = .ok (.iload 4, 2) := by decide +kernel
theorem dX8_weighPlan_61 : decode cX8_weighPlan 61 = .ok (.aload_n 0, 1) := by decide +kernel
theorem dX8_weighPlan_62 : decode cX8_weighPlan 62 = .ok (.getfield 39, 3) := by decide +kernel
theorem dX8_weighPlan_65 : decode cX8_weighPlan 65 = .ok (.iload_n 1, 1) := by decide +kernel
theorem dX8_weighPlan_66 : decode cX8_weighPlan 66 = .ok (.iload 4, 2) := by decide +kernel
theorem dX8_weighPlan_68 : decode cX8_weighPlan 68 = .ok (.iadd, 1) := by decide +kernel
theorem dX8_weighPlan_69 : decode cX8_weighPlan 69 = .ok (.invokestatic 106, 3) := by decide +kernel
theorem dX8_weighPlan_72 : decode cX8_weighPlan 72 = .ok (.iastore, 1) := by decide +kernel
theorem dX8_weighPlan_73 : decode cX8_weighPlan 73 = .ok (.iinc 4 1, 3) := by decide +kernel
theorem dX8_weighPlan_76 : decode cX8_weighPlan 76 = .ok (.goto (-31), 3) := by decide +kernel
theorem dX8_weighPlan_79 : decode cX8_weighPlan 79 = .ok (.return_, 1) := by decide +kernel
set_option maxRecDepth 20000 in
theorem ggX8_swappedMerit_X8_at : GoodIn wsX8_swappedMerit wsX8_at := goodIn_r _ [6] (by decide +kernel) (by decide +kernel)
set_option maxRecDepth 20000 in
theorem gX8_swappedMerit_X8_at : GoodIn wsX8_swappedMerit (va_wsS RX8 106 yX8_at wsX8_at) := goodIn_app (goodIn_of _ (by decide +kernel)) ggX8_swappedMerit_X8_at
set_option maxRecDepth 20000 in
theorem ggX8_swappedMerit_X8_put : GoodIn wsX8_swappedMerit wsX8_put := goodIn_r _ [9] (by decide +kernel) (by decide +kernel)
set_option maxRecDepth 20000 in
theorem gX8_swappedMerit_X8_put : GoodIn wsX8_swappedMerit (va_wsS RX8 138 yX8_put wsX8_put) := goodIn_app (goodIn_of _ (by decide +kernel)) ggX8_swappedMerit_X8_put
set_option maxRecDepth 20000 in
theorem ggX8_swappedMerit_X8_tryOut : GoodIn wsX8_swappedMerit wsX8_tryOut := goodIn_r _ [13, 14, 15, 16, 17, 18, 19, 20, 21, 22, 23, 24, 25, 26, 27, 28, 29, 30, 31, 32, 33, 34, 8, 5, 9, 4, 6, 35, 36, 37, 38, 39, 40, 41, 42, 43, 44, 45, 46, 47, 48, 49, 50, 51, 52, 53, 54, 55, 56, 57, 58, 59, 60, 61, 62, 63, 64, 65, 66, 67, 68, 69, 70, 71, 72, 73, 74, 75, 76, 77, 78, 79, 80, 81, 82, 83, 84, 85, 86, 87, 88, 89, 90, 91, 92, 93, 94, 95, 96, 97, 98, 99, 100, 101, 102, 103, 104, 105, 106, 107, 108, 109, 110, 118, 119, 120, 121, 122, 123, 124, 125, 126, 111, 112, 113, 114, 115, 116, 117, 127, 128, 129, 130, 131, 132, 133, 134, 135, 136] (by decide +kernel) (by decide +kernel)
set_option maxRecDepth 20000 in
theorem gX8_swappedMerit_X8_tryOut : GoodIn wsX8_swappedMerit (wsV RX8 247 RX8 yX8_tryOut wsX8_tryOut) := goodIn_app (goodIn_of _ (by decide +kernel)) ggX8_swappedMerit_X8_tryOut
theorem dX8_swappedMerit_0 : decode cX8_swappedMerit 0 = .ok (.aload_n 0, 1) := by decide +kernel
theorem dX8_swappedMerit_1 : decode cX8_swappedMerit 1 = .ok (.getfield 39, 3) := by decide +kernel
theorem dX8_swappedMerit_4 : decode cX8_swappedMerit 4 = .ok (.iload_n 1, 1) := by decide +kernel
theorem dX8_swappedMerit_5 : decode cX8_swappedMerit 5 = .ok (.invokestatic 106, 3) := by decide +kernel
theorem dX8_swappedMerit_8 : decode cX8_swappedMerit 8 = .ok (.istore_n 3, 1) := by decide +kernel
theorem dX8_swappedMerit_9 : decode cX8_swappedMerit 9 = .ok (.aload_n 0, 1) := by decide +kernel
theorem dX8_swappedMerit_10 : decode cX8_swappedMerit 10 = .ok (.getfield 39, 3) := by decide +kernel
theorem dX8_swappedMerit_13 : decode cX8_swappedMerit 13 = .ok (.iload_n 2, 1) := by decide +kernel
theorem dX8_swappedMerit_14 : decode cX8_swappedMerit 14 = .ok (.invokestatic 106, 3) := by decide +kernel
theorem dX8_swappedMerit_17 : decode cX8_swappedMerit 17 = .ok (.istore 4, 2) := by decide +kernel
theorem dX8_swappedMerit_19 : decode cX8_swappedMerit 19 = .ok (.iload_n 3, 1) := by decide +kernel
theorem dX8_swappedMerit_20 : decode cX8_swappedMerit 20 = .ok (.iload 4, 2) := by decide +kernel
theorem dX8_swappedMerit_22 : decode cX8_swappedMerit 22 = .ok (.if_icmp .ne 5, 3) := by decide +kernel
theorem dX8_swappedMerit_25 : decode cX8_swappedMerit 25 = .ok (.iconst (-1), 1) := by decide +kernel
theorem dX8_swappedMerit_26 : decode cX8_swappedMerit 26 = .ok (.ireturn, 1) := by decide +kernel
theorem dX8_swappedMerit_27 : decode cX8_swappedMerit 27 = .ok (.aload_n 0, 1) := by decide +kernel
theorem dX8_swappedMerit_28 : decode cX8_swappedMerit 28 = .ok (.getfield 39, 3) := by decide +kernel
theorem dX8_swappedMerit_31 : decode cX8_swappedMerit 31 = .ok (.iload_n 1, 1) := by decide +kernel
theorem dX8_swappedMerit_32 : decode cX8_swappedMerit 32 = .ok (.iload 4, 2) := by decide +kernel
theorem dX8_swappedMerit_34 : decode cX8_swappedMerit 34 = .ok (.invokestatic 138, 3) := by decide +kernel
theorem dX8_swappedMerit_37 : decode cX8_swappedMerit 37 = .ok (.aload_n 0, 1) := by decide +kernel
theorem dX8_swappedMerit_38 : decode cX8_swappedMerit 38 = .ok (.getfield 39, 3) := by decide +kernel
theorem dX8_swappedMerit_41 : decode cX8_swappedMerit 41 = .ok (.iload_n 2, 1) := by decide +kernel
theorem dX8_swappedMerit_42 : decode cX8_swappedMerit 42 = .ok (.iload_n 3, 1) := by decide +kernel
theorem dX8_swappedMerit_43 : decode cX8_swappedMerit 43 = .ok (.invokestatic 138, 3) := by decide +kernel
theorem dX8_swappedMerit_46 : decode cX8_swappedMerit 46 = .ok (.aload_n 0, 1) := by decide +kernel
theorem dX8_swappedMerit_47 : decode cX8_swappedMerit 47 = .ok (.aload_n 0, 1) := by decide +kernel
theorem dX8_swappedMerit_48 : decode cX8_swappedMerit 48 = .ok (.getfield 39, 3) := by decide +kernel
theorem dX8_swappedMerit_51 : decode cX8_swappedMerit 51 = .ok (.invokevirtual 247, 3) := by decide +kernel
theorem dX8_swappedMerit_54 : decode cX8_swappedMerit 54 = .ok (.getfield 173, 3) := by decide +kernel
theorem dX8_swappedMerit_57 : decode cX8_swappedMerit 57 = .ok (.istore 5, 2) := by decide +kernel
theorem dX8_swappedMerit_59 : decode cX8_swappedMerit 59 = .ok (.aload_n 0, 1) := by decide +kernel
theorem dX8_swappedMerit_60 : decode cX8_swappedMerit 60 = .ok (.getfield 39, 3) := by decide +kernel
theorem dX8_swappedMerit_63 : decode cX8_swappedMerit 63 = .ok (.iload_n 1, 1) := by decide +kernel
theorem dX8_swappedMerit_64 : decode cX8_swappedMerit 64 = .ok (.iload_n 3, 1) := by decide +kernel
theorem dX8_swappedMerit_65 : decode cX8_swappedMerit 65 = .ok (.invokestatic 138, 3) := by decide +kernel
theorem dX8_swappedMerit_68 : decode cX8_swappedMerit 68 = .ok (.aload_n 0, 1) := by decide +kernel
theorem dX8_swappedMerit_69 : decode cX8_swappedMerit 69 = .ok (.getfield 39, 3) := by decide +kernel
theorem dX8_swappedMerit_72 : decode cX8_swappedMerit 72 = .ok (.iload_n 2, 1) := by decide +kernel
theorem dX8_swappedMerit_73 : decode cX8_swappedMerit 73 = .ok (.iload 4, 2) := by decide +kernel
theorem dX8_swappedMerit_75 : decode cX8_swappedMerit 75 = .ok (.invokestatic 138, 3) := by decide +kernel
theorem dX8_swappedMerit_78 : decode cX8_swappedMerit 78 = .ok (.iload 5, 2) := by decide +kernel
theorem dX8_swappedMerit_80 : decode cX8_swappedMerit 80 = .ok (.ireturn, 1) := by decide +kernel
set_option maxRecDepth 20000 in
theorem ggX8_whoCanBe_X8_copy : GoodIn wsX8_whoCanBe wsX8_copy := goodIn_r _ [8] (by decide +kernel) (by decide +kernel)
set_option maxRecDepth 20000 in
theorem gX8_whoCanBe_X8_copy : GoodIn wsX8_whoCanBe (va_wsS RX8 186 yX8_copy wsX8_copy) := goodIn_app (goodIn_of _ (by decide +kernel)) ggX8_whoCanBe_X8_copy
set_option maxRecDepth 20000 in
theorem ggX8_whoCanBe_X8_canBe : GoodIn wsX8_whoCanBe wsX8_canBe := goodIn_r _ [12, 3, 13, 14, 1, 15, 16, 17, 18, 19, 7, 20, 21, 22, 23, 24, 25, 26, 27, 28, 29, 30, 31, 32, 33, 34, 35, 36, 37, 38, 39, 40, 41, 42, 43, 44, 45, 46, 47, 48, 49, 50, 51, 52, 53, 54, 55, 56, 57, 58, 59, 60, 61, 62, 63, 64, 65, 66, 67, 68, 69, 70, 71, 72, 73, 74, 75, 76, 77, 78, 79, 80, 81, 82, 83, 84, 85, 86, 87, 88, 89, 90, 91, 92, 93, 94, 95, 96, 97, 98, 99, 100, 101, 102, 103, 104, 105, 106, 107, 108, 109, 110, 111, 112, 113, 114, 115, 116, 117, 118, 119, 120, 121, 122, 123, 124, 125, 126, 127, 128, 129, 130, 131, 132, 133, 134, 135, 136, 137, 138, 139, 140, 141, 142, 143, 144, 145, 146, 147, 148] (by decide +kernel) (by decide +kernel)
set_option maxRecDepth 20000 in
theorem gX8_whoCanBe_X8_canBe : GoodIn wsX8_whoCanBe (wsV RX8 254 RX8 yX8_canBe wsX8_canBe) := goodIn_app (goodIn_of _ (by decide +kernel)) ggX8_whoCanBe_X8_canBe
theorem dX8_whoCanBe_0 : decode cX8_whoCanBe 0 = .ok (.aload_n 0, 1) := by decide +kernel
theorem dX8_whoCanBe_1 : decode cX8_whoCanBe 1 = .ok (.getfield 25, 3) := by decide +kernel
theorem dX8_whoCanBe_4 : decode cX8_whoCanBe 4 = .ok (.getfield 135, 3) := by decide +kernel
theorem dX8_whoCanBe_7 : decode cX8_whoCanBe 7 = .ok (.aload_n 0, 1) := by decide +kernel
theorem dX8_whoCanBe_8 : decode cX8_whoCanBe 8 = .ok (.getfield 39, 3) := by decide +kernel
