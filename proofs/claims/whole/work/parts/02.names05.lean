theorem dX8_about_140 : decode cX8_about 140 = .ok (.ireturn, 1) := by decide +kernel
set_option maxRecDepth 20000 in
theorem ggX8_as_X8_fatherAt : GoodIn wsX8_as wsX8_fatherAt := goodIn_r _ [5] (by decide +kernel) (by decide +kernel)
set_option maxRecDepth 20000 in
theorem gX8_as_X8_fatherAt : GoodIn wsX8_as (va_wsS RX8 90 yX8_fatherAt wsX8_fatherAt) := goodIn_app (goodIn_of _ (by decide +kernel)) ggX8_as_X8_fatherAt
set_option maxRecDepth 20000 in
theorem ggX8_as_X8_isOfKind : GoodIn wsX8_as wsX8_isOfKind := goodIn_r _ [8, 9, 10, 11, 12] (by decide +kernel) (by decide +kernel)
set_option maxRecDepth 20000 in
theorem gX8_as_X8_isOfKind : GoodIn wsX8_as (va_wsS RX8 127 yX8_isOfKind wsX8_isOfKind) := goodIn_app (goodIn_of _ (by decide +kernel)) ggX8_as_X8_isOfKind
theorem dX8_as_0 : decode cX8_as 0 = .ok (.aload_n 0, 1) := by decide +kernel
theorem dX8_as_1 : decode cX8_as 1 = .ok (.getfield 18, 3) := by decide +kernel
theorem dX8_as_4 : decode cX8_as 4 = .ok (.iload_n 1, 1) := by decide +kernel
theorem dX8_as_5 : decode cX8_as 5 = .ok (.invokestatic 90, 3) := by decide +kernel
theorem dX8_as_8 : decode cX8_as 8 = .ok (.astore_n 3, 1) := by decide +kernel
theorem dX8_as_9 : decode cX8_as 9 = .ok (.aload_n 3, 1) := by decide +kernel
theorem dX8_as_10 : decode cX8_as 10 = .ok (.ifnonnull 6, 3) := by decide +kernel
theorem dX8_as_13 : decode cX8_as 13 = .ok (.bipush (-101), 2) := by decide +kernel
theorem dX8_as_15 : decode cX8_as 15 = .ok (.ireturn, 1) := by decide +kernel
theorem dX8_as_16 : decode cX8_as 16 = .ok (.iload_n 2, 1) := by decide +kernel
theorem dX8_as_17 : decode cX8_as 17 = .ok (.ifCond .lt 8, 3) := by decide +kernel
theorem dX8_as_20 : decode cX8_as 20 = .ok (.iload_n 2, 1) := by decide +kernel
theorem dX8_as_21 : decode cX8_as 21 = .ok (.iconst 4, 1) := by decide +kernel
theorem dX8_as_22 : decode cX8_as 22 = .ok (.if_icmp .le 6, 3) := by decide +kernel
theorem dX8_as_25 : decode cX8_as 25 = .ok (.bipush (-102), 2) := by decide +kernel
theorem dX8_as_27 : decode cX8_as 27 = .ok (.ireturn, 1) := by decide +kernel
theorem dX8_as_28 : decode cX8_as 28 = .ok (.aload_n 3, 1) := by decide +kernel
theorem dX8_as_29 : decode cX8_as 29 = .ok (.iload_n 2, 1) := by decide +kernel
theorem dX8_as_30 : decode cX8_as 30 = .ok (.invokestatic 127, 3) := by decide +kernel
theorem dX8_as_33 : decode cX8_as 33 = .ok (.ifCond .eq 7, 3) := by decide +kernel
theorem dX8_as_36 : decode cX8_as 36 = .ok (.iload_n 1, 1) := by decide +kernel
theorem dX8_as_37 : decode cX8_as 37 = .ok (.goto 4, 3) := by decide +kernel
theorem dX8_as_40 : decode cX8_as 40 = .ok (.iconst (-1), 1) := by decide +kernel
theorem dX8_as_41 : decode cX8_as 41 = .ok (.ireturn, 1) := by decide +kernel
set_option maxRecDepth 20000 in
theorem ggX8_rota_X8_isShift : GoodIn wsX8_rota wsX8_isShift := goodIn_r _ [8, 9, 10, 11, 7, 12, 13, 23, 24, 25, 26, 27, 28, 29, 30, 31, 32, 33, 34, 35] (by decide +kernel) (by decide +kernel)
set_option maxRecDepth 20000 in
theorem gX8_rota_X8_isShift : GoodIn wsX8_rota (wsV RX8 131 RX8 yX8_isShift wsX8_isShift) := goodIn_app (goodIn_of _ (by decide +kernel)) ggX8_rota_X8_isShift
set_option maxRecDepth 20000 in
theorem ggX8_rota_X8_fatherAt : GoodIn wsX8_rota wsX8_fatherAt := goodIn_r _ [16] (by decide +kernel) (by decide +kernel)
set_option maxRecDepth 20000 in
theorem gX8_rota_X8_fatherAt : GoodIn wsX8_rota (va_wsS RX8 90 yX8_fatherAt wsX8_fatherAt) := goodIn_app (goodIn_of _ (by decide +kernel)) ggX8_rota_X8_fatherAt
set_option maxRecDepth 20000 in
theorem ggX8_rota_X8_at : GoodIn wsX8_rota wsX8_at := goodIn_r _ [19] (by decide +kernel) (by decide +kernel)
set_option maxRecDepth 20000 in
theorem gX8_rota_X8_at : GoodIn wsX8_rota (va_wsS RX8 106 yX8_at wsX8_at) := goodIn_app (goodIn_of _ (by decide +kernel)) ggX8_rota_X8_at
set_option maxRecDepth 20000 in
theorem ggX8_rota_X8_put : GoodIn wsX8_rota wsX8_put := goodIn_r _ [22] (by decide +kernel) (by decide +kernel)
set_option maxRecDepth 20000 in
theorem gX8_rota_X8_put : GoodIn wsX8_rota (va_wsS RX8 138 yX8_put wsX8_put) := goodIn_app (goodIn_of _ (by decide +kernel)) ggX8_rota_X8_put
theorem dX8_rota_0 : decode cX8_rota 0 = .ok (.aload_n 0, 1) := by decide +kernel
theorem dX8_rota_1 : decode cX8_rota 1 = .ok (.iload_n 1, 1) := by decide +kernel
theorem dX8_rota_2 : decode cX8_rota 2 = .ok (.invokevirtual 131, 3) := by decide +kernel
theorem dX8_rota_5 : decode cX8_rota 5 = .ok (.ifCond .ne 6, 3) := by decide +kernel
theorem dX8_rota_8 : decode cX8_rota 8 = .ok (.bipush (-101), 2) := by decide +kernel
theorem dX8_rota_10 : decode cX8_rota 10 = .ok (.ireturn, 1) := by decide +kernel
theorem dX8_rota_11 : decode cX8_rota 11 = .ok (.iload_n 2, 1) := by decide +kernel
theorem dX8_rota_12 : decode cX8_rota 12 = .ok (.iconst (-1), 1) := by decide +kernel
theorem dX8_rota_13 : decode cX8_rota 13 = .ok (.if_icmp .eq 17, 3) := by decide +kernel
theorem dX8_rota_16 : decode cX8_rota 16 = .ok (.aload_n 0, 1) := by decide +kernel
theorem dX8_rota_17 : decode cX8_rota 17 = .ok (.getfield 18, 3) := by decide +kernel
theorem dX8_rota_20 : decode cX8_rota 20 = .ok (.iload_n 2, 1) := by decide +kernel
theorem dX8_rota_21 : decode cX8_rota 21 = .ok (.invokestatic 90, 3) := by decide +kernel
theorem dX8_rota_24 : decode cX8_rota 24 = .ok (.ifnonnull 6, 3) := by decide +kernel
theorem dX8_rota_27 : decode cX8_rota 27 = .ok (.bipush (-101), 2) := by decide +kernel
theorem dX8_rota_29 : decode cX8_rota 29 = .ok (.ireturn, 1) := by decide +kernel
theorem dX8_rota_30 : decode cX8_rota 30 = .ok (.aload_n 0, 1) := by decide +kernel
theorem dX8_rota_31 : decode cX8_rota 31 = .ok (.getfield 25, 3) := by decide +kernel
theorem dX8_rota_34 : decode cX8_rota 34 = .ok (.getfield 135, 3) := by decide +kernel
theorem dX8_rota_37 : decode cX8_rota 37 = .ok (.iload_n 1, 1) := by decide +kernel
theorem dX8_rota_38 : decode cX8_rota 38 = .ok (.invokestatic 106, 3) := by decide +kernel
theorem dX8_rota_41 : decode cX8_rota 41 = .ok (.istore_n 3, 1) := by decide +kernel
theorem dX8_rota_42 : decode cX8_rota 42 = .ok (.aload_n 0, 1) := by decide +kernel
theorem dX8_rota_43 : decode cX8_rota 43 = .ok (.getfield 25, 3) := by decide +kernel
theorem dX8_rota_46 : decode cX8_rota 46 = .ok (.getfield 135, 3) := by decide +kernel
theorem dX8_rota_49 : decode cX8_rota 49 = .ok (.iload_n 1, 1) := by decide +kernel
theorem dX8_rota_50 : decode cX8_rota 50 = .ok (.iload_n 2, 1) := by decide +kernel
theorem dX8_rota_51 : decode cX8_rota 51 = .ok (.invokestatic 138, 3) := by decide +kernel
theorem dX8_rota_54 : decode cX8_rota 54 = .ok (.iload_n 3, 1) := by decide +kernel
theorem dX8_rota_55 : decode cX8_rota 55 = .ok (.ireturn, 1) := by decide +kernel
set_option maxRecDepth 20000 in
theorem ggX8_shift_X8_isShift : GoodIn wsX8_shift wsX8_isShift := goodIn_r _ [10, 11, 12, 13, 9, 14, 15, 150, 151, 152, 153, 154, 155, 156, 157, 158, 159, 160, 161, 162] (by decide +kernel) (by decide +kernel)
set_option maxRecDepth 20000 in
theorem gX8_shift_X8_isShift : GoodIn wsX8_shift (wsV RX8 131 RX8 yX8_isShift wsX8_isShift) := goodIn_app (goodIn_of _ (by decide +kernel)) ggX8_shift_X8_isShift
set_option maxRecDepth 20000 in
theorem ggX8_shift_X8_at : GoodIn wsX8_shift wsX8_at := goodIn_r _ [18] (by decide +kernel) (by decide +kernel)
set_option maxRecDepth 20000 in
theorem gX8_shift_X8_at : GoodIn wsX8_shift (va_wsS RX8 106 yX8_at wsX8_at) := goodIn_app (goodIn_of _ (by decide +kernel)) ggX8_shift_X8_at
set_option maxRecDepth 20000 in
theorem ggX8_shift_X8_nextDay : GoodIn wsX8_shift wsX8_nextDay := goodIn_r _ [22, 1, 2, 23, 24, 25, 9, 26, 27, 28, 29, 30, 31, 32, 33, 34, 35, 36, 37, 38, 39, 40, 41, 42, 43, 44, 45, 46, 47, 48, 17, 18, 49, 50, 51, 52, 53, 54, 55, 56, 57, 58, 59, 60, 61, 62, 63, 64, 65, 66, 67, 68, 69, 70, 71, 72, 73, 74, 75, 76, 77, 78, 79, 80, 81, 82, 83, 84, 85, 86, 87, 88, 89, 90, 91, 92, 93, 94, 95, 96, 97, 98, 99, 100, 101, 102, 103, 104, 105, 106, 107, 108, 109, 110, 111, 150, 151, 152, 153, 154, 155, 156, 157, 158, 159, 160, 161, 162, 163, 164, 165, 166, 167, 168, 169, 170, 171, 172, 173, 174, 175, 176, 177, 178, 179, 180, 181, 182, 183, 184, 185, 186, 187, 188] (by decide +kernel) (by decide +kernel)
set_option maxRecDepth 20000 in
theorem gX8_shift_X8_nextDay : GoodIn wsX8_shift (wsV RX8 142 RX8 yX8_nextDay wsX8_nextDay) := goodIn_app (goodIn_of _ (by decide +kernel)) ggX8_shift_X8_nextDay
set_option maxRecDepth 20000 in
theorem ggX8_shift_X8_whoCanBe : GoodIn wsX8_shift wsX8_whoCanBe := goodIn_r _ [115, 1, 2, 116, 15, 117, 118, 9, 119, 120, 121, 122, 123, 27, 28, 29, 30, 3, 124, 47, 48, 31, 32, 33, 34, 35, 36, 37, 38, 39, 40, 41, 42, 43, 44, 45, 46, 17, 18, 49, 50, 51, 52, 53, 54, 55, 56, 57, 58, 59, 60, 61, 62, 63, 64, 65, 66, 67, 68, 69, 70, 71, 72, 73, 74, 75, 76, 77, 78, 79, 80, 81, 82, 83, 84, 85, 86, 87, 88, 89, 90, 91, 92, 93, 94, 95, 96, 97, 98, 99, 100, 101, 102, 103, 104, 105, 106, 107, 108, 109, 110, 111, 125, 126, 127, 128, 129, 130, 131, 132, 150, 151, 152, 153, 154, 155, 156, 157, 158, 159, 160, 161, 162, 163, 164, 165, 166, 167, 168, 169, 170, 171, 172, 173, 174, 175, 176, 177, 178, 179, 180, 181, 182, 183, 184, 185, 186, 187, 188] (by decide +kernel) (by decide +kernel)
set_option maxRecDepth 20000 in
theorem gX8_shift_X8_whoCanBe : GoodIn wsX8_shift (wsV RX8 155 RX8 yX8_whoCanBe wsX8_whoCanBe) := goodIn_app (goodIn_of _ (by decide +kernel)) ggX8_shift_X8_whoCanBe
set_option maxRecDepth 20000 in
theorem ggX8_shift_X8_whereToLook : GoodIn wsX8_shift wsX8_whereToLook := goodIn_r _ [136, 1, 2, 116, 137, 15, 117, 118, 9, 119, 138, 139, 140, 120, 121, 122, 123, 27, 28, 29, 30, 3, 124, 47, 48, 31, 32, 33, 34, 35, 36, 37, 38, 39, 40, 41, 42, 43, 44, 45, 46, 17, 18, 49, 50, 51, 52, 53, 54, 55, 56, 57, 58, 59, 60, 61, 62, 63, 64, 65, 66, 67, 68, 69, 70, 71, 72, 73, 74, 75, 76, 77, 78, 79, 80, 81, 82, 83, 84, 85, 86, 87, 88, 89, 90, 91, 92, 93, 94, 95, 96, 97, 98, 99, 100, 101, 102, 103, 104, 105, 106, 107, 108, 109, 110, 111, 125, 126, 127, 128, 129, 130, 131, 132, 141, 142, 143, 144, 16, 145, 146, 147, 148, 149, 150, 151, 152, 153, 154, 155, 156, 157, 158, 159, 160, 161, 162, 163, 164, 165, 166, 167, 168, 169, 170, 171, 172, 173, 174, 175, 176, 177, 178, 179, 180, 181, 182, 183, 184, 185, 186, 187, 188] (by decide +kernel) (by decide +kernel)
set_option maxRecDepth 20000 in
theorem gX8_shift_X8_whereToLook : GoodIn wsX8_shift (wsV RX8 158 RX8 yX8_whereToLook wsX8_whereToLook) := goodIn_app (goodIn_of _ (by decide +kernel)) ggX8_shift_X8_whereToLook
theorem dX8_shift_0 : decode cX8_shift 0 = .ok (.aload_n 0, 1) := by decide +kernel
theorem dX8_shift_1 : decode cX8_shift 1 = .ok (.iload_n 1, 1) := by decide +kernel
theorem dX8_shift_2 : decode cX8_shift 2 = .ok (.invokevirtual 131, 3) := by decide +kernel
theorem dX8_shift_5 : decode cX8_shift 5 = .ok (.ifCond .ne 6, 3) := by decide +kernel
theorem dX8_shift_8 : decode cX8_shift 8 = .ok (.bipush (-101), 2) := by decide +kernel
theorem dX8_shift_10 : decode cX8_shift 10 = .ok (.ireturn, 1) := by decide +kernel
theorem dX8_shift_11 : decode cX8_shift 11 = .ok (.iload_n 2, 1) := by decide +kernel
theorem dX8_shift_12 : decode cX8_shift 12 = .ok (.tableswitch 100 0 5 #[40, 52, 64, 76, 88, 94], 40) := by decide +kernel
theorem dX8_shift_52 : decode cX8_shift 52 = .ok (.aload_n 0, 1) := by decide +kernel
theorem dX8_shift_53 : decode cX8_shift 53 = .ok (.getfield 25, 3) := by decide +kernel
theorem dX8_shift_56 : decode cX8_shift 56 = .ok (.getfield 135, 3) := by decide +kernel
theorem dX8_shift_59 : decode cX8_shift 59 = .ok (.iload_n 1, 1) := by decide +kernel
theorem dX8_shift_60 : decode cX8_shift 60 = .ok (.invokestatic 106, 3) := by decide +kernel
theorem dX8_shift_63 : decode cX8_shift 63 = .ok (.ireturn, 1) := by decide +kernel
theorem dX8_shift_64 : decode cX8_shift 64 = .ok (.aload_n 0, 1) := by decide +kernel
theorem dX8_shift_65 : decode cX8_shift 65 = .ok (.invokevirtual 142, 3) := by decide +kernel
theorem dX8_shift_68 : decode cX8_shift 68 = .ok (.getfield 146, 3) := by decide +kernel
theorem dX8_shift_71 : decode cX8_shift 71 = .ok (.iload_n 1, 1) := by decide +kernel
theorem dX8_shift_72 : decode cX8_shift 72 = .ok (.invokestatic 106, 3) := by decide +kernel
theorem dX8_shift_75 : decode cX8_shift 75 = .ok (.ireturn, 1) := by decide +kernel
theorem dX8_shift_76 : decode cX8_shift 76 = .ok (.aload_n 0, 1) := by decide +kernel
theorem dX8_shift_77 : decode cX8_shift 77 = .ok (.invokevirtual 142, 3) := by decide +kernel
theorem dX8_shift_80 : decode cX8_shift 80 = .ok (.getfield 149, 3) := by decide +kernel
theorem dX8_shift_83 : decode cX8_shift 83 = .ok (.iload_n 1, 1) := by decide +kernel
theorem dX8_shift_84 : decode cX8_shift 84 = .ok (.invokestatic 106, 3) := by decide +kernel
theorem dX8_shift_87 : decode cX8_shift 87 = .ok (.ireturn, 1) := by decide +kernel
theorem dX8_shift_88 : decode cX8_shift 88 = .ok (.aload_n 0, 1) := by decide +kernel
theorem dX8_shift_89 : decode cX8_shift 89 = .ok (.invokevirtual 142, 3) := by decide +kernel
theorem dX8_shift_92 : decode cX8_shift 92 = .ok (.getfield 152, 3) := by decide +kernel
theorem dX8_shift_95 : decode cX8_shift 95 = .ok (.iload_n 1, 1) := by decide +kernel
theorem dX8_shift_96 : decode cX8_shift 96 = .ok (.invokestatic 106, 3) := by decide +kernel
theorem dX8_shift_99 : decode cX8_shift 99 = .ok (.ireturn, 1) := by decide +kernel
theorem dX8_shift_100 : decode cX8_shift 100 = .ok (.aload_n 0, 1) := by decide +kernel
theorem dX8_shift_101 : decode cX8_shift 101 = .ok (.iload_n 1, 1) := by decide +kernel
theorem dX8_shift_102 : decode cX8_shift 102 = .ok (.invokevirtual 155, 3) := by decide +kernel
theorem dX8_shift_105 : decode cX8_shift 105 = .ok (.ireturn, 1) := by decide +kernel
theorem dX8_shift_106 : decode cX8_shift 106 = .ok (.aload_n 0, 1) := by decide +kernel
theorem dX8_shift_107 : decode cX8_shift 107 = .ok (.iload_n 1, 1) := by decide +kernel
theorem dX8_shift_108 : decode cX8_shift 108 = .ok (.invokevirtual 158, 3) := by decide +kernel
theorem dX8_shift_111 : decode cX8_shift 111 = .ok (.ireturn, 1) := by decide +kernel
theorem dX8_shift_112 : decode cX8_shift 112 = .ok (.bipush (-102), 2) := by decide +kernel
theorem dX8_shift_114 : decode cX8_shift 114 = .ok (.ireturn, 1) := by decide +kernel
set_option maxRecDepth 20000 in
theorem ggX8_day_X8_hasCave : GoodIn wsX8_day wsX8_hasCave := goodIn_r _ [17, 18, 114, 115, 116, 117, 118, 119, 120, 121, 122, 123, 124, 125, 126] (by decide +kernel) (by decide +kernel)
set_option maxRecDepth 20000 in
theorem gX8_day_X8_hasCave : GoodIn wsX8_day (wsV RX8 161 RX8 yX8_hasCave wsX8_hasCave) := goodIn_app (goodIn_of _ (by decide +kernel)) ggX8_day_X8_hasCave
set_option maxRecDepth 20000 in
theorem ggX8_day_X8_nextDay : GoodIn wsX8_day wsX8_nextDay := goodIn_r _ [22, 1, 2, 23, 24, 25, 16, 26, 27, 28, 8, 10, 29, 30, 31, 32, 33, 34, 35, 36, 37, 38, 39, 40, 41, 42, 43, 44, 45, 46, 47, 48, 49, 50, 51, 52, 53, 54, 55, 56, 57, 58, 59, 60, 61, 62, 63, 64, 65, 66, 67, 68, 69, 70, 71, 72, 73, 74, 75, 76, 77, 78, 79, 80, 81, 82, 83, 84, 85, 86, 87, 88, 89, 90, 91, 92, 93, 94, 95, 96, 97, 98, 99, 100, 101, 102, 103, 104, 105, 106, 107, 108, 109, 110, 111, 114, 115, 116, 117, 118, 119, 120, 121, 122, 123, 124, 125, 126, 127, 128, 129, 130, 131, 132, 133, 134, 135, 136, 137, 138, 139, 140, 141, 142, 143, 144, 145, 146, 147, 148, 149, 150, 151, 152] (by decide +kernel) (by decide +kernel)
set_option maxRecDepth 20000 in
theorem gX8_day_X8_nextDay : GoodIn wsX8_day (wsV RX8 142 RX8 yX8_nextDay wsX8_nextDay) := goodIn_app (goodIn_of _ (by decide +kernel)) ggX8_day_X8_nextDay
set_option maxRecDepth 20000 in
theorem ggX8_day_X8_at : GoodIn wsX8_day wsX8_at := goodIn_r _ [48] (by decide +kernel) (by decide +kernel)
set_option maxRecDepth 20000 in
theorem gX8_day_X8_at : GoodIn wsX8_day (va_wsS RX8 106 yX8_at wsX8_at) := goodIn_app (goodIn_of _ (by decide +kernel)) ggX8_day_X8_at
set_option maxRecDepth 20000 in
theorem ggX8_day_X8_put : GoodIn wsX8_day wsX8_put := goodIn_r _ [46] (by decide +kernel) (by decide +kernel)
set_option maxRecDepth 20000 in
theorem gX8_day_X8_put : GoodIn wsX8_day (va_wsS RX8 138 yX8_put wsX8_put) := goodIn_app (goodIn_of _ (by decide +kernel)) ggX8_day_X8_put
theorem dX8_day_0 : decode cX8_day 0 = .ok (.aload_n 0, 1) := by decide +kernel
theorem dX8_day_1 : decode cX8_day 1 = .ok (.invokevirtual 161, 3) := by decide +kernel
theorem dX8_day_4 : decode cX8_day 4 = .ok (.ifCond .ne 6, 3) := by decide +kernel
theorem dX8_day_7 : decode cX8_day 7 = .ok (.bipush (-103), 2) := by decide +kernel
theorem dX8_day_9 : decode cX8_day 9 = .ok (.ireturn, 1) := by decide +kernel
theorem dX8_day_10 : decode cX8_day 10 = .ok (.aload_n 0, 1) := by decide +kernel
theorem dX8_day_11 : decode cX8_day 11 = .ok (.invokevirtual 142, 3) := by decide +kernel
theorem dX8_day_14 : decode cX8_day 14 = .ok (.astore_n 1, 1) := by decide +kernel
theorem dX8_day_15 : decode cX8_day 15 = .ok (.iconst 0, 1) := by decide +kernel
theorem dX8_day_16 : decode cX8_day 16 = .ok (.istore_n 2, 1) := by decide +kernel
theorem dX8_day_17 : decode cX8_day 17 = .ok (.iload_n 2, 1) := by decide +kernel
theorem dX8_day_18 : decode cX8_day 18 = .ok (.bipush 8, 2) := by decide +kernel
theorem dX8_day_20 : decode cX8_day 20 = .ok (.if_icmp .ge 83, 3) := by decide +kernel
theorem dX8_day_23 : decode cX8_day 23 = .ok (.aload_n 0, 1) := by decide +kernel
theorem dX8_day_24 : decode cX8_day 24 = .ok (.getfield 25, 3) := by decide +kernel
theorem dX8_day_27 : decode cX8_day 27 = .ok (.getfield 135, 3) := by decide +kernel
theorem dX8_day_30 : decode cX8_day 30 = .ok (.iload_n 2, 1) := by decide +kernel
theorem dX8_day_31 : decode cX8_day 31 = .ok (.invokestatic 106, 3) := by decide +kernel
theorem dX8_day_34 : decode cX8_day 34 = .ok (.istore_n 3, 1) := by decide +kernel
theorem dX8_day_35 : decode cX8_day 35 = .ok (.aload_n 0, 1) := by decide +kernel
theorem dX8_day_36 : decode cX8_day 36 = .ok (.getfield 25, 3) := by decide +kernel
theorem dX8_day_39 : decode cX8_day 39 = .ok (.getfield 103, 3) := by decide +kernel
theorem dX8_day_42 : decode cX8_day 42 = .ok (.iload_n 3, 1) := by decide +kernel
theorem dX8_day_43 : decode cX8_day 43 = .ok (.aload_n 0, 1) := by decide +kernel
theorem dX8_day_44 : decode cX8_day 44 = .ok (.getfield 25, 3) := by decide +kernel
theorem dX8_day_47 : decode cX8_day 47 = .ok (.getfield 103, 3) := by decide +kernel
theorem dX8_day_50 : decode cX8_day 50 = .ok (.iload_n 3, 1) := by decide +kernel
theorem dX8_day_51 : decode cX8_day 51 = .ok (.invokestatic 106, 3) := by decide +kernel
theorem dX8_day_54 : decode cX8_day 54 = .ok (.aload_n 1, 1) := by decide +kernel
theorem dX8_day_55 : decode cX8_day 55 = .ok (.getfield 164, 3) := by decide +kernel
theorem dX8_day_58 : decode cX8_day 58 = .ok (.iload_n 2, 1) := by decide +kernel
theorem dX8_day_59 : decode cX8_day 59 = .ok (.invokestatic 106, 3) := by decide +kernel
theorem dX8_day_62 : decode cX8_day 62 = .ok (.iadd, 1) := by decide +kernel
theorem dX8_day_63 : decode cX8_day 63 = .ok (.invokestatic 138, 3) := by decide +kernel
theorem dX8_day_66 : decode cX8_day 66 = .ok (.aload_n 0, 1) := by decide +kernel
theorem dX8_day_67 : decode cX8_day 67 = .ok (.getfield 25, 3) := by decide +kernel
theorem dX8_day_70 : decode cX8_day 70 = .ok (.getfield 110, 3) := by decide +kernel
theorem dX8_day_73 : decode cX8_day 73 = .ok (.iload_n 3, 1) := by decide +kernel
theorem dX8_day_74 : decode cX8_day 74 = .ok (.aload_n 0, 1) := by decide +kernel
theorem dX8_day_75 : decode cX8_day 75 = .ok (.getfield 25, 3) := by decide +kernel
theorem dX8_day_78 : decode cX8_day 78 = .ok (.getfield 110, 3) := by decide +kernel
theorem dX8_day_81 : decode cX8_day 81 = .ok (.iload_n 3, 1) := by decide +kernel
theorem dX8_day_82 : decode cX8_day 82 = .ok (.invokestatic 106, 3) := by decide +kernel
theorem dX8_day_85 : decode cX8_day 85 = .ok (.aload_n 1, 1) := by decide +kernel
theorem dX8_day_86 : decode cX8_day 86 = .ok (.getfield 152, 3) := by decide +kernel
theorem dX8_day_89 : decode cX8_day 89 = .ok (.iload_n 2, 1) := by decide +kernel
theorem dX8_day_90 : decode cX8_day 90 = .ok (.invokestatic 106, 3) := by decide +kernel
theorem dX8_day_93 : decode cX8_day 93 = .ok (.iadd, 1) := by decide +kernel
theorem dX8_day_94 : decode cX8_day 94 = .ok (.invokestatic 138, 3) := by decide +kernel
theorem dX8_day_97 : decode cX8_day 97 = .ok (.iinc 2 1, 3) := by decide +kernel
theorem dX8_day_100 : decode cX8_day 100 = .ok (.goto (-83), 3) := by decide +kernel
theorem dX8_day_103 : decode cX8_day 103 = .ok (.aload_n 0, 1) := by decide +kernel
theorem dX8_day_104 : decode cX8_day 104 = .ok (.getfield 25, 3) := by decide +kernel
theorem dX8_day_107 : decode cX8_day 107 = .ok (.aload_n 1, 1) := by decide +kernel
theorem dX8_day_108 : decode cX8_day 108 = .ok (.getfield 146, 3) := by decide +kernel
theorem dX8_day_111 : decode cX8_day 111 = .ok (.bipush 8, 2) := by decide +kernel
theorem dX8_day_113 : decode cX8_day 113 = .ok (.invokestatic 106, 3) := by decide +kernel
theorem dX8_day_116 : decode cX8_day 116 = .ok (.putfield 167, 3) := by decide +kernel
theorem dX8_day_119 : decode cX8_day 119 = .ok (.aload_n 0, 1) := by decide +kernel
theorem dX8_day_120 : decode cX8_day 120 = .ok (.getfield 25, 3) := by decide +kernel
theorem dX8_day_123 : decode cX8_day 123 = .ok (.aload_n 1, 1) := by decide +kernel
theorem dX8_day_124 : decode cX8_day 124 = .ok (.getfield 169, 3) := by decide +kernel
theorem dX8_day_127 : decode cX8_day 127 = .ok (.putfield 117, 3) := by decide +kernel
theorem dX8_day_130 : decode cX8_day 130 = .ok (.aload_n 0, 1) := by decide +kernel
theorem dX8_day_131 : decode cX8_day 131 = .ok (.getfield 25, 3) := by decide +kernel
theorem dX8_day_134 : decode cX8_day 134 = .ok (.dup, 1) := by decide +kernel
theorem dX8_day_135 : decode cX8_day 135 = .ok (.getfield 170, 3) := by decide +kernel
theorem dX8_day_138 : decode cX8_day 138 = .ok (.iconst 1, 1) := by decide +kernel
theorem dX8_day_139 : decode cX8_day 139 = .ok (.iadd, 1) := by decide +kernel
theorem dX8_day_140 : decode cX8_day 140 = .ok (.putfield 170, 3) := by decide +kernel
theorem dX8_day_143 : decode cX8_day 143 = .ok (.aload_n 1, 1) := by decide +kernel
theorem dX8_day_144 : decode cX8_day 144 = .ok (.getfield 173, 3) := by decide +kernel
theorem dX8_day_147 : decode cX8_day 147 = .ok (.ireturn, 1) := by decide +kernel
set_option maxRecDepth 20000 in
theorem ggX8_best_X8_hasCave : GoodIn wsX8_best wsX8_hasCave := goodIn_r _ [8, 9, 122, 123, 124, 125, 126, 127, 128, 129, 130, 131, 132, 133, 134] (by decide +kernel) (by decide +kernel)
set_option maxRecDepth 20000 in
theorem gX8_best_X8_hasCave : GoodIn wsX8_best (wsV RX8 161 RX8 yX8_hasCave wsX8_hasCave) := goodIn_app (goodIn_of _ (by decide +kernel)) ggX8_best_X8_hasCave
set_option maxRecDepth 20000 in
theorem ggX8_best_X8_isFit : GoodIn wsX8_best wsX8_isFit := goodIn_r _ [12] (by decide +kernel) (by decide +kernel)
set_option maxRecDepth 20000 in
theorem gX8_best_X8_isFit : GoodIn wsX8_best (va_wsS RX8 176 yX8_isFit wsX8_isFit) := goodIn_app (goodIn_of _ (by decide +kernel)) ggX8_best_X8_isFit
set_option maxRecDepth 20000 in
theorem ggX8_best_X8_seekBest : GoodIn wsX8_best wsX8_seekBest := goodIn_r _ [16, 17, 18, 19, 2, 3, 9, 20, 21, 7, 22, 23, 24, 25, 26, 27, 28, 29, 30, 31, 32, 33, 34, 35, 36, 37, 38, 39, 40, 41, 42, 43, 44, 45, 46, 47, 48, 49, 50, 51, 52, 53, 54, 55, 56, 57, 58, 59, 60, 61, 62, 63, 64, 65, 66, 67, 68, 69, 70, 71, 72, 73, 74, 75, 76, 77, 78, 79, 80, 81, 82, 83, 84, 85, 86, 87, 88, 89, 90, 91, 92, 93, 94, 95, 96, 97, 98, 99, 100, 101, 102, 103, 104, 105, 106, 107, 108, 109, 110, 111, 112, 113, 114, 115, 116, 117, 118, 119, 120, 121, 122, 123, 124, 125, 126, 127, 128, 129, 130, 131, 132, 133, 134, 135, 136, 137, 138, 139, 140, 141, 142, 143, 144, 145, 146, 147, 148, 149, 150, 151, 152, 153, 154, 155, 156, 157, 158, 159, 160] (by decide +kernel) (by decide +kernel)
set_option maxRecDepth 20000 in
theorem gX8_best_X8_seekBest : GoodIn wsX8_best (wsV RX8 182 RX8 yX8_seekBest wsX8_seekBest) := goodIn_app (goodIn_of _ (by decide +kernel)) ggX8_best_X8_seekBest
set_option maxRecDepth 20000 in
theorem ggX8_best_X8_at : GoodIn wsX8_best wsX8_at := goodIn_r _ [57] (by decide +kernel) (by decide +kernel)
set_option maxRecDepth 20000 in
theorem gX8_best_X8_at : GoodIn wsX8_best (va_wsS RX8 106 yX8_at wsX8_at) := goodIn_app (goodIn_of _ (by decide +kernel)) ggX8_best_X8_at
theorem dX8_best_0 : decode cX8_best 0 = .ok (.aload_n 0, 1) := by decide +kernel
theorem dX8_best_1 : decode cX8_best 1 = .ok (.invokevirtual 161, 3) := by decide +kernel
theorem dX8_best_4 : decode cX8_best 4 = .ok (.ifCond .eq 12, 3) := by decide +kernel
theorem dX8_best_7 : decode cX8_best 7 = .ok (.iload_n 1, 1) := by decide +kernel
theorem dX8_best_8 : decode cX8_best 8 = .ok (.ifCond .lt 8, 3) := by decide +kernel
theorem dX8_best_11 : decode cX8_best 11 = .ok (.iload_n 1, 1) := by decide +kernel
theorem dX8_best_12 : decode cX8_best 12 = .ok (.iconst 5, 1) := by decide +kernel
theorem dX8_best_13 : decode cX8_best 13 = .ok (.if_icmp .le 6, 3) := by decide +kernel
theorem dX8_best_16 : decode cX8_best 16 = .ok (.bipush (-101), 2) := by decide +kernel
theorem dX8_best_18 : decode cX8_best 18 = .ok (.ireturn, 1) := by decide +kernel
theorem dX8_best_19 : decode cX8_best 19 = .ok (.iload_n 2, 1) := by decide +kernel
theorem dX8_best_20 : decode cX8_best 20 = .ok (.invokestatic 176, 3) := by decide +kernel
theorem dX8_best_23 : decode cX8_best 23 = .ok (.ifCond .eq 19, 3) := by decide +kernel
theorem dX8_best_26 : decode cX8_best 26 = .ok (.iload_n 3, 1) := by decide +kernel
theorem dX8_best_27 : decode cX8_best 27 = .ok (.ifCond .eq 18, 3) := by decide +kernel
theorem dX8_best_30 : decode cX8_best 30 = .ok (.iload_n 3, 1) := by decide +kernel
theorem dX8_best_31 : decode cX8_best 31 = .ok (.bipush 10, 2) := by decide +kernel
theorem dX8_best_33 : decode cX8_best 33 = .ok (.if_icmp .lt 9, 3) := by decide +kernel
theorem dX8_best_36 : decode cX8_best 36 = .ok (.iload_n 3, 1) := by decide +kernel
theorem dX8_best_37 : decode cX8_best 37 = .ok (.bipush 13, 2) := by decide +kernel
theorem dX8_best_39 : decode cX8_best 39 = .ok (.if_icmp .lt 6, 3) := by decide +kernel
theorem dX8_best_42 : decode cX8_best 42 = .ok (.bipush (-102), 2) := by decide +kernel
theorem dX8_best_44 : decode cX8_best 44 = .ok (.ireturn, 1) := by decide +kernel
theorem dX8_best_45 : decode cX8_best 45 = .ok (.aload_n 0, 1) := by decide +kernel
theorem dX8_best_46 : decode cX8_best 46 = .ok (.getfield 179, 3) := by decide +kernel
theorem dX8_best_49 : decode cX8_best 49 = .ok (.bipush 30, 2) := by decide +kernel
theorem dX8_best_51 : decode cX8_best 51 = .ok (.if_icmp .lt 6, 3) := by decide +kernel
theorem dX8_best_54 : decode cX8_best 54 = .ok (.bipush (-103), 2) := by decide +kernel
theorem dX8_best_56 : decode cX8_best 56 = .ok (.ireturn, 1) := by decide +kernel
theorem dX8_best_57 : decode cX8_best 57 = .ok (.aload_n 0, 1) := by decide +kernel
theorem dX8_best_58 : decode cX8_best 58 = .ok (.dup, 1) := by decide +kernel
theorem dX8_best_59 : decode cX8_best 59 = .ok (.getfield 179, 3) := by decide +kernel
theorem dX8_best_62 : decode cX8_best 62 = .ok (.iconst 1, 1) := by decide +kernel
theorem dX8_best_63 : decode cX8_best 63 = .ok (.iadd, 1) := by decide +kernel
theorem dX8_best_64 : decode cX8_best 64 = .ok (.putfield 179, 3) := by decide +kernel
theorem dX8_best_67 : decode cX8_best 67 = .ok (.aload_n 0, 1) := by decide +kernel
theorem dX8_best_68 : decode cX8_best 68 = .ok (.iload_n 1, 1) := by decide +kernel
theorem dX8_best_69 : decode cX8_best 69 = .ok (.iload_n 2, 1) := by decide +kernel
theorem dX8_best_70 : decode cX8_best 70 = .ok (.invokevirtual 182, 3) := by decide +kernel
theorem dX8_best_73 : decode cX8_best 73 = .ok (.iload_n 3, 1) := by decide +kernel
theorem dX8_best_74 : decode cX8_best 74 = .ok (.ifCond .ne 10, 3) := by decide +kernel
theorem dX8_best_77 : decode cX8_best 77 = .ok (.aload_n 0, 1) := by decide +kernel
theorem dX8_best_78 : decode cX8_best 78 = .ok (.getfield 49, 3) := by decide +kernel
theorem dX8_best_81 : decode cX8_best 81 = .ok (.goto 14, 3) := by decide +kernel
theorem dX8_best_84 : decode cX8_best 84 = .ok (.aload_n 0, 1) := by decide +kernel
theorem dX8_best_85 : decode cX8_best 85 = .ok (.getfield 43, 3) := by decide +kernel
theorem dX8_best_88 : decode cX8_best 88 = .ok (.iload_n 3, 1) := by decide +kernel
theorem dX8_best_89 : decode cX8_best 89 = .ok (.bipush 10, 2) := by decide +kernel
theorem dX8_best_91 : decode cX8_best 91 = .ok (.isub, 1) := by decide +kernel
theorem dX8_best_92 : decode cX8_best 92 = .ok (.invokestatic 106, 3) := by decide +kernel
theorem dX8_best_95 : decode cX8_best 95 = .ok (.ireturn, 1) := by decide +kernel
set_option maxRecDepth 20000 in
theorem ggX8_swaps_X8_hasCave : GoodIn wsX8_swaps wsX8_hasCave := goodIn_r _ [9, 10, 122, 123, 124, 125, 126, 127, 128, 129, 130, 131, 132, 133, 134] (by decide +kernel) (by decide +kernel)
set_option maxRecDepth 20000 in
theorem gX8_swaps_X8_hasCave : GoodIn wsX8_swaps (wsV RX8 161 RX8 yX8_hasCave wsX8_hasCave) := goodIn_app (goodIn_of _ (by decide +kernel)) ggX8_swaps_X8_hasCave
set_option maxRecDepth 20000 in
theorem ggX8_swaps_X8_nextDay : GoodIn wsX8_swaps wsX8_nextDay := goodIn_r _ [14, 2, 3, 15, 16, 17, 8, 18, 19, 20, 21, 22, 23, 24, 25, 26, 27, 28, 29, 30, 31, 32, 33, 34, 35, 36, 37, 38, 39, 40, 41, 42, 43, 44, 45, 46, 47, 48, 49, 50, 51, 52, 53, 54, 55, 56, 57, 58, 59, 60, 61, 62, 63, 64, 65, 66, 67, 68, 69, 70, 71, 72, 73, 74, 75, 76, 77, 78, 79, 80, 81, 82, 83, 84, 85, 86, 87, 88, 89, 90, 91, 92, 93, 94, 95, 96, 97, 98, 99, 100, 101, 102, 103, 104, 105, 122, 123, 124, 125, 126, 127, 128, 129, 130, 131, 132, 133, 134, 135, 136, 137, 138, 139, 140, 141, 142, 143, 115, 116, 117, 118, 119, 120, 121, 144, 145, 146, 147, 148, 149, 150, 151, 152, 153] (by decide +kernel) (by decide +kernel)
set_option maxRecDepth 20000 in
theorem gX8_swaps_X8_nextDay : GoodIn wsX8_swaps (wsV RX8 142 RX8 yX8_nextDay wsX8_nextDay) := goodIn_app (goodIn_of _ (by decide +kernel)) ggX8_swaps_X8_nextDay
set_option maxRecDepth 20000 in
theorem ggX8_swaps_X8_copy : GoodIn wsX8_swaps wsX8_copy := goodIn_r _ [108] (by decide +kernel) (by decide +kernel)
set_option maxRecDepth 20000 in
theorem gX8_swaps_X8_copy : GoodIn wsX8_swaps (va_wsS RX8 186 yX8_copy wsX8_copy) := goodIn_app (goodIn_of _ (by decide +kernel)) ggX8_swaps_X8_copy
set_option maxRecDepth 20000 in
theorem ggX8_swaps_X8_swappedMerit : GoodIn wsX8_swaps wsX8_swappedMerit := goodIn_r _ [112, 4, 1, 113, 41, 8, 42, 114, 39, 40, 15, 16, 17, 18, 19, 20, 2, 21, 22, 23, 24, 25, 26, 27, 28, 29, 30, 31, 32, 33, 34, 35, 36, 37, 38, 43, 44, 45, 46, 47, 48, 49, 50, 51, 52, 53, 54, 55, 56, 57, 58, 59, 60, 61, 62, 63, 64, 65, 66, 67, 68, 69, 70, 71, 72, 73, 74, 75, 76, 77, 78, 79, 80, 81, 82, 83, 84, 85, 86, 87, 88, 89, 90, 91, 92, 93, 94, 95, 96, 97, 98, 99, 100, 101, 102, 103, 104, 105, 122, 123, 124, 125, 126, 127, 128, 129, 130, 131, 132, 133, 134, 115, 116, 117, 118, 119, 120, 121, 135, 136, 137, 138, 139, 140, 141, 142, 143, 144, 145, 146, 147, 148, 149, 150, 151, 152, 153] (by decide +kernel) (by decide +kernel)
set_option maxRecDepth 20000 in
theorem gX8_swaps_X8_swappedMerit : GoodIn wsX8_swaps (wsV RX8 190 RX8 yX8_swappedMerit wsX8_swappedMerit) := goodIn_app (goodIn_of _ (by decide +kernel)) ggX8_swaps_X8_swappedMerit
theorem dX8_swaps_0 : decode cX8_swaps 0 = .ok (.aload_n 0, 1) := by decide +kernel
theorem dX8_swaps_1 : decode cX8_swaps 1 = .ok (.invokevirtual 161, 3) := by decide +kernel
theorem dX8_swaps_4 : decode cX8_swaps 4 = .ok (.ifCond .ne 6, 3) := by decide +kernel
theorem dX8_swaps_7 : decode cX8_swaps 7 = .ok (.bipush (-103), 2) := by decide +kernel
theorem dX8_swaps_9 : decode cX8_swaps 9 = .ok (.ireturn, 1) := by decide +kernel
theorem dX8_swaps_10 : decode cX8_swaps 10 = .ok (.aload_n 0, 1) := by decide +kernel
theorem dX8_swaps_11 : decode cX8_swaps 11 = .ok (.invokevirtual 142, 3) := by decide +kernel
theorem dX8_swaps_14 : decode cX8_swaps 14 = .ok (.getfield 173, 3) := by decide +kernel
theorem dX8_swaps_17 : decode cX8_swaps 17 = .ok (.istore_n 1, 1) := by decide +kernel
theorem dX8_swaps_18 : decode cX8_swaps 18 = .ok (.aload_n 0, 1) := by decide +kernel
theorem dX8_swaps_19 : decode cX8_swaps 19 = .ok (.getfield 25, 3) := by decide +kernel
theorem dX8_swaps_22 : decode cX8_swaps 22 = .ok (.getfield 135, 3) := by decide +kernel
theorem dX8_swaps_25 : decode cX8_swaps 25 = .ok (.aload_n 0, 1) := by decide +kernel
theorem dX8_swaps_26 : decode cX8_swaps 26 = .ok (.getfield 39, 3) := by decide +kernel
theorem dX8_swaps_29 : decode cX8_swaps 29 = .ok (.invokestatic 186, 3) := by decide +kernel
theorem dX8_swaps_32 : decode cX8_swaps 32 = .ok (.iconst 0, 1) := by decide +kernel
theorem dX8_swaps_33 : decode cX8_swaps 33 = .ok (.istore_n 2, 1) := by decide +kernel
theorem dX8_swaps_34 : decode cX8_swaps 34 = .ok (.iconst 0, 1) := by decide +kernel
theorem dX8_swaps_35 : decode cX8_swaps 35 = .ok (.istore_n 3, 1) := by decide +kernel
theorem dX8_swaps_36 : decode cX8_swaps 36 = .ok (.iload_n 3, 1) := by decide +kernel
theorem dX8_swaps_37 : decode cX8_swaps 37 = .ok (.bipush 8, 2) := by decide +kernel
theorem dX8_swaps_39 : decode cX8_swaps 39 = .ok (.if_icmp .ge 41, 3) := by decide +kernel
theorem dX8_swaps_42 : decode cX8_swaps 42 = .ok (.iload_n 3, 1) := by decide +kernel
theorem dX8_swaps_43 : decode cX8_swaps 43 = .ok (.iconst 1, 1) := by decide +kernel
theorem dX8_swaps_44 : decode cX8_swaps 44 = .ok (.iadd, 1) := by decide +kernel
theorem dX8_swaps_45 : decode cX8_swaps 45 = .ok (.istore 4, 2) := by decide +kernel
theorem dX8_swaps_47 : decode cX8_swaps 47 = .ok (.iload 4, 2) := by decide +kernel
theorem dX8_swaps_49 : decode cX8_swaps 49 = .ok (.bipush 8, 2) := by decide +kernel
theorem dX8_swaps_51 : decode cX8_swaps 51 = .ok (.if_icmp .ge 23, 3) := by decide +kernel
theorem dX8_swaps_54 : decode cX8_swaps 54 = .ok (.aload_n 0, 1) := by decide +kernel
theorem dX8_swaps_55 : decode cX8_swaps 55 = .ok (.iload_n 3, 1) := by decide +kernel
theorem dX8_swaps_56 : decode cX8_swaps 56 = .ok (.iload 4, 2) := by decide +kernel
theorem dX8_swaps_58 : decode cX8_swaps 58 = .ok (.invokevirtual 190, 3) := by decide +kernel
theorem dX8_swaps_61 : decode cX8_swaps 61 = .ok (.iload_n 1, 1) := by decide +kernel
theorem dX8_swaps_62 : decode cX8_swaps 62 = .ok (.if_icmp .le 6, 3) := by decide +kernel
theorem dX8_swaps_65 : decode cX8_swaps 65 = .ok (.iinc 2 1, 3) := by decide +kernel
theorem dX8_swaps_68 : decode cX8_swaps 68 = .ok (.iinc 4 1, 3) := by decide +kernel
theorem dX8_swaps_71 : decode cX8_swaps 71 = .ok (.goto (-24), 3) := by decide +kernel
theorem dX8_swaps_74 : decode cX8_swaps 74 = .ok (.iinc 3 1, 3) := by decide +kernel
theorem dX8_swaps_77 : decode cX8_swaps 77 = .ok (.goto (-41), 3) := by decide +kernel
theorem dX8_swaps_80 : decode cX8_swaps 80 = .ok (.iload_n 2, 1) := by decide +kernel
theorem dX8_swaps_81 : decode cX8_swaps 81 = .ok (.ireturn, 1) := by decide +kernel
set_option maxRecDepth 20000 in
theorem ggX8_found_X8_hasCave : GoodIn wsX8_found wsX8_hasCave := goodIn_r _ [7, 8, 22, 23, 24, 25, 26, 27, 28, 29, 30, 31, 32, 33, 34] (by decide +kernel) (by decide +kernel)
set_option maxRecDepth 20000 in
theorem gX8_found_X8_hasCave : GoodIn wsX8_found (wsV RX8 161 RX8 yX8_hasCave wsX8_hasCave) := goodIn_app (goodIn_of _ (by decide +kernel)) ggX8_found_X8_hasCave
set_option maxRecDepth 20000 in
theorem ggX8_found_X8_isFit : GoodIn wsX8_found wsX8_isFit := goodIn_r _ [11] (by decide +kernel) (by decide +kernel)
set_option maxRecDepth 20000 in
theorem gX8_found_X8_isFit : GoodIn wsX8_found (va_wsS RX8 176 yX8_isFit wsX8_isFit) := goodIn_app (goodIn_of _ (by decide +kernel)) ggX8_found_X8_isFit
set_option maxRecDepth 20000 in
theorem ggX8_found_X3_addFound : GoodIn wsX8_found wsX3_addFound := goodIn_r _ [16, 17, 18, 19, 20, 6, 21, 35, 36, 37, 38, 39, 40, 41, 42, 43] (by decide +kernel) (by decide +kernel)
set_option maxRecDepth 20000 in
theorem gX8_found_X3_addFound : GoodIn wsX8_found (wsV RX8 197 RX3 yX3_addFound wsX3_addFound) := goodIn_app (goodIn_of _ (by decide +kernel)) ggX8_found_X3_addFound
theorem dX8_found_0 : decode cX8_found 0 = .ok (.aload_n 0, 1) := by decide +kernel
theorem dX8_found_1 : decode cX8_found 1 = .ok (.invokevirtual 161, 3) := by decide +kernel
theorem dX8_found_4 : decode cX8_found 4 = .ok (.ifCond .eq 13, 3) := by decide +kernel
theorem dX8_found_7 : decode cX8_found 7 = .ok (.iload_n 1, 1) := by decide +kernel
theorem dX8_found_8 : decode cX8_found 8 = .ok (.ifCond .lt 9, 3) := by decide +kernel
theorem dX8_found_11 : decode cX8_found 11 = .ok (.iload_n 1, 1) := by decide +kernel
theorem dX8_found_12 : decode cX8_found 12 = .ok (.bipush 8, 2) := by decide +kernel
theorem dX8_found_14 : decode cX8_found 14 = .ok (.if_icmp .le 6, 3) := by decide +kernel
theorem dX8_found_17 : decode cX8_found 17 = .ok (.bipush (-101), 2) := by decide +kernel
theorem dX8_found_19 : decode cX8_found 19 = .ok (.ireturn, 1) := by decide +kernel
theorem dX8_found_20 : decode cX8_found 20 = .ok (.iload_n 2, 1) := by decide +kernel
theorem dX8_found_21 : decode cX8_found 21 = .ok (.invokestatic 176, 3) := by decide +kernel
theorem dX8_found_24 : decode cX8_found 24 = .ok (.ifCond .ne 6, 3) := by decide +kernel
theorem dX8_found_27 : decode cX8_found 27 = .ok (.bipush (-102), 2) := by decide +kernel
theorem dX8_found_29 : decode cX8_found 29 = .ok (.ireturn, 1) := by decide +kernel
