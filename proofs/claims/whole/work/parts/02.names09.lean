theorem dX8_whereToLook_14 : decode cX8_whereToLook 14 = .ok (.aload_n 0, 1) := by decide +kernel
theorem dX8_whereToLook_15 : decode cX8_whereToLook 15 = .ok (.getfield 46, 3) := by decide +kernel
theorem dX8_whereToLook_18 : decode cX8_whereToLook 18 = .ok (.invokestatic 260, 3) := by decide +kernel
theorem dX8_whereToLook_21 : decode cX8_whereToLook 21 = .ok (.iconst 0, 1) := by decide +kernel
theorem dX8_whereToLook_22 : decode cX8_whereToLook 22 = .ok (.istore_n 2, 1) := by decide +kernel
theorem dX8_whereToLook_23 : decode cX8_whereToLook 23 = .ok (.iconst (-1), 1) := by decide +kernel
theorem dX8_whereToLook_24 : decode cX8_whereToLook 24 = .ok (.istore_n 3, 1) := by decide +kernel
theorem dX8_whereToLook_25 : decode cX8_whereToLook 25 = .ok (.iload_n 3, 1) := by decide +kernel
theorem dX8_whereToLook_26 : decode cX8_whereToLook 26 = .ok (.aload_n 0, 1) := by decide +kernel
theorem dX8_whereToLook_27 : decode cX8_whereToLook 27 = .ok (.getfield 84, 3) := by decide +kernel
theorem dX8_whereToLook_30 : decode cX8_whereToLook 30 = .ok (.if_icmp .ge 24, 3) := by decide +kernel
theorem dX8_whereToLook_33 : decode cX8_whereToLook 33 = .ok (.aload_n 0, 1) := by decide +kernel
theorem dX8_whereToLook_34 : decode cX8_whereToLook 34 = .ok (.iload_n 1, 1) := by decide +kernel
theorem dX8_whereToLook_35 : decode cX8_whereToLook 35 = .ok (.iload_n 3, 1) := by decide +kernel
theorem dX8_whereToLook_36 : decode cX8_whereToLook 36 = .ok (.invokevirtual 253, 3) := by decide +kernel
theorem dX8_whereToLook_39 : decode cX8_whereToLook 39 = .ok (.ifCond .eq 9, 3) := by decide +kernel
theorem dX8_whereToLook_42 : decode cX8_whereToLook 42 = .ok (.iconst 1, 1) := by decide +kernel
theorem dX8_whereToLook_43 : decode cX8_whereToLook 43 = .ok (.istore_n 2, 1) := by decide +kernel
theorem dX8_whereToLook_44 : decode cX8_whereToLook 44 = .ok (.aload_n 0, 1) := by decide +kernel
theorem dX8_whereToLook_45 : decode cX8_whereToLook 45 = .ok (.invokevirtual 263, 3) := by decide +kernel
theorem dX8_whereToLook_48 : decode cX8_whereToLook 48 = .ok (.iinc 3 1, 3) := by decide +kernel
theorem dX8_whereToLook_51 : decode cX8_whereToLook 51 = .ok (.goto (-26), 3) := by decide +kernel
theorem dX8_whereToLook_54 : decode cX8_whereToLook 54 = .ok (.iload_n 2, 1) := by decide +kernel
theorem dX8_whereToLook_55 : decode cX8_whereToLook 55 = .ok (.ifCond .eq 10, 3) := by decide +kernel
theorem dX8_whereToLook_58 : decode cX8_whereToLook 58 = .ok (.aload_n 0, 1) := by decide +kernel
theorem dX8_whereToLook_59 : decode cX8_whereToLook 59 = .ok (.invokevirtual 266, 3) := by decide +kernel
theorem dX8_whereToLook_62 : decode cX8_whereToLook 62 = .ok (.goto 4, 3) := by decide +kernel
theorem dX8_whereToLook_65 : decode cX8_whereToLook 65 = .ok (.iconst (-1), 1) := by decide +kernel
theorem dX8_whereToLook_66 : decode cX8_whereToLook 66 = .ok (.ireturn, 1) := by decide +kernel
set_option maxRecDepth 20000 in
theorem ggX8_tallyTrial_X8_at : GoodIn wsX8_tallyTrial wsX8_at := goodIn_r _ [7] (by decide +kernel) (by decide +kernel)
set_option maxRecDepth 20000 in
theorem gX8_tallyTrial_X8_at : GoodIn wsX8_tallyTrial (va_wsS RX8 103 yX8_at wsX8_at) := goodIn_app (goodIn_of _ (by decide +kernel)) ggX8_tallyTrial_X8_at
set_option maxRecDepth 20000 in
theorem ggX8_tallyTrial_X8_put : GoodIn wsX8_tallyTrial wsX8_put := goodIn_r _ [10] (by decide +kernel) (by decide +kernel)
set_option maxRecDepth 20000 in
theorem gX8_tallyTrial_X8_put : GoodIn wsX8_tallyTrial (va_wsS RX8 135 yX8_put wsX8_put) := goodIn_app (goodIn_of _ (by decide +kernel)) ggX8_tallyTrial_X8_put
theorem dX8_tallyTrial_0 : decode cX8_tallyTrial 0 = .ok (.iconst 0, 1) := by decide +kernel
theorem dX8_tallyTrial_1 : decode cX8_tallyTrial 1 = .ok (.istore_n 1, 1) := by decide +kernel
theorem dX8_tallyTrial_2 : decode cX8_tallyTrial 2 = .ok (.iload_n 1, 1) := by decide +kernel
theorem dX8_tallyTrial_3 : decode cX8_tallyTrial 3 = .ok (.bipush 8, 2) := by decide +kernel
theorem dX8_tallyTrial_5 : decode cX8_tallyTrial 5 = .ok (.if_icmp .gt 44, 3) := by decide +kernel
theorem dX8_tallyTrial_8 : decode cX8_tallyTrial 8 = .ok (.iload_n 1, 1) := by decide +kernel
theorem dX8_tallyTrial_9 : decode cX8_tallyTrial 9 = .ok (.bipush 10, 2) := by decide +kernel
theorem dX8_tallyTrial_11 : decode cX8_tallyTrial 11 = .ok (.imul, 1) := by decide +kernel
theorem dX8_tallyTrial_12 : decode cX8_tallyTrial 12 = .ok (.aload_n 0, 1) := by decide +kernel
theorem dX8_tallyTrial_13 : decode cX8_tallyTrial 13 = .ok (.getfield 35, 3) := by decide +kernel
theorem dX8_tallyTrial_16 : decode cX8_tallyTrial 16 = .ok (.getfield 143, 3) := by decide +kernel
theorem dX8_tallyTrial_19 : decode cX8_tallyTrial 19 = .ok (.iload_n 1, 1) := by decide +kernel
theorem dX8_tallyTrial_20 : decode cX8_tallyTrial 20 = .ok (.invokestatic 103, 3) := by decide +kernel
theorem dX8_tallyTrial_23 : decode cX8_tallyTrial 23 = .ok (.iadd, 1) := by decide +kernel
theorem dX8_tallyTrial_24 : decode cX8_tallyTrial 24 = .ok (.istore_n 2, 1) := by decide +kernel
theorem dX8_tallyTrial_25 : decode cX8_tallyTrial 25 = .ok (.aload_n 0, 1) := by decide +kernel
theorem dX8_tallyTrial_26 : decode cX8_tallyTrial 26 = .ok (.getfield 46, 3) := by decide +kernel
theorem dX8_tallyTrial_29 : decode cX8_tallyTrial 29 = .ok (.iload_n 2, 1) := by decide +kernel
theorem dX8_tallyTrial_30 : decode cX8_tallyTrial 30 = .ok (.aload_n 0, 1) := by decide +kernel
theorem dX8_tallyTrial_31 : decode cX8_tallyTrial 31 = .ok (.getfield 46, 3) := by decide +kernel
theorem dX8_tallyTrial_34 : decode cX8_tallyTrial 34 = .ok (.iload_n 2, 1) := by decide +kernel
theorem dX8_tallyTrial_35 : decode cX8_tallyTrial 35 = .ok (.invokestatic 103, 3) := by decide +kernel
theorem dX8_tallyTrial_38 : decode cX8_tallyTrial 38 = .ok (.iconst 1, 1) := by decide +kernel
theorem dX8_tallyTrial_39 : decode cX8_tallyTrial 39 = .ok (.iadd, 1) := by decide +kernel
theorem dX8_tallyTrial_40 : decode cX8_tallyTrial 40 = .ok (.invokestatic 135, 3) := by decide +kernel
theorem dX8_tallyTrial_43 : decode cX8_tallyTrial 43 = .ok (.iinc 1 1, 3) := by decide +kernel
theorem dX8_tallyTrial_46 : decode cX8_tallyTrial 46 = .ok (.goto (-44), 3) := by decide +kernel
theorem dX8_tallyTrial_49 : decode cX8_tallyTrial 49 = .ok (.return_, 1) := by decide +kernel
set_option maxRecDepth 20000 in
theorem ggX8_leastWorstPlace_X8_at : GoodIn wsX8_leastWorstPlace wsX8_at := goodIn_r _ [9] (by decide +kernel) (by decide +kernel)
set_option maxRecDepth 20000 in
theorem gX8_leastWorstPlace_X8_at : GoodIn wsX8_leastWorstPlace (va_wsS RX8 103 yX8_at wsX8_at) := goodIn_app (goodIn_of _ (by decide +kernel)) ggX8_leastWorstPlace_X8_at
theorem dX8_leastWorstPlace_0 : decode cX8_leastWorstPlace 0 = .ok (.iconst (-1), 1) := by decide +kernel
theorem dX8_leastWorstPlace_1 : decode cX8_leastWorstPlace 1 = .ok (.istore_n 1, 1) := by decide +kernel
theorem dX8_leastWorstPlace_2 : decode cX8_leastWorstPlace 2 = .ok (.bipush 6, 2) := by decide +kernel
theorem dX8_leastWorstPlace_4 : decode cX8_leastWorstPlace 4 = .ok (.istore_n 2, 1) := by decide +kernel
theorem dX8_leastWorstPlace_5 : decode cX8_leastWorstPlace 5 = .ok (.iconst 0, 1) := by decide +kernel
theorem dX8_leastWorstPlace_6 : decode cX8_leastWorstPlace 6 = .ok (.istore_n 3, 1) := by decide +kernel
theorem dX8_leastWorstPlace_7 : decode cX8_leastWorstPlace 7 = .ok (.iload_n 3, 1) := by decide +kernel
theorem dX8_leastWorstPlace_8 : decode cX8_leastWorstPlace 8 = .ok (.bipush 8, 2) := by decide +kernel
theorem dX8_leastWorstPlace_10 : decode cX8_leastWorstPlace 10 = .ok (.if_icmp .gt 60, 3) := by decide +kernel
theorem dX8_leastWorstPlace_13 : decode cX8_leastWorstPlace 13 = .ok (.iconst 0, 1) := by decide +kernel
theorem dX8_leastWorstPlace_14 : decode cX8_leastWorstPlace 14 = .ok (.istore 4, 2) := by decide +kernel
theorem dX8_leastWorstPlace_16 : decode cX8_leastWorstPlace 16 = .ok (.iconst 0, 1) := by decide +kernel
theorem dX8_leastWorstPlace_17 : decode cX8_leastWorstPlace 17 = .ok (.istore 5, 2) := by decide +kernel
theorem dX8_leastWorstPlace_19 : decode cX8_leastWorstPlace 19 = .ok (.iload 5, 2) := by decide +kernel
theorem dX8_leastWorstPlace_21 : decode cX8_leastWorstPlace 21 = .ok (.bipush 10, 2) := by decide +kernel
theorem dX8_leastWorstPlace_23 : decode cX8_leastWorstPlace 23 = .ok (.if_icmp .ge 30, 3) := by decide +kernel
theorem dX8_leastWorstPlace_26 : decode cX8_leastWorstPlace 26 = .ok (.iload 4, 2) := by decide +kernel
theorem dX8_leastWorstPlace_28 : decode cX8_leastWorstPlace 28 = .ok (.aload_n 0, 1) := by decide +kernel
theorem dX8_leastWorstPlace_29 : decode cX8_leastWorstPlace 29 = .ok (.getfield 46, 3) := by decide +kernel
theorem dX8_leastWorstPlace_32 : decode cX8_leastWorstPlace 32 = .ok (.iload_n 3, 1) := by decide +kernel
theorem dX8_leastWorstPlace_33 : decode cX8_leastWorstPlace 33 = .ok (.bipush 10, 2) := by decide +kernel
theorem dX8_leastWorstPlace_35 : decode cX8_leastWorstPlace 35 = .ok (.imul, 1) := by decide +kernel
theorem dX8_leastWorstPlace_36 : decode cX8_leastWorstPlace 36 = .ok (.iload 5, 2) := by decide +kernel
theorem dX8_leastWorstPlace_38 : decode cX8_leastWorstPlace 38 = .ok (.iadd, 1) := by decide +kernel
theorem dX8_leastWorstPlace_39 : decode cX8_leastWorstPlace 39 = .ok (.invokestatic 103, 3) := by decide +kernel
theorem dX8_leastWorstPlace_42 : decode cX8_leastWorstPlace 42 = .ok (.invokestatic 269, 3) := by decide +kernel
theorem dX8_leastWorstPlace_45 : decode cX8_leastWorstPlace 45 = .ok (.istore 4, 2) := by decide +kernel
theorem dX8_leastWorstPlace_47 : decode cX8_leastWorstPlace 47 = .ok (.iinc 5 1, 3) := by decide +kernel
theorem dX8_leastWorstPlace_50 : decode cX8_leastWorstPlace 50 = .ok (.goto (-31), 3) := by decide +kernel
theorem dX8_leastWorstPlace_53 : decode cX8_leastWorstPlace 53 = .ok (.iload 4, 2) := by decide +kernel
theorem dX8_leastWorstPlace_55 : decode cX8_leastWorstPlace 55 = .ok (.iload_n 2, 1) := by decide +kernel
theorem dX8_leastWorstPlace_56 : decode cX8_leastWorstPlace 56 = .ok (.if_icmp .ge 8, 3) := by decide +kernel
theorem dX8_leastWorstPlace_59 : decode cX8_leastWorstPlace 59 = .ok (.iload 4, 2) := by decide +kernel
theorem dX8_leastWorstPlace_61 : decode cX8_leastWorstPlace 61 = .ok (.istore_n 2, 1) := by decide +kernel
theorem dX8_leastWorstPlace_62 : decode cX8_leastWorstPlace 62 = .ok (.iload_n 3, 1) := by decide +kernel
theorem dX8_leastWorstPlace_63 : decode cX8_leastWorstPlace 63 = .ok (.istore_n 1, 1) := by decide +kernel
theorem dX8_leastWorstPlace_64 : decode cX8_leastWorstPlace 64 = .ok (.iinc 3 1, 3) := by decide +kernel
theorem dX8_leastWorstPlace_67 : decode cX8_leastWorstPlace 67 = .ok (.goto (-60), 3) := by decide +kernel
theorem dX8_leastWorstPlace_70 : decode cX8_leastWorstPlace 70 = .ok (.iload_n 1, 1) := by decide +kernel
theorem dX8_leastWorstPlace_71 : decode cX8_leastWorstPlace 71 = .ok (.ireturn, 1) := by decide +kernel
set_option maxRecDepth 20000 in
theorem ggX8_planByDraws_X8_nextSeed : GoodIn wsX8_planByDraws wsX8_nextSeed := goodIn_r _ [11, 12, 13, 14] (by decide +kernel) (by decide +kernel)
set_option maxRecDepth 20000 in
theorem gX8_planByDraws_X8_nextSeed : GoodIn wsX8_planByDraws (va_wsS RX8 274 yX8_nextSeed wsX8_nextSeed) := goodIn_app (goodIn_of _ (by decide +kernel)) ggX8_planByDraws_X8_nextSeed
set_option maxRecDepth 20000 in
theorem ggX8_planByDraws_X8_put : GoodIn wsX8_planByDraws wsX8_put := goodIn_r _ [17] (by decide +kernel) (by decide +kernel)
set_option maxRecDepth 20000 in
theorem gX8_planByDraws_X8_put : GoodIn wsX8_planByDraws (va_wsS RX8 135 yX8_put wsX8_put) := goodIn_app (goodIn_of _ (by decide +kernel)) ggX8_planByDraws_X8_put
theorem dX8_planByDraws_0 : decode cX8_planByDraws 0 = .ok (.iload_n 1, 1) := by decide +kernel
theorem dX8_planByDraws_1 : decode cX8_planByDraws 1 = .ok (.istore_n 2, 1) := by decide +kernel
theorem dX8_planByDraws_2 : decode cX8_planByDraws 2 = .ok (.iconst 1, 1) := by decide +kernel
theorem dX8_planByDraws_3 : decode cX8_planByDraws 3 = .ok (.aload_n 0, 1) := by decide +kernel
theorem dX8_planByDraws_4 : decode cX8_planByDraws 4 = .ok (.getfield 84, 3) := by decide +kernel
theorem dX8_planByDraws_7 : decode cX8_planByDraws 7 = .ok (.iconst 1, 1) := by decide +kernel
theorem dX8_planByDraws_8 : decode cX8_planByDraws 8 = .ok (.iadd, 1) := by decide +kernel
theorem dX8_planByDraws_9 : decode cX8_planByDraws 9 = .ok (.invokestatic 269, 3) := by decide +kernel
theorem dX8_planByDraws_12 : decode cX8_planByDraws 12 = .ok (.istore_n 3, 1) := by decide +kernel
theorem dX8_planByDraws_13 : decode cX8_planByDraws 13 = .ok (.iconst 0, 1) := by decide +kernel
theorem dX8_planByDraws_14 : decode cX8_planByDraws 14 = .ok (.istore 4, 2) := by decide +kernel
theorem dX8_planByDraws_16 : decode cX8_planByDraws 16 = .ok (.iload 4, 2) := by decide +kernel
theorem dX8_planByDraws_18 : decode cX8_planByDraws 18 = .ok (.bipush 8, 2) := by decide +kernel
theorem dX8_planByDraws_20 : decode cX8_planByDraws 20 = .ok (.if_icmp .ge 47, 3) := by decide +kernel
theorem dX8_planByDraws_23 : decode cX8_planByDraws 23 = .ok (.iload_n 2, 1) := by decide +kernel
theorem dX8_planByDraws_24 : decode cX8_planByDraws 24 = .ok (.invokestatic 274, 3) := by decide +kernel
theorem dX8_planByDraws_27 : decode cX8_planByDraws 27 = .ok (.istore_n 2, 1) := by decide +kernel
theorem dX8_planByDraws_28 : decode cX8_planByDraws 28 = .ok (.iload_n 2, 1) := by decide +kernel
theorem dX8_planByDraws_29 : decode cX8_planByDraws 29 = .ok (.ldc_w 277, 3) := by decide +kernel
theorem dX8_planByDraws_32 : decode cX8_planByDraws 32 = .ok (.idiv, 1) := by decide +kernel
theorem dX8_planByDraws_33 : decode cX8_planByDraws 33 = .ok (.iload_n 3, 1) := by decide +kernel
theorem dX8_planByDraws_34 : decode cX8_planByDraws 34 = .ok (.irem, 1) := by decide +kernel
theorem dX8_planByDraws_35 : decode cX8_planByDraws 35 = .ok (.istore 5, 2) := by decide +kernel
theorem dX8_planByDraws_37 : decode cX8_planByDraws 37 = .ok (.aload_n 0, 1) := by decide +kernel
theorem dX8_planByDraws_38 : decode cX8_planByDraws 38 = .ok (.getfield 39, 3) := by decide +kernel
theorem dX8_planByDraws_41 : decode cX8_planByDraws 41 = .ok (.iload 4, 2) := by decide +kernel
theorem dX8_planByDraws_43 : decode cX8_planByDraws 43 = .ok (.iload 5, 2) := by decide +kernel
theorem dX8_planByDraws_45 : decode cX8_planByDraws 45 = .ok (.aload_n 0, 1) := by decide +kernel
theorem dX8_planByDraws_46 : decode cX8_planByDraws 46 = .ok (.getfield 84, 3) := by decide +kernel
theorem dX8_planByDraws_49 : decode cX8_planByDraws 49 = .ok (.if_icmp .ne 7, 3) := by decide +kernel
theorem dX8_planByDraws_52 : decode cX8_planByDraws 52 = .ok (.iconst (-1), 1) := by decide +kernel
theorem dX8_planByDraws_53 : decode cX8_planByDraws 53 = .ok (.goto 5, 3) := by decide +kernel
theorem dX8_planByDraws_56 : decode cX8_planByDraws 56 = .ok (.iload 5, 2) := by decide +kernel
theorem dX8_planByDraws_58 : decode cX8_planByDraws 58 = .ok (.invokestatic 135, 3) := by decide +kernel
theorem dX8_planByDraws_61 : decode cX8_planByDraws 61 = .ok (.iinc 4 1, 3) := by decide +kernel
theorem dX8_planByDraws_64 : decode cX8_planByDraws 64 = .ok (.goto (-48), 3) := by decide +kernel
theorem dX8_planByDraws_67 : decode cX8_planByDraws 67 = .ok (.iload_n 2, 1) := by decide +kernel
theorem dX8_planByDraws_68 : decode cX8_planByDraws 68 = .ok (.ireturn, 1) := by decide +kernel
theorem dX8_nextSeed_0 : decode cX8_nextSeed 0 = .ok (.ldc2_w 278, 3) := by decide +kernel
theorem dX8_nextSeed_3 : decode cX8_nextSeed 3 = .ok (.iload_n 0, 1) := by decide +kernel
theorem dX8_nextSeed_4 : decode cX8_nextSeed 4 = .ok (.i2l, 1) := by decide +kernel
theorem dX8_nextSeed_5 : decode cX8_nextSeed 5 = .ok (.lmul, 1) := by decide +kernel
theorem dX8_nextSeed_6 : decode cX8_nextSeed 6 = .ok (.ldc2_w 280, 3) := by decide +kernel
theorem dX8_nextSeed_9 : decode cX8_nextSeed 9 = .ok (.ladd, 1) := by decide +kernel
theorem dX8_nextSeed_10 : decode cX8_nextSeed 10 = .ok (.ldc2_w 282, 3) := by decide +kernel
theorem dX8_nextSeed_13 : decode cX8_nextSeed 13 = .ok (.land, 1) := by decide +kernel
theorem dX8_nextSeed_14 : decode cX8_nextSeed 14 = .ok (.l2i, 1) := by decide +kernel
theorem dX8_nextSeed_15 : decode cX8_nextSeed 15 = .ok (.ireturn, 1) := by decide +kernel
theorem dX8_isOfKind_0 : decode cX8_isOfKind 0 = .ok (.iload_n 1, 1) := by decide +kernel
theorem dX8_isOfKind_1 : decode cX8_isOfKind 1 = .ok (.tableswitch 57 0 4 #[35, 37, 42, 47, 52], 35) := by decide +kernel
theorem dX8_isOfKind_36 : decode cX8_isOfKind 36 = .ok (.iconst 1, 1) := by decide +kernel
theorem dX8_isOfKind_37 : decode cX8_isOfKind 37 = .ok (.ireturn, 1) := by decide +kernel
theorem dX8_isOfKind_38 : decode cX8_isOfKind 38 = .ok (.aload_n 0, 1) := by decide +kernel
theorem dX8_isOfKind_39 : decode cX8_isOfKind 39 = .ok (.instanceof 284, 3) := by decide +kernel
theorem dX8_isOfKind_42 : decode cX8_isOfKind 42 = .ok (.ireturn, 1) := by decide +kernel
theorem dX8_isOfKind_43 : decode cX8_isOfKind 43 = .ok (.aload_n 0, 1) := by decide +kernel
theorem dX8_isOfKind_44 : decode cX8_isOfKind 44 = .ok (.instanceof 286, 3) := by decide +kernel
theorem dX8_isOfKind_47 : decode cX8_isOfKind 47 = .ok (.ireturn, 1) := by decide +kernel
theorem dX8_isOfKind_48 : decode cX8_isOfKind 48 = .ok (.aload_n 0, 1) := by decide +kernel
theorem dX8_isOfKind_49 : decode cX8_isOfKind 49 = .ok (.instanceof 288, 3) := by decide +kernel
theorem dX8_isOfKind_52 : decode cX8_isOfKind 52 = .ok (.ireturn, 1) := by decide +kernel
theorem dX8_isOfKind_53 : decode cX8_isOfKind 53 = .ok (.aload_n 0, 1) := by decide +kernel
theorem dX8_isOfKind_54 : decode cX8_isOfKind 54 = .ok (.instanceof 290, 3) := by decide +kernel
theorem dX8_isOfKind_57 : decode cX8_isOfKind 57 = .ok (.ireturn, 1) := by decide +kernel
theorem dX8_isOfKind_58 : decode cX8_isOfKind 58 = .ok (.iconst 0, 1) := by decide +kernel
theorem dX8_isOfKind_59 : decode cX8_isOfKind 59 = .ok (.ireturn, 1) := by decide +kernel
theorem dX8_at_0 : decode cX8_at 0 = .ok (.iload_n 1, 1) := by decide +kernel
theorem dX8_at_1 : decode cX8_at 1 = .ok (.ifCond .lt 15, 3) := by decide +kernel
theorem dX8_at_4 : decode cX8_at 4 = .ok (.iload_n 1, 1) := by decide +kernel
theorem dX8_at_5 : decode cX8_at 5 = .ok (.aload_n 0, 1) := by decide +kernel
theorem dX8_at_6 : decode cX8_at 6 = .ok (.arraylength, 1) := by decide +kernel
theorem dX8_at_7 : decode cX8_at 7 = .ok (.if_icmp .ge 9, 3) := by decide +kernel
theorem dX8_at_10 : decode cX8_at 10 = .ok (.aload_n 0, 1) := by decide +kernel
theorem dX8_at_11 : decode cX8_at 11 = .ok (.iload_n 1, 1) := by decide +kernel
theorem dX8_at_12 : decode cX8_at 12 = .ok (.iaload, 1) := by decide +kernel
theorem dX8_at_13 : decode cX8_at 13 = .ok (.goto 4, 3) := by decide +kernel
theorem dX8_at_16 : decode cX8_at 16 = .ok (.iconst 0, 1) := by decide +kernel
theorem dX8_at_17 : decode cX8_at 17 = .ok (.ireturn, 1) := by decide +kernel
theorem dX8_put_0 : decode cX8_put 0 = .ok (.iload_n 1, 1) := by decide +kernel
theorem dX8_put_1 : decode cX8_put 1 = .ok (.ifCond .lt 13, 3) := by decide +kernel
theorem dX8_put_4 : decode cX8_put 4 = .ok (.iload_n 1, 1) := by decide +kernel
theorem dX8_put_5 : decode cX8_put 5 = .ok (.aload_n 0, 1) := by decide +kernel
theorem dX8_put_6 : decode cX8_put 6 = .ok (.arraylength, 1) := by decide +kernel
theorem dX8_put_7 : decode cX8_put 7 = .ok (.if_icmp .ge 7, 3) := by decide +kernel
theorem dX8_put_10 : decode cX8_put 10 = .ok (.aload_n 0, 1) := by decide +kernel
theorem dX8_put_11 : decode cX8_put 11 = .ok (.iload_n 1, 1) := by decide +kernel
theorem dX8_put_12 : decode cX8_put 12 = .ok (.iload_n 2, 1) := by decide +kernel
theorem dX8_put_13 : decode cX8_put 13 = .ok (.iastore, 1) := by decide +kernel
theorem dX8_put_14 : decode cX8_put 14 = .ok (.return_, 1) := by decide +kernel
theorem dX8_copy_0 : decode cX8_copy 0 = .ok (.iconst 0, 1) := by decide +kernel
theorem dX8_copy_1 : decode cX8_copy 1 = .ok (.istore_n 2, 1) := by decide +kernel
theorem dX8_copy_2 : decode cX8_copy 2 = .ok (.iload_n 2, 1) := by decide +kernel
theorem dX8_copy_3 : decode cX8_copy 3 = .ok (.aload_n 0, 1) := by decide +kernel
theorem dX8_copy_4 : decode cX8_copy 4 = .ok (.arraylength, 1) := by decide +kernel
theorem dX8_copy_5 : decode cX8_copy 5 = .ok (.if_icmp .ge 21, 3) := by decide +kernel
theorem dX8_copy_8 : decode cX8_copy 8 = .ok (.iload_n 2, 1) := by decide +kernel
theorem dX8_copy_9 : decode cX8_copy 9 = .ok (.aload_n 1, 1) := by decide +kernel
theorem dX8_copy_10 : decode cX8_copy 10 = .ok (.arraylength, 1) := by decide +kernel
theorem dX8_copy_11 : decode cX8_copy 11 = .ok (.if_icmp .ge 15, 3) := by decide +kernel
theorem dX8_copy_14 : decode cX8_copy 14 = .ok (.aload_n 1, 1) := by decide +kernel
theorem dX8_copy_15 : decode cX8_copy 15 = .ok (.iload_n 2, 1) := by decide +kernel
theorem dX8_copy_16 : decode cX8_copy 16 = .ok (.aload_n 0, 1) := by decide +kernel
theorem dX8_copy_17 : decode cX8_copy 17 = .ok (.iload_n 2, 1) := by decide +kernel
theorem dX8_copy_18 : decode cX8_copy 18 = .ok (.iaload, 1) := by decide +kernel
theorem dX8_copy_19 : decode cX8_copy 19 = .ok (.iastore, 1) := by decide +kernel
theorem dX8_copy_20 : decode cX8_copy 20 = .ok (.iinc 2 1, 3) := by decide +kernel
theorem dX8_copy_23 : decode cX8_copy 23 = .ok (.goto (-21), 3) := by decide +kernel
theorem dX8_copy_26 : decode cX8_copy 26 = .ok (.return_, 1) := by decide +kernel
theorem dX8_clear_0 : decode cX8_clear 0 = .ok (.iconst 0, 1) := by decide +kernel
theorem dX8_clear_1 : decode cX8_clear 1 = .ok (.istore_n 1, 1) := by decide +kernel
theorem dX8_clear_2 : decode cX8_clear 2 = .ok (.iload_n 1, 1) := by decide +kernel
theorem dX8_clear_3 : decode cX8_clear 3 = .ok (.aload_n 0, 1) := by decide +kernel
theorem dX8_clear_4 : decode cX8_clear 4 = .ok (.arraylength, 1) := by decide +kernel
theorem dX8_clear_5 : decode cX8_clear 5 = .ok (.if_icmp .ge 13, 3) := by decide +kernel
theorem dX8_clear_8 : decode cX8_clear 8 = .ok (.aload_n 0, 1) := by decide +kernel
theorem dX8_clear_9 : decode cX8_clear 9 = .ok (.iload_n 1, 1) := by decide +kernel
theorem dX8_clear_10 : decode cX8_clear 10 = .ok (.iconst 0, 1) := by decide +kernel
theorem dX8_clear_11 : decode cX8_clear 11 = .ok (.iastore, 1) := by decide +kernel
theorem dX8_clear_12 : decode cX8_clear 12 = .ok (.iinc 1 1, 3) := by decide +kernel
theorem dX8_clear_15 : decode cX8_clear 15 = .ok (.goto (-13), 3) := by decide +kernel
theorem dX8_clear_18 : decode cX8_clear 18 = .ok (.return_, 1) := by decide +kernel
theorem dX8_sum_0 : decode cX8_sum 0 = .ok (.iconst 0, 1) := by decide +kernel
theorem dX8_sum_1 : decode cX8_sum 1 = .ok (.istore_n 1, 1) := by decide +kernel
theorem dX8_sum_2 : decode cX8_sum 2 = .ok (.iconst 0, 1) := by decide +kernel
theorem dX8_sum_3 : decode cX8_sum 3 = .ok (.istore_n 2, 1) := by decide +kernel
theorem dX8_sum_4 : decode cX8_sum 4 = .ok (.iload_n 2, 1) := by decide +kernel
theorem dX8_sum_5 : decode cX8_sum 5 = .ok (.aload_n 0, 1) := by decide +kernel
theorem dX8_sum_6 : decode cX8_sum 6 = .ok (.arraylength, 1) := by decide +kernel
theorem dX8_sum_7 : decode cX8_sum 7 = .ok (.if_icmp .ge 15, 3) := by decide +kernel
theorem dX8_sum_10 : decode cX8_sum 10 = .ok (.iload_n 1, 1) := by decide +kernel
theorem dX8_sum_11 : decode cX8_sum 11 = .ok (.aload_n 0, 1) := by decide +kernel
theorem dX8_sum_12 : decode cX8_sum 12 = .ok (.iload_n 2, 1) := by decide +kernel
theorem dX8_sum_13 : decode cX8_sum 13 = .ok (.iaload, 1) := by decide +kernel
theorem dX8_sum_14 : decode cX8_sum 14 = .ok (.iadd, 1) := by decide +kernel
theorem dX8_sum_15 : decode cX8_sum 15 = .ok (.istore_n 1, 1) := by decide +kernel
theorem dX8_sum_16 : decode cX8_sum 16 = .ok (.iinc 2 1, 3) := by decide +kernel
theorem dX8_sum_19 : decode cX8_sum 19 = .ok (.goto (-15), 3) := by decide +kernel
theorem dX8_sum_22 : decode cX8_sum 22 = .ok (.iload_n 1, 1) := by decide +kernel
theorem dX8_sum_23 : decode cX8_sum 23 = .ok (.ireturn, 1) := by decide +kernel
theorem dX8_fatherAt_0 : decode cX8_fatherAt 0 = .ok (.iload_n 1, 1) := by decide +kernel
theorem dX8_fatherAt_1 : decode cX8_fatherAt 1 = .ok (.ifCond .lt 15, 3) := by decide +kernel
theorem dX8_fatherAt_4 : decode cX8_fatherAt 4 = .ok (.iload_n 1, 1) := by decide +kernel
theorem dX8_fatherAt_5 : decode cX8_fatherAt 5 = .ok (.aload_n 0, 1) := by decide +kernel
theorem dX8_fatherAt_6 : decode cX8_fatherAt 6 = .ok (.arraylength, 1) := by decide +kernel
theorem dX8_fatherAt_7 : decode cX8_fatherAt 7 = .ok (.if_icmp .ge 9, 3) := by decide +kernel
theorem dX8_fatherAt_10 : decode cX8_fatherAt 10 = .ok (.aload_n 0, 1) := by decide +kernel
theorem dX8_fatherAt_11 : decode cX8_fatherAt 11 = .ok (.iload_n 1, 1) := by decide +kernel
theorem dX8_fatherAt_12 : decode cX8_fatherAt 12 = .ok (.aaload, 1) := by decide +kernel
theorem dX8_fatherAt_13 : decode cX8_fatherAt 13 = .ok (.goto 4, 3) := by decide +kernel
theorem dX8_fatherAt_16 : decode cX8_fatherAt 16 = .ok (.aconst_null, 1) := by decide +kernel
theorem dX8_fatherAt_17 : decode cX8_fatherAt 17 = .ok (.areturn, 1) := by decide +kernel
theorem dX8_knows_0 : decode cX8_knows 0 = .ok (.iload_n 0, 1) := by decide +kernel
theorem dX8_knows_1 : decode cX8_knows 1 = .ok (.iconst 1, 1) := by decide +kernel
theorem dX8_knows_2 : decode cX8_knows 2 = .ok (.iload_n 1, 1) := by decide +kernel
theorem dX8_knows_3 : decode cX8_knows 3 = .ok (.ishl, 1) := by decide +kernel
theorem dX8_knows_4 : decode cX8_knows 4 = .ok (.iand, 1) := by decide +kernel
theorem dX8_knows_5 : decode cX8_knows 5 = .ok (.ifCond .eq 7, 3) := by decide +kernel
theorem dX8_knows_8 : decode cX8_knows 8 = .ok (.iconst 1, 1) := by decide +kernel
theorem dX8_knows_9 : decode cX8_knows 9 = .ok (.goto 4, 3) := by decide +kernel
theorem dX8_knows_12 : decode cX8_knows 12 = .ok (.iconst 0, 1) := by decide +kernel
theorem dX8_knows_13 : decode cX8_knows 13 = .ok (.ireturn, 1) := by decide +kernel
theorem dX9_init_0 : decode cX9_init 0 = .ok (.aload_n 0, 1) := by decide +kernel
theorem dX9_init_1 : decode cX9_init 1 = .ok (.invokespecial 1, 3) := by decide +kernel
theorem dX9_init_4 : decode cX9_init 4 = .ok (.aload_n 0, 1) := by decide +kernel
theorem dX9_init_5 : decode cX9_init 5 = .ok (.iconst 4, 1) := by decide +kernel
theorem dX9_init_6 : decode cX9_init 6 = .ok (.newarray .int, 2) := by decide +kernel
theorem dX9_init_8 : decode cX9_init 8 = .ok (.putfield 7, 3) := by decide +kernel
theorem dX9_init_11 : decode cX9_init 11 = .ok (.aload_n 0, 1) := by decide +kernel
theorem dX9_init_12 : decode cX9_init 12 = .ok (.iconst 4, 1) := by decide +kernel
theorem dX9_init_13 : decode cX9_init 13 = .ok (.newarray .int, 2) := by decide +kernel
theorem dX9_init_15 : decode cX9_init 15 = .ok (.putfield 13, 3) := by decide +kernel
theorem dX9_init_18 : decode cX9_init 18 = .ok (.aload_n 0, 1) := by decide +kernel
theorem dX9_init_19 : decode cX9_init 19 = .ok (.iconst 4, 1) := by decide +kernel
theorem dX9_init_20 : decode cX9_init 20 = .ok (.newarray .int, 2) := by decide +kernel
theorem dX9_init_22 : decode cX9_init 22 = .ok (.putfield 16, 3) := by decide +kernel
theorem dX9_init_25 : decode cX9_init 25 = .ok (.aload_n 0, 1) := by decide +kernel
theorem dX9_init_26 : decode cX9_init 26 = .ok (.iconst 4, 1) := by decide +kernel
theorem dX9_init_27 : decode cX9_init 27 = .ok (.newarray .int, 2) := by decide +kernel
theorem dX9_init_29 : decode cX9_init 29 = .ok (.putfield 19, 3) := by decide +kernel
theorem dX9_init_32 : decode cX9_init 32 = .ok (.aload_n 0, 1) := by decide +kernel
theorem dX9_init_33 : decode cX9_init 33 = .ok (.iconst 4, 1) := by decide +kernel
theorem dX9_init_34 : decode cX9_init 34 = .ok (.newarray .int, 2) := by decide +kernel
theorem dX9_init_36 : decode cX9_init 36 = .ok (.putfield 22, 3) := by decide +kernel
theorem dX9_init_39 : decode cX9_init 39 = .ok (.aload_n 0, 1) := by decide +kernel
theorem dX9_init_40 : decode cX9_init 40 = .ok (.bipush 8, 2) := by decide +kernel
theorem dX9_init_42 : decode cX9_init 42 = .ok (.newarray .int, 2) := by decide +kernel
theorem dX9_init_44 : decode cX9_init 44 = .ok (.putfield 25, 3) := by decide +kernel
theorem dX9_init_47 : decode cX9_init 47 = .ok (.aload_n 0, 1) := by decide +kernel
theorem dX9_init_48 : decode cX9_init 48 = .ok (.bipush 6, 2) := by decide +kernel
theorem dX9_init_50 : decode cX9_init 50 = .ok (.newarray .int, 2) := by decide +kernel
theorem dX9_init_52 : decode cX9_init 52 = .ok (.putfield 28, 3) := by decide +kernel
theorem dX9_init_55 : decode cX9_init 55 = .ok (.aload_n 0, 1) := by decide +kernel
theorem dX9_init_56 : decode cX9_init 56 = .ok (.bipush 6, 2) := by decide +kernel
theorem dX9_init_58 : decode cX9_init 58 = .ok (.newarray .int, 2) := by decide +kernel
theorem dX9_init_60 : decode cX9_init 60 = .ok (.putfield 31, 3) := by decide +kernel
theorem dX9_init_63 : decode cX9_init 63 = .ok (.aload_n 0, 1) := by decide +kernel
theorem dX9_init_64 : decode cX9_init 64 = .ok (.bipush 18, 2) := by decide +kernel
theorem dX9_init_66 : decode cX9_init 66 = .ok (.newarray .byte, 2) := by decide +kernel
theorem dX9_init_68 : decode cX9_init 68 = .ok (.putfield 34, 3) := by decide +kernel
theorem dX9_init_71 : decode cX9_init 71 = .ok (.aload_n 0, 1) := by decide +kernel
theorem dX9_init_72 : decode cX9_init 72 = .ok (.bipush 9, 2) := by decide +kernel
theorem dX9_init_74 : decode cX9_init 74 = .ok (.newarray .int, 2) := by decide +kernel
theorem dX9_init_76 : decode cX9_init 76 = .ok (.putfield 38, 3) := by decide +kernel
theorem dX9_init_79 : decode cX9_init 79 = .ok (.aload_n 0, 1) := by decide +kernel
theorem dX9_init_80 : decode cX9_init 80 = .ok (.bipush 8, 2) := by decide +kernel
theorem dX9_init_82 : decode cX9_init 82 = .ok (.newarray .int, 2) := by decide +kernel
theorem dX9_init_84 : decode cX9_init 84 = .ok (.putfield 41, 3) := by decide +kernel
theorem dX9_init_87 : decode cX9_init 87 = .ok (.aload_n 0, 1) := by decide +kernel
theorem dX9_init_88 : decode cX9_init 88 = .ok (.iconst 4, 1) := by decide +kernel
theorem dX9_init_89 : decode cX9_init 89 = .ok (.newarray .int, 2) := by decide +kernel
theorem dX9_init_91 : decode cX9_init 91 = .ok (.putfield 44, 3) := by decide +kernel
theorem dX9_init_94 : decode cX9_init 94 = .ok (.aload_n 0, 1) := by decide +kernel
theorem dX9_init_95 : decode cX9_init 95 = .ok (.iconst 4, 1) := by decide +kernel
theorem dX9_init_96 : decode cX9_init 96 = .ok (.newarray .int, 2) := by decide +kernel
theorem dX9_init_98 : decode cX9_init 98 = .ok (.putfield 47, 3) := by decide +kernel
theorem dX9_init_101 : decode cX9_init 101 = .ok (.aload_n 0, 1) := by decide +kernel
theorem dX9_init_102 : decode cX9_init 102 = .ok (.bipush 8, 2) := by decide +kernel
theorem dX9_init_104 : decode cX9_init 104 = .ok (.newarray .int, 2) := by decide +kernel
theorem dX9_init_106 : decode cX9_init 106 = .ok (.putfield 50, 3) := by decide +kernel
theorem dX9_init_109 : decode cX9_init 109 = .ok (.aload_n 0, 1) := by decide +kernel
theorem dX9_init_110 : decode cX9_init 110 = .ok (.bipush 45, 2) := by decide +kernel
theorem dX9_init_112 : decode cX9_init 112 = .ok (.newarray .int, 2) := by decide +kernel
theorem dX9_init_114 : decode cX9_init 114 = .ok (.putfield 53, 3) := by decide +kernel
theorem dX9_init_117 : decode cX9_init 117 = .ok (.aload_n 0, 1) := by decide +kernel
theorem dX9_init_118 : decode cX9_init 118 = .ok (.bipush 8, 2) := by decide +kernel
theorem dX9_init_120 : decode cX9_init 120 = .ok (.newarray .int, 2) := by decide +kernel
theorem dX9_init_122 : decode cX9_init 122 = .ok (.putfield 56, 3) := by decide +kernel
theorem dX9_init_125 : decode cX9_init 125 = .ok (.aload_n 0, 1) := by decide +kernel
theorem dX9_init_126 : decode cX9_init 126 = .ok (.iconst 4, 1) := by decide +kernel
theorem dX9_init_127 : decode cX9_init 127 = .ok (.newarray .int, 2) := by decide +kernel
theorem dX9_init_129 : decode cX9_init 129 = .ok (.putfield 59, 3) := by decide +kernel
theorem dX9_init_132 : decode cX9_init 132 = .ok (.aload_n 0, 1) := by decide +kernel
theorem dX9_init_133 : decode cX9_init 133 = .ok (.iconst 4, 1) := by decide +kernel
