theorem dX6_init_0 : decode cX6_init 0 = .ok (.aload_n 0, 1) := by decide +kernel
theorem dX6_init_1 : decode cX6_init 1 = .ok (.invokespecial 3, 3) := by decide +kernel
theorem dX6_init_4 : decode cX6_init 4 = .ok (.aload_n 0, 1) := by decide +kernel
theorem dX6_init_5 : decode cX6_init 5 = .ok (.bipush 10, 2) := by decide +kernel
theorem dX6_init_7 : decode cX6_init 7 = .ok (.sipush 151, 3) := by decide +kernel
theorem dX6_init_10 : decode cX6_init 10 = .ok (.multianewarray 11 2, 4) := by decide +kernel
theorem dX6_init_14 : decode cX6_init 14 = .ok (.putfield 13, 3) := by decide +kernel
theorem dX6_init_17 : decode cX6_init 17 = .ok (.aload_n 0, 1) := by decide +kernel
theorem dX6_init_18 : decode cX6_init 18 = .ok (.bipush 20, 2) := by decide +kernel
theorem dX6_init_20 : decode cX6_init 20 = .ok (.newarray .int, 2) := by decide +kernel
theorem dX6_init_22 : decode cX6_init 22 = .ok (.putfield 16, 3) := by decide +kernel
theorem dX6_init_25 : decode cX6_init 25 = .ok (.return_, 1) := by decide +kernel
set_option maxRecDepth 20000 in
theorem ggX6_find_X6_forgetSets : GoodIn wsX6_find wsX6_forgetSets := goodIn_r _ [15, 6, 7, 9, 93, 94, 95, 96, 97] (by decide +kernel) (by decide +kernel)
set_option maxRecDepth 20000 in
theorem gX6_find_X6_forgetSets : GoodIn wsX6_find (wsV RX6 33 RX6 yX6_forgetSets wsX6_forgetSets) := goodIn_app (goodIn_of _ (by decide +kernel)) ggX6_find_X6_forgetSets
set_option maxRecDepth 20000 in
theorem ggX6_find_X8_sideIn : GoodIn wsX6_find wsX8_sideIn := goodIn_r _ [18] (by decide +kernel) (by decide +kernel)
set_option maxRecDepth 20000 in
theorem gX6_find_X8_sideIn_n43 : GoodIn wsX6_find (wsX8_sideIn) := ggX6_find_X8_sideIn
set_option maxRecDepth 20000 in
theorem ggX6_find_X6_tryCourse : GoodIn wsX6_find wsX6_tryCourse := goodIn_r _ [22, 2, 3, 4, 5, 23, 24, 25, 26, 27, 28, 29, 30, 31, 32, 33, 34, 35, 36, 37, 38, 39, 40, 14, 41, 42, 43, 44, 45, 46, 47, 48, 49, 50, 51, 17, 52, 53, 54, 55, 56, 57, 58, 59, 60, 61, 62, 63, 64, 65, 66, 67, 68, 69, 70, 71, 72, 73, 74, 75, 76, 77, 78, 79, 80, 1, 6, 7, 81, 82, 83, 84, 85, 86, 87, 88, 89, 90, 91, 92, 9, 98, 99, 100, 101, 93, 94, 95, 96, 97] (by decide +kernel) (by decide +kernel)
set_option maxRecDepth 20000 in
theorem gX6_find_X6_tryCourse : GoodIn wsX6_find (wsV RX6 46 RX6 yX6_tryCourse wsX6_tryCourse) := goodIn_app (goodIn_of _ (by decide +kernel)) ggX6_find_X6_tryCourse
theorem dX6_find_0 : decode cX6_find 0 = .ok (.aload_n 0, 1) := by decide +kernel
theorem dX6_find_1 : decode cX6_find 1 = .ok (.iconst 0, 1) := by decide +kernel
theorem dX6_find_2 : decode cX6_find 2 = .ok (.putfield 20, 3) := by decide +kernel
theorem dX6_find_5 : decode cX6_find 5 = .ok (.aload_n 0, 1) := by decide +kernel
theorem dX6_find_6 : decode cX6_find 6 = .ok (.iload_n 3, 1) := by decide +kernel
theorem dX6_find_7 : decode cX6_find 7 = .ok (.sipush 150, 3) := by decide +kernel
theorem dX6_find_10 : decode cX6_find 10 = .ok (.invokestatic 24, 3) := by decide +kernel
theorem dX6_find_13 : decode cX6_find 13 = .ok (.putfield 30, 3) := by decide +kernel
theorem dX6_find_16 : decode cX6_find 16 = .ok (.aload_n 0, 1) := by decide +kernel
theorem dX6_find_17 : decode cX6_find 17 = .ok (.invokevirtual 33, 3) := by decide +kernel
theorem dX6_find_20 : decode cX6_find 20 = .ok (.aload_n 0, 1) := by decide +kernel
theorem dX6_find_21 : decode cX6_find 21 = .ok (.getfield 13, 3) := by decide +kernel
theorem dX6_find_24 : decode cX6_find 24 = .ok (.iconst 0, 1) := by decide +kernel
theorem dX6_find_25 : decode cX6_find 25 = .ok (.aaload, 1) := by decide +kernel
theorem dX6_find_26 : decode cX6_find 26 = .ok (.iconst 0, 1) := by decide +kernel
theorem dX6_find_27 : decode cX6_find 27 = .ok (.ldc2_w 36, 3) := by decide +kernel
theorem dX6_find_30 : decode cX6_find 30 = .ok (.lastore, 1) := by decide +kernel
theorem dX6_find_31 : decode cX6_find 31 = .ok (.iconst 0, 1) := by decide +kernel
theorem dX6_find_32 : decode cX6_find 32 = .ok (.istore 5, 2) := by decide +kernel
theorem dX6_find_34 : decode cX6_find 34 = .ok (.iload 5, 2) := by decide +kernel
theorem dX6_find_36 : decode cX6_find 36 = .ok (.iconst 4, 1) := by decide +kernel
theorem dX6_find_37 : decode cX6_find 37 = .ok (.if_icmp .ge 31, 3) := by decide +kernel
theorem dX6_find_40 : decode cX6_find 40 = .ok (.aload_n 1, 1) := by decide +kernel
theorem dX6_find_41 : decode cX6_find 41 = .ok (.getfield 38, 3) := by decide +kernel
theorem dX6_find_44 : decode cX6_find 44 = .ok (.iload 5, 2) := by decide +kernel
theorem dX6_find_46 : decode cX6_find 46 = .ok (.invokestatic 43, 3) := by decide +kernel
theorem dX6_find_49 : decode cX6_find 49 = .ok (.iload_n 2, 1) := by decide +kernel
theorem dX6_find_50 : decode cX6_find 50 = .ok (.if_icmp .ne 12, 3) := by decide +kernel
theorem dX6_find_53 : decode cX6_find 53 = .ok (.aload_n 0, 1) := by decide +kernel
theorem dX6_find_54 : decode cX6_find 54 = .ok (.aload_n 1, 1) := by decide +kernel
theorem dX6_find_55 : decode cX6_find 55 = .ok (.iload 5, 2) := by decide +kernel
theorem dX6_find_57 : decode cX6_find 57 = .ok (.iload 4, 2) := by decide +kernel
theorem dX6_find_59 : decode cX6_find 59 = .ok (.invokevirtual 46, 3) := by decide +kernel
theorem dX6_find_62 : decode cX6_find 62 = .ok (.iinc 5 1, 3) := by decide +kernel
theorem dX6_find_65 : decode cX6_find 65 = .ok (.goto (-31), 3) := by decide +kernel
theorem dX6_find_68 : decode cX6_find 68 = .ok (.aload_n 0, 1) := by decide +kernel
theorem dX6_find_69 : decode cX6_find 69 = .ok (.aload_n 0, 1) := by decide +kernel
theorem dX6_find_70 : decode cX6_find 70 = .ok (.getfield 30, 3) := by decide +kernel
theorem dX6_find_73 : decode cX6_find 73 = .ok (.iload_n 3, 1) := by decide +kernel
theorem dX6_find_74 : decode cX6_find 74 = .ok (.if_icmp .ne 18, 3) := by decide +kernel
theorem dX6_find_77 : decode cX6_find 77 = .ok (.iload_n 3, 1) := by decide +kernel
theorem dX6_find_78 : decode cX6_find 78 = .ok (.ifCond .lt 14, 3) := by decide +kernel
theorem dX6_find_81 : decode cX6_find 81 = .ok (.aload_n 0, 1) := by decide +kernel
theorem dX6_find_82 : decode cX6_find 82 = .ok (.getfield 13, 3) := by decide +kernel
theorem dX6_find_85 : decode cX6_find 85 = .ok (.iconst 0, 1) := by decide +kernel
theorem dX6_find_86 : decode cX6_find 86 = .ok (.aaload, 1) := by decide +kernel
theorem dX6_find_87 : decode cX6_find 87 = .ok (.iload_n 3, 1) := by decide +kernel
theorem dX6_find_88 : decode cX6_find 88 = .ok (.laload, 1) := by decide +kernel
theorem dX6_find_89 : decode cX6_find 89 = .ok (.goto 6, 3) := by decide +kernel
theorem dX6_find_92 : decode cX6_find 92 = .ok (.ldc2_w 50, 3) := by decide +kernel
theorem dX6_find_95 : decode cX6_find 95 = .ok (.putfield 52, 3) := by decide +kernel
theorem dX6_find_98 : decode cX6_find 98 = .ok (.return_, 1) := by decide +kernel
theorem dX6_hasFound_0 : decode cX6_hasFound 0 = .ok (.aload_n 0, 1) := by decide +kernel
theorem dX6_hasFound_1 : decode cX6_hasFound 1 = .ok (.getfield 52, 3) := by decide +kernel
theorem dX6_hasFound_4 : decode cX6_hasFound 4 = .ok (.lconst 0, 1) := by decide +kernel
theorem dX6_hasFound_5 : decode cX6_hasFound 5 = .ok (.lcmp, 1) := by decide +kernel
theorem dX6_hasFound_6 : decode cX6_hasFound 6 = .ok (.ifCond .lt 7, 3) := by decide +kernel
theorem dX6_hasFound_9 : decode cX6_hasFound 9 = .ok (.iconst 1, 1) := by decide +kernel
theorem dX6_hasFound_10 : decode cX6_hasFound 10 = .ok (.goto 4, 3) := by decide +kernel
theorem dX6_hasFound_13 : decode cX6_hasFound 13 = .ok (.iconst 0, 1) := by decide +kernel
theorem dX6_hasFound_14 : decode cX6_hasFound 14 = .ok (.ireturn, 1) := by decide +kernel
theorem dX6_prices_0 : decode cX6_prices 0 = .ok (.aload_n 0, 1) := by decide +kernel
theorem dX6_prices_1 : decode cX6_prices 1 = .ok (.getfield 52, 3) := by decide +kernel
theorem dX6_prices_4 : decode cX6_prices 4 = .ok (.bipush 20, 2) := by decide +kernel
theorem dX6_prices_6 : decode cX6_prices 6 = .ok (.lshr, 1) := by decide +kernel
theorem dX6_prices_7 : decode cX6_prices 7 = .ok (.l2i, 1) := by decide +kernel
theorem dX6_prices_8 : decode cX6_prices 8 = .ok (.ireturn, 1) := by decide +kernel
set_option maxRecDepth 20000 in
theorem ggX6_foundSet_X6_isChosen : GoodIn wsX6_foundSet wsX6_isChosen := goodIn_r _ [7, 8, 9, 10, 11, 12, 13] (by decide +kernel) (by decide +kernel)
set_option maxRecDepth 20000 in
theorem gX6_foundSet_X6_isChosen : GoodIn wsX6_foundSet (wsV RX6 56 RX6 yX6_isChosen wsX6_isChosen) := goodIn_app (goodIn_of _ (by decide +kernel)) ggX6_foundSet_X6_isChosen
theorem dX6_foundSet_0 : decode cX6_foundSet 0 = .ok (.iconst 0, 1) := by decide +kernel
theorem dX6_foundSet_1 : decode cX6_foundSet 1 = .ok (.istore_n 1, 1) := by decide +kernel
theorem dX6_foundSet_2 : decode cX6_foundSet 2 = .ok (.iconst 0, 1) := by decide +kernel
theorem dX6_foundSet_3 : decode cX6_foundSet 3 = .ok (.istore_n 2, 1) := by decide +kernel
theorem dX6_foundSet_4 : decode cX6_foundSet 4 = .ok (.iload_n 2, 1) := by decide +kernel
theorem dX6_foundSet_5 : decode cX6_foundSet 5 = .ok (.aload_n 0, 1) := by decide +kernel
theorem dX6_foundSet_6 : decode cX6_foundSet 6 = .ok (.getfield 20, 3) := by decide +kernel
theorem dX6_foundSet_9 : decode cX6_foundSet 9 = .ok (.if_icmp .ge 28, 3) := by decide +kernel
theorem dX6_foundSet_12 : decode cX6_foundSet 12 = .ok (.aload_n 0, 1) := by decide +kernel
theorem dX6_foundSet_13 : decode cX6_foundSet 13 = .ok (.iload_n 2, 1) := by decide +kernel
theorem dX6_foundSet_14 : decode cX6_foundSet 14 = .ok (.invokevirtual 56, 3) := by decide +kernel
theorem dX6_foundSet_17 : decode cX6_foundSet 17 = .ok (.ifCond .eq 14, 3) := by decide +kernel
theorem dX6_foundSet_20 : decode cX6_foundSet 20 = .ok (.iload_n 1, 1) := by decide +kernel
theorem dX6_foundSet_21 : decode cX6_foundSet 21 = .ok (.iconst 1, 1) := by decide +kernel
theorem dX6_foundSet_22 : decode cX6_foundSet 22 = .ok (.aload_n 0, 1) := by decide +kernel
theorem dX6_foundSet_23 : decode cX6_foundSet 23 = .ok (.getfield 16, 3) := by decide +kernel
theorem dX6_foundSet_26 : decode cX6_foundSet 26 = .ok (.iload_n 2, 1) := by decide +kernel
theorem dX6_foundSet_27 : decode cX6_foundSet 27 = .ok (.iaload, 1) := by decide +kernel
theorem dX6_foundSet_28 : decode cX6_foundSet 28 = .ok (.ishl, 1) := by decide +kernel
theorem dX6_foundSet_29 : decode cX6_foundSet 29 = .ok (.ior, 1) := by decide +kernel
theorem dX6_foundSet_30 : decode cX6_foundSet 30 = .ok (.istore_n 1, 1) := by decide +kernel
theorem dX6_foundSet_31 : decode cX6_foundSet 31 = .ok (.iinc 2 1, 3) := by decide +kernel
theorem dX6_foundSet_34 : decode cX6_foundSet 34 = .ok (.goto (-30), 3) := by decide +kernel
theorem dX6_foundSet_37 : decode cX6_foundSet 37 = .ok (.iload_n 1, 1) := by decide +kernel
theorem dX6_foundSet_38 : decode cX6_foundSet 38 = .ok (.ireturn, 1) := by decide +kernel
set_option maxRecDepth 20000 in
theorem ggX6_offerFound_X6_isChosen : GoodIn wsX6_offerFound wsX6_isChosen := goodIn_r _ [7, 8, 28, 29, 30, 31, 32] (by decide +kernel) (by decide +kernel)
set_option maxRecDepth 20000 in
theorem gX6_offerFound_X6_isChosen : GoodIn wsX6_offerFound (wsV RX6 56 RX6 yX6_isChosen wsX6_isChosen) := goodIn_app (goodIn_of _ (by decide +kernel)) ggX6_offerFound_X6_isChosen
set_option maxRecDepth 20000 in
theorem ggX6_offerFound_X3_change : GoodIn wsX6_offerFound wsX3_change := goodIn_r _ [13, 14, 15, 16, 17, 12, 18, 19, 20, 21, 22, 23, 24, 25, 26, 27, 33, 34, 35, 36] (by decide +kernel) (by decide +kernel)
set_option maxRecDepth 20000 in
theorem gX6_offerFound_X3_change : GoodIn wsX6_offerFound (wsV RX6 60 RX3 yX3_change wsX3_change) := goodIn_app (goodIn_of _ (by decide +kernel)) ggX6_offerFound_X3_change
theorem dX6_offerFound_0 : decode cX6_offerFound 0 = .ok (.iconst 0, 1) := by decide +kernel
theorem dX6_offerFound_1 : decode cX6_offerFound 1 = .ok (.istore_n 2, 1) := by decide +kernel
theorem dX6_offerFound_2 : decode cX6_offerFound 2 = .ok (.iload_n 2, 1) := by decide +kernel
theorem dX6_offerFound_3 : decode cX6_offerFound 3 = .ok (.aload_n 0, 1) := by decide +kernel
theorem dX6_offerFound_4 : decode cX6_offerFound 4 = .ok (.getfield 20, 3) := by decide +kernel
theorem dX6_offerFound_7 : decode cX6_offerFound 7 = .ok (.if_icmp .ge 34, 3) := by decide +kernel
theorem dX6_offerFound_10 : decode cX6_offerFound 10 = .ok (.aload_n 1, 1) := by decide +kernel
theorem dX6_offerFound_11 : decode cX6_offerFound 11 = .ok (.aload_n 0, 1) := by decide +kernel
theorem dX6_offerFound_12 : decode cX6_offerFound 12 = .ok (.getfield 16, 3) := by decide +kernel
theorem dX6_offerFound_15 : decode cX6_offerFound 15 = .ok (.iload_n 2, 1) := by decide +kernel
theorem dX6_offerFound_16 : decode cX6_offerFound 16 = .ok (.iaload, 1) := by decide +kernel
theorem dX6_offerFound_17 : decode cX6_offerFound 17 = .ok (.bipush 6, 2) := by decide +kernel
theorem dX6_offerFound_19 : decode cX6_offerFound 19 = .ok (.aload_n 0, 1) := by decide +kernel
theorem dX6_offerFound_20 : decode cX6_offerFound 20 = .ok (.iload_n 2, 1) := by decide +kernel
theorem dX6_offerFound_21 : decode cX6_offerFound 21 = .ok (.invokevirtual 56, 3) := by decide +kernel
theorem dX6_offerFound_24 : decode cX6_offerFound 24 = .ok (.ifCond .eq 7, 3) := by decide +kernel
theorem dX6_offerFound_27 : decode cX6_offerFound 27 = .ok (.iconst 1, 1) := by decide +kernel
theorem dX6_offerFound_28 : decode cX6_offerFound 28 = .ok (.goto 4, 3) := by decide +kernel
theorem dX6_offerFound_31 : decode cX6_offerFound 31 = .ok (.iconst 0, 1) := by decide +kernel
theorem dX6_offerFound_32 : decode cX6_offerFound 32 = .ok (.invokevirtual 60, 3) := by decide +kernel
theorem dX6_offerFound_35 : decode cX6_offerFound 35 = .ok (.iinc 2 1, 3) := by decide +kernel
theorem dX6_offerFound_38 : decode cX6_offerFound 38 = .ok (.goto (-36), 3) := by decide +kernel
theorem dX6_offerFound_41 : decode cX6_offerFound 41 = .ok (.return_, 1) := by decide +kernel
theorem dX6_isChosen_0 : decode cX6_isChosen 0 = .ok (.aload_n 0, 1) := by decide +kernel
theorem dX6_isChosen_1 : decode cX6_isChosen 1 = .ok (.getfield 52, 3) := by decide +kernel
theorem dX6_isChosen_4 : decode cX6_isChosen 4 = .ok (.iload_n 1, 1) := by decide +kernel
theorem dX6_isChosen_5 : decode cX6_isChosen 5 = .ok (.lshr, 1) := by decide +kernel
theorem dX6_isChosen_6 : decode cX6_isChosen 6 = .ok (.lconst 1, 1) := by decide +kernel
theorem dX6_isChosen_7 : decode cX6_isChosen 7 = .ok (.land, 1) := by decide +kernel
theorem dX6_isChosen_8 : decode cX6_isChosen 8 = .ok (.lconst 0, 1) := by decide +kernel
theorem dX6_isChosen_9 : decode cX6_isChosen 9 = .ok (.lcmp, 1) := by decide +kernel
theorem dX6_isChosen_10 : decode cX6_isChosen 10 = .ok (.ifCond .ne 7, 3) := by decide +kernel
theorem dX6_isChosen_13 : decode cX6_isChosen 13 = .ok (.iconst 1, 1) := by decide +kernel
theorem dX6_isChosen_14 : decode cX6_isChosen 14 = .ok (.goto 4, 3) := by decide +kernel
theorem dX6_isChosen_17 : decode cX6_isChosen 17 = .ok (.iconst 0, 1) := by decide +kernel
theorem dX6_isChosen_18 : decode cX6_isChosen 18 = .ok (.ireturn, 1) := by decide +kernel
set_option maxRecDepth 20000 in
theorem ggX6_tryCourse_X3_setting : GoodIn wsX6_tryCourse wsX3_setting := goodIn_r _ [9, 10, 81, 82, 83, 84] (by decide +kernel) (by decide +kernel)
set_option maxRecDepth 20000 in
theorem gX6_tryCourse_X3_setting : GoodIn wsX6_tryCourse (wsV RX6 64 RX3 yX3_setting wsX3_setting) := goodIn_app (goodIn_of _ (by decide +kernel)) ggX6_tryCourse_X3_setting
set_option maxRecDepth 20000 in
theorem ggX6_tryCourse_X3_size : GoodIn wsX6_tryCourse wsX3_size := goodIn_r _ [14, 15, 81, 82, 83, 84] (by decide +kernel) (by decide +kernel)
set_option maxRecDepth 20000 in
theorem gX6_tryCourse_X3_size : GoodIn wsX6_tryCourse (wsV RX6 68 RX3 yX3_size wsX3_size) := goodIn_app (goodIn_of _ (by decide +kernel)) ggX6_tryCourse_X3_size
set_option maxRecDepth 20000 in
theorem ggX6_tryCourse_X3_valueOf : GoodIn wsX6_tryCourse wsX3_valueOf := goodIn_r _ [19, 20, 81, 82, 83, 84] (by decide +kernel) (by decide +kernel)
set_option maxRecDepth 20000 in
theorem gX6_tryCourse_X3_valueOf : GoodIn wsX6_tryCourse (wsV RX6 72 RX3 yX3_valueOf wsX3_valueOf) := goodIn_app (goodIn_of _ (by decide +kernel)) ggX6_tryCourse_X3_valueOf
set_option maxRecDepth 20000 in
theorem ggX6_tryCourse_X6_isCandidate : GoodIn wsX6_tryCourse wsX6_isCandidate := goodIn_r _ [24, 5, 6, 7, 8, 9, 10, 25, 26, 27, 28, 29, 30, 31, 32, 33, 17, 18, 19, 20, 34, 35, 36, 37, 38, 39, 40, 16, 41, 42, 81, 82, 83, 84] (by decide +kernel) (by decide +kernel)
set_option maxRecDepth 20000 in
theorem gX6_tryCourse_X6_isCandidate : GoodIn wsX6_tryCourse (va_wsS RX6 75 yX6_isCandidate wsX6_isCandidate) := goodIn_app (goodIn_of _ (by decide +kernel)) ggX6_tryCourse_X6_isCandidate
set_option maxRecDepth 20000 in
theorem ggX6_tryCourse_X3_linesOf : GoodIn wsX6_tryCourse wsX3_linesOf := goodIn_r _ [46, 47, 48, 49, 8, 50, 33, 17, 18, 19, 20, 51, 52, 53, 54, 55, 56, 57, 58, 6, 7, 9, 10, 59, 35, 60, 81, 82, 83, 84] (by decide +kernel) (by decide +kernel)
set_option maxRecDepth 20000 in
theorem gX6_tryCourse_X3_linesOf : GoodIn wsX6_tryCourse (wsV RX6 79 RX3 yX3_linesOf wsX3_linesOf) := goodIn_app (goodIn_of _ (by decide +kernel)) ggX6_tryCourse_X3_linesOf
set_option maxRecDepth 20000 in
theorem ggX6_tryCourse_X6_tryCandidate : GoodIn wsX6_tryCourse wsX6_tryCandidate := goodIn_r _ [64, 65, 66, 67, 68, 69, 3, 70, 85, 86, 87, 88, 89] (by decide +kernel) (by decide +kernel)
set_option maxRecDepth 20000 in
theorem gX6_tryCourse_X6_tryCandidate : GoodIn wsX6_tryCourse (wsV RX6 82 RX6 yX6_tryCandidate wsX6_tryCandidate) := goodIn_app (goodIn_of _ (by decide +kernel)) ggX6_tryCourse_X6_tryCandidate
set_option maxRecDepth 20000 in
theorem ggX6_tryCourse_X6_addCandidate : GoodIn wsX6_tryCourse wsX6_addCandidate := goodIn_r _ [74, 65, 75, 85, 86, 87, 88, 89] (by decide +kernel) (by decide +kernel)
set_option maxRecDepth 20000 in
theorem gX6_tryCourse_X6_addCandidate : GoodIn wsX6_tryCourse (wsV RX6 85 RX6 yX6_addCandidate wsX6_addCandidate) := goodIn_app (goodIn_of _ (by decide +kernel)) ggX6_tryCourse_X6_addCandidate
set_option maxRecDepth 20000 in
theorem ggX6_tryCourse_X6_endCourse : GoodIn wsX6_tryCourse wsX6_endCourse := goodIn_r _ [79, 66, 67, 68, 69, 3, 70, 80, 85, 86, 87, 88, 89] (by decide +kernel) (by decide +kernel)
set_option maxRecDepth 20000 in
theorem gX6_tryCourse_X6_endCourse : GoodIn wsX6_tryCourse (wsV RX6 89 RX6 yX6_endCourse wsX6_endCourse) := goodIn_app (goodIn_of _ (by decide +kernel)) ggX6_tryCourse_X6_endCourse
theorem dX6_tryCourse_0 : decode cX6_tryCourse 0 = .ok (.aload_n 1, 1) := by decide +kernel
theorem dX6_tryCourse_1 : decode cX6_tryCourse 1 = .ok (.iconst 2, 1) := by decide +kernel
theorem dX6_tryCourse_2 : decode cX6_tryCourse 2 = .ok (.invokevirtual 64, 3) := by decide +kernel
theorem dX6_tryCourse_5 : decode cX6_tryCourse 5 = .ok (.bipush 9, 2) := by decide +kernel
theorem dX6_tryCourse_7 : decode cX6_tryCourse 7 = .ok (.invokestatic 24, 3) := by decide +kernel
theorem dX6_tryCourse_10 : decode cX6_tryCourse 10 = .ok (.istore 4, 2) := by decide +kernel
theorem dX6_tryCourse_12 : decode cX6_tryCourse 12 = .ok (.iconst 0, 1) := by decide +kernel
theorem dX6_tryCourse_13 : decode cX6_tryCourse 13 = .ok (.istore 5, 2) := by decide +kernel
theorem dX6_tryCourse_15 : decode cX6_tryCourse 15 = .ok (.iconst 0, 1) := by decide +kernel
theorem dX6_tryCourse_16 : decode cX6_tryCourse 16 = .ok (.istore 6, 2) := by decide +kernel
theorem dX6_tryCourse_18 : decode cX6_tryCourse 18 = .ok (.iload 6, 2) := by decide +kernel
theorem dX6_tryCourse_20 : decode cX6_tryCourse 20 = .ok (.aload_n 1, 1) := by decide +kernel
theorem dX6_tryCourse_21 : decode cX6_tryCourse 21 = .ok (.invokevirtual 68, 3) := by decide +kernel
theorem dX6_tryCourse_24 : decode cX6_tryCourse 24 = .ok (.if_icmp .ge 100, 3) := by decide +kernel
theorem dX6_tryCourse_27 : decode cX6_tryCourse 27 = .ok (.aload_n 1, 1) := by decide +kernel
theorem dX6_tryCourse_28 : decode cX6_tryCourse 28 = .ok (.iload 6, 2) := by decide +kernel
theorem dX6_tryCourse_30 : decode cX6_tryCourse 30 = .ok (.iconst 0, 1) := by decide +kernel
theorem dX6_tryCourse_31 : decode cX6_tryCourse 31 = .ok (.invokevirtual 72, 3) := by decide +kernel
theorem dX6_tryCourse_34 : decode cX6_tryCourse 34 = .ok (.iload_n 2, 1) := by decide +kernel
theorem dX6_tryCourse_35 : decode cX6_tryCourse 35 = .ok (.if_icmp .ne 83, 3) := by decide +kernel
theorem dX6_tryCourse_38 : decode cX6_tryCourse 38 = .ok (.aload_n 1, 1) := by decide +kernel
theorem dX6_tryCourse_39 : decode cX6_tryCourse 39 = .ok (.iload 6, 2) := by decide +kernel
theorem dX6_tryCourse_41 : decode cX6_tryCourse 41 = .ok (.iload_n 3, 1) := by decide +kernel
theorem dX6_tryCourse_42 : decode cX6_tryCourse 42 = .ok (.invokestatic 75, 3) := by decide +kernel
theorem dX6_tryCourse_45 : decode cX6_tryCourse 45 = .ok (.ifCond .eq 73, 3) := by decide +kernel
theorem dX6_tryCourse_48 : decode cX6_tryCourse 48 = .ok (.iinc 5 1, 3) := by decide +kernel
theorem dX6_tryCourse_51 : decode cX6_tryCourse 51 = .ok (.iload 4, 2) := by decide +kernel
theorem dX6_tryCourse_53 : decode cX6_tryCourse 53 = .ok (.iload 5, 2) := by decide +kernel
theorem dX6_tryCourse_55 : decode cX6_tryCourse 55 = .ok (.invokestatic 24, 3) := by decide +kernel
theorem dX6_tryCourse_58 : decode cX6_tryCourse 58 = .ok (.iconst 1, 1) := by decide +kernel
theorem dX6_tryCourse_59 : decode cX6_tryCourse 59 = .ok (.isub, 1) := by decide +kernel
theorem dX6_tryCourse_60 : decode cX6_tryCourse 60 = .ok (.istore 7, 2) := by decide +kernel
theorem dX6_tryCourse_62 : decode cX6_tryCourse 62 = .ok (.iload 7, 2) := by decide +kernel
theorem dX6_tryCourse_64 : decode cX6_tryCourse 64 = .ok (.ifCond .lt 48, 3) := by decide +kernel
theorem dX6_tryCourse_67 : decode cX6_tryCourse 67 = .ok (.iload 7, 2) := by decide +kernel
theorem dX6_tryCourse_69 : decode cX6_tryCourse 69 = .ok (.ifCond .ne 7, 3) := by decide +kernel
theorem dX6_tryCourse_72 : decode cX6_tryCourse 72 = .ok (.iconst 2, 1) := by decide +kernel
theorem dX6_tryCourse_73 : decode cX6_tryCourse 73 = .ok (.goto 8, 3) := by decide +kernel
theorem dX6_tryCourse_76 : decode cX6_tryCourse 76 = .ok (.aload_n 1, 1) := by decide +kernel
theorem dX6_tryCourse_77 : decode cX6_tryCourse 77 = .ok (.iconst 3, 1) := by decide +kernel
theorem dX6_tryCourse_78 : decode cX6_tryCourse 78 = .ok (.invokevirtual 64, 3) := by decide +kernel
theorem dX6_tryCourse_81 : decode cX6_tryCourse 81 = .ok (.istore 8, 2) := by decide +kernel
theorem dX6_tryCourse_83 : decode cX6_tryCourse 83 = .ok (.aload_n 0, 1) := by decide +kernel
theorem dX6_tryCourse_84 : decode cX6_tryCourse 84 = .ok (.iload 7, 2) := by decide +kernel
theorem dX6_tryCourse_86 : decode cX6_tryCourse 86 = .ok (.iload 8, 2) := by decide +kernel
theorem dX6_tryCourse_88 : decode cX6_tryCourse 88 = .ok (.aload_n 1, 1) := by decide +kernel
theorem dX6_tryCourse_89 : decode cX6_tryCourse 89 = .ok (.iload 6, 2) := by decide +kernel
theorem dX6_tryCourse_91 : decode cX6_tryCourse 91 = .ok (.iload_n 3, 1) := by decide +kernel
theorem dX6_tryCourse_92 : decode cX6_tryCourse 92 = .ok (.invokevirtual 79, 3) := by decide +kernel
theorem dX6_tryCourse_95 : decode cX6_tryCourse 95 = .ok (.iadd, 1) := by decide +kernel
theorem dX6_tryCourse_96 : decode cX6_tryCourse 96 = .ok (.aload_n 1, 1) := by decide +kernel
theorem dX6_tryCourse_97 : decode cX6_tryCourse 97 = .ok (.iload 6, 2) := by decide +kernel
theorem dX6_tryCourse_99 : decode cX6_tryCourse 99 = .ok (.iconst 2, 1) := by decide +kernel
theorem dX6_tryCourse_100 : decode cX6_tryCourse 100 = .ok (.invokevirtual 72, 3) := by decide +kernel
theorem dX6_tryCourse_103 : decode cX6_tryCourse 103 = .ok (.invokevirtual 82, 3) := by decide +kernel
theorem dX6_tryCourse_106 : decode cX6_tryCourse 106 = .ok (.iinc 7 (-1), 3) := by decide +kernel
theorem dX6_tryCourse_109 : decode cX6_tryCourse 109 = .ok (.goto (-47), 3) := by decide +kernel
theorem dX6_tryCourse_112 : decode cX6_tryCourse 112 = .ok (.aload_n 0, 1) := by decide +kernel
theorem dX6_tryCourse_113 : decode cX6_tryCourse 113 = .ok (.iload 6, 2) := by decide +kernel
theorem dX6_tryCourse_115 : decode cX6_tryCourse 115 = .ok (.invokevirtual 85, 3) := by decide +kernel
theorem dX6_tryCourse_118 : decode cX6_tryCourse 118 = .ok (.iinc 6 1, 3) := by decide +kernel
theorem dX6_tryCourse_121 : decode cX6_tryCourse 121 = .ok (.goto (-103), 3) := by decide +kernel
theorem dX6_tryCourse_124 : decode cX6_tryCourse 124 = .ok (.aload_n 0, 1) := by decide +kernel
theorem dX6_tryCourse_125 : decode cX6_tryCourse 125 = .ok (.iload 4, 2) := by decide +kernel
theorem dX6_tryCourse_127 : decode cX6_tryCourse 127 = .ok (.iload 5, 2) := by decide +kernel
theorem dX6_tryCourse_129 : decode cX6_tryCourse 129 = .ok (.invokestatic 24, 3) := by decide +kernel
theorem dX6_tryCourse_132 : decode cX6_tryCourse 132 = .ok (.invokevirtual 89, 3) := by decide +kernel
theorem dX6_tryCourse_135 : decode cX6_tryCourse 135 = .ok (.return_, 1) := by decide +kernel
set_option maxRecDepth 20000 in
theorem ggX6_isCandidate_X3_setting : GoodIn wsX6_isCandidate wsX3_setting := goodIn_r _ [5, 6, 30, 31, 32, 33] (by decide +kernel) (by decide +kernel)
set_option maxRecDepth 20000 in
theorem gX6_isCandidate_X3_setting : GoodIn wsX6_isCandidate (wsV RX6 64 RX3 yX3_setting wsX3_setting) := goodIn_app (goodIn_of _ (by decide +kernel)) ggX6_isCandidate_X3_setting
set_option maxRecDepth 20000 in
theorem ggX6_isCandidate_X3_mayBePrinted : GoodIn wsX6_isCandidate wsX3_mayBePrinted := goodIn_r _ [10, 11, 12, 13, 4, 14, 15, 16, 17, 18, 19, 20, 21, 22, 23, 24, 25, 26, 30, 31, 32, 33] (by decide +kernel) (by decide +kernel)
set_option maxRecDepth 20000 in
theorem gX6_isCandidate_X3_mayBePrinted : GoodIn wsX6_isCandidate (wsV RX6 92 RX3 yX3_mayBePrinted wsX3_mayBePrinted) := goodIn_app (goodIn_of _ (by decide +kernel)) ggX6_isCandidate_X3_mayBePrinted
set_option maxRecDepth 20000 in
theorem ggX6_isCandidate_X3_valueOf : GoodIn wsX6_isCandidate wsX3_valueOf := goodIn_r _ [18, 19, 30, 31, 32, 33] (by decide +kernel) (by decide +kernel)
set_option maxRecDepth 20000 in
theorem gX6_isCandidate_X3_valueOf : GoodIn wsX6_isCandidate (wsV RX6 72 RX3 yX3_valueOf wsX3_valueOf) := goodIn_app (goodIn_of _ (by decide +kernel)) ggX6_isCandidate_X3_valueOf
set_option maxRecDepth 20000 in
theorem ggX6_isCandidate_X8_digitsOf : GoodIn wsX6_isCandidate wsX8_digitsOf := goodIn_r _ [29] (by decide +kernel) (by decide +kernel)
set_option maxRecDepth 20000 in
theorem gX6_isCandidate_X8_digitsOf_n96 : GoodIn wsX6_isCandidate (wsX8_digitsOf) := ggX6_isCandidate_X8_digitsOf
theorem dX6_isCandidate_0 : decode cX6_isCandidate 0 = .ok (.aload_n 0, 1) := by decide +kernel
theorem dX6_isCandidate_1 : decode cX6_isCandidate 1 = .ok (.iload_n 1, 1) := by decide +kernel
theorem dX6_isCandidate_2 : decode cX6_isCandidate 2 = .ok (.aload_n 0, 1) := by decide +kernel
theorem dX6_isCandidate_3 : decode cX6_isCandidate 3 = .ok (.iconst 0, 1) := by decide +kernel
theorem dX6_isCandidate_4 : decode cX6_isCandidate 4 = .ok (.invokevirtual 64, 3) := by decide +kernel
theorem dX6_isCandidate_7 : decode cX6_isCandidate 7 = .ok (.aload_n 0, 1) := by decide +kernel
theorem dX6_isCandidate_8 : decode cX6_isCandidate 8 = .ok (.iconst 5, 1) := by decide +kernel
theorem dX6_isCandidate_9 : decode cX6_isCandidate 9 = .ok (.invokevirtual 64, 3) := by decide +kernel
theorem dX6_isCandidate_12 : decode cX6_isCandidate 12 = .ok (.invokevirtual 92, 3) := by decide +kernel
theorem dX6_isCandidate_15 : decode cX6_isCandidate 15 = .ok (.ifCond .eq 20, 3) := by decide +kernel
theorem dX6_isCandidate_18 : decode cX6_isCandidate 18 = .ok (.aload_n 0, 1) := by decide +kernel
theorem dX6_isCandidate_19 : decode cX6_isCandidate 19 = .ok (.iload_n 1, 1) := by decide +kernel
theorem dX6_isCandidate_20 : decode cX6_isCandidate 20 = .ok (.iconst 2, 1) := by decide +kernel
theorem dX6_isCandidate_21 : decode cX6_isCandidate 21 = .ok (.invokevirtual 72, 3) := by decide +kernel
theorem dX6_isCandidate_24 : decode cX6_isCandidate 24 = .ok (.invokestatic 96, 3) := by decide +kernel
theorem dX6_isCandidate_27 : decode cX6_isCandidate 27 = .ok (.iload_n 2, 1) := by decide +kernel
theorem dX6_isCandidate_28 : decode cX6_isCandidate 28 = .ok (.if_icmp .gt 7, 3) := by decide +kernel
theorem dX6_isCandidate_31 : decode cX6_isCandidate 31 = .ok (.iconst 1, 1) := by decide +kernel
theorem dX6_isCandidate_32 : decode cX6_isCandidate 32 = .ok (.goto 4, 3) := by decide +kernel
theorem dX6_isCandidate_35 : decode cX6_isCandidate 35 = .ok (.iconst 0, 1) := by decide +kernel
theorem dX6_isCandidate_36 : decode cX6_isCandidate 36 = .ok (.ireturn, 1) := by decide +kernel
theorem dX6_tryCandidate_0 : decode cX6_tryCandidate 0 = .ok (.iload_n 3, 1) := by decide +kernel
theorem dX6_tryCandidate_1 : decode cX6_tryCandidate 1 = .ok (.i2l, 1) := by decide +kernel
theorem dX6_tryCandidate_2 : decode cX6_tryCandidate 2 = .ok (.bipush 20, 2) := by decide +kernel
theorem dX6_tryCandidate_4 : decode cX6_tryCandidate 4 = .ok (.lshl, 1) := by decide +kernel
theorem dX6_tryCandidate_5 : decode cX6_tryCandidate 5 = .ok (.lconst 1, 1) := by decide +kernel
theorem dX6_tryCandidate_6 : decode cX6_tryCandidate 6 = .ok (.aload_n 0, 1) := by decide +kernel
theorem dX6_tryCandidate_7 : decode cX6_tryCandidate 7 = .ok (.getfield 20, 3) := by decide +kernel
theorem dX6_tryCandidate_10 : decode cX6_tryCandidate 10 = .ok (.lshl, 1) := by decide +kernel
theorem dX6_tryCandidate_11 : decode cX6_tryCandidate 11 = .ok (.lsub, 1) := by decide +kernel
theorem dX6_tryCandidate_12 : decode cX6_tryCandidate 12 = .ok (.lstore 4, 2) := by decide +kernel
theorem dX6_tryCandidate_14 : decode cX6_tryCandidate 14 = .ok (.iload_n 2, 1) := by decide +kernel
theorem dX6_tryCandidate_15 : decode cX6_tryCandidate 15 = .ok (.istore 6, 2) := by decide +kernel
theorem dX6_tryCandidate_17 : decode cX6_tryCandidate 17 = .ok (.iload 6, 2) := by decide +kernel
theorem dX6_tryCandidate_19 : decode cX6_tryCandidate 19 = .ok (.aload_n 0, 1) := by decide +kernel
theorem dX6_tryCandidate_20 : decode cX6_tryCandidate 20 = .ok (.getfield 30, 3) := by decide +kernel
theorem dX6_tryCandidate_23 : decode cX6_tryCandidate 23 = .ok (.if_icmp .gt 59, 3) := by decide +kernel
theorem dX6_tryCandidate_26 : decode cX6_tryCandidate 26 = .ok (.aload_n 0, 1) := by decide +kernel
theorem dX6_tryCandidate_27 : decode cX6_tryCandidate 27 = .ok (.getfield 13, 3) := by decide +kernel
theorem dX6_tryCandidate_30 : decode cX6_tryCandidate 30 = .ok (.iload_n 1, 1) := by decide +kernel
theorem dX6_tryCandidate_31 : decode cX6_tryCandidate 31 = .ok (.aaload, 1) := by decide +kernel
theorem dX6_tryCandidate_32 : decode cX6_tryCandidate 32 = .ok (.iload 6, 2) := by decide +kernel
theorem dX6_tryCandidate_34 : decode cX6_tryCandidate 34 = .ok (.iload_n 2, 1) := by decide +kernel
theorem dX6_tryCandidate_35 : decode cX6_tryCandidate 35 = .ok (.isub, 1) := by decide +kernel
theorem dX6_tryCandidate_36 : decode cX6_tryCandidate 36 = .ok (.laload, 1) := by decide +kernel
theorem dX6_tryCandidate_37 : decode cX6_tryCandidate 37 = .ok (.lstore 7, 2) := by decide +kernel
theorem dX6_tryCandidate_39 : decode cX6_tryCandidate 39 = .ok (.lload 7, 2) := by decide +kernel
theorem dX6_tryCandidate_41 : decode cX6_tryCandidate 41 = .ok (.lconst 0, 1) := by decide +kernel
theorem dX6_tryCandidate_42 : decode cX6_tryCandidate 42 = .ok (.lcmp, 1) := by decide +kernel
theorem dX6_tryCandidate_43 : decode cX6_tryCandidate 43 = .ok (.ifCond .lt 33, 3) := by decide +kernel
theorem dX6_tryCandidate_46 : decode cX6_tryCandidate 46 = .ok (.aload_n 0, 1) := by decide +kernel
theorem dX6_tryCandidate_47 : decode cX6_tryCandidate 47 = .ok (.getfield 13, 3) := by decide +kernel
theorem dX6_tryCandidate_50 : decode cX6_tryCandidate 50 = .ok (.iload_n 1, 1) := by decide +kernel
theorem dX6_tryCandidate_51 : decode cX6_tryCandidate 51 = .ok (.iconst 1, 1) := by decide +kernel
theorem dX6_tryCandidate_52 : decode cX6_tryCandidate 52 = .ok (.iadd, 1) := by decide +kernel
theorem dX6_tryCandidate_53 : decode cX6_tryCandidate 53 = .ok (.aaload, 1) := by decide +kernel
theorem dX6_tryCandidate_54 : decode cX6_tryCandidate 54 = .ok (.iload 6, 2) := by decide +kernel
theorem dX6_tryCandidate_56 : decode cX6_tryCandidate 56 = .ok (.aload_n 0, 1) := by decide +kernel
theorem dX6_tryCandidate_57 : decode cX6_tryCandidate 57 = .ok (.getfield 13, 3) := by decide +kernel
theorem dX6_tryCandidate_60 : decode cX6_tryCandidate 60 = .ok (.iload_n 1, 1) := by decide +kernel
theorem dX6_tryCandidate_61 : decode cX6_tryCandidate 61 = .ok (.iconst 1, 1) := by decide +kernel
theorem dX6_tryCandidate_62 : decode cX6_tryCandidate 62 = .ok (.iadd, 1) := by decide +kernel
theorem dX6_tryCandidate_63 : decode cX6_tryCandidate 63 = .ok (.aaload, 1) := by decide +kernel
theorem dX6_tryCandidate_64 : decode cX6_tryCandidate 64 = .ok (.iload 6, 2) := by decide +kernel
theorem dX6_tryCandidate_66 : decode cX6_tryCandidate 66 = .ok (.laload, 1) := by decide +kernel
theorem dX6_tryCandidate_67 : decode cX6_tryCandidate 67 = .ok (.lload 7, 2) := by decide +kernel
theorem dX6_tryCandidate_69 : decode cX6_tryCandidate 69 = .ok (.lload 4, 2) := by decide +kernel
theorem dX6_tryCandidate_71 : decode cX6_tryCandidate 71 = .ok (.ladd, 1) := by decide +kernel
theorem dX6_tryCandidate_72 : decode cX6_tryCandidate 72 = .ok (.invokestatic 99, 3) := by decide +kernel
theorem dX6_tryCandidate_75 : decode cX6_tryCandidate 75 = .ok (.lastore, 1) := by decide +kernel
theorem dX6_tryCandidate_76 : decode cX6_tryCandidate 76 = .ok (.iinc 6 1, 3) := by decide +kernel
theorem dX6_tryCandidate_79 : decode cX6_tryCandidate 79 = .ok (.goto (-62), 3) := by decide +kernel
theorem dX6_tryCandidate_82 : decode cX6_tryCandidate 82 = .ok (.return_, 1) := by decide +kernel
theorem dX6_addCandidate_0 : decode cX6_addCandidate 0 = .ok (.aload_n 0, 1) := by decide +kernel
theorem dX6_addCandidate_1 : decode cX6_addCandidate 1 = .ok (.getfield 20, 3) := by decide +kernel
theorem dX6_addCandidate_4 : decode cX6_addCandidate 4 = .ok (.bipush 20, 2) := by decide +kernel
theorem dX6_addCandidate_6 : decode cX6_addCandidate 6 = .ok (.if_icmp .ge 23, 3) := by decide +kernel
theorem dX6_addCandidate_9 : decode cX6_addCandidate 9 = .ok (.aload_n 0, 1) := by decide +kernel
theorem dX6_addCandidate_10 : decode cX6_addCandidate 10 = .ok (.getfield 16, 3) := by decide +kernel
theorem dX6_addCandidate_13 : decode cX6_addCandidate 13 = .ok (.aload_n 0, 1) := by decide +kernel
theorem dX6_addCandidate_14 : decode cX6_addCandidate 14 = .ok (.getfield 20, 3) := by decide +kernel
theorem dX6_addCandidate_17 : decode cX6_addCandidate 17 = .ok (.iload_n 1, 1) := by decide +kernel
theorem dX6_addCandidate_18 : decode cX6_addCandidate 18 = .ok (.iastore, 1) := by decide +kernel
theorem dX6_addCandidate_19 : decode cX6_addCandidate 19 = .ok (.aload_n 0, 1) := by decide +kernel
theorem dX6_addCandidate_20 : decode cX6_addCandidate 20 = .ok (.dup, 1) := by decide +kernel
theorem dX6_addCandidate_21 : decode cX6_addCandidate 21 = .ok (.getfield 20, 3) := by decide +kernel
theorem dX6_addCandidate_24 : decode cX6_addCandidate 24 = .ok (.iconst 1, 1) := by decide +kernel
theorem dX6_addCandidate_25 : decode cX6_addCandidate 25 = .ok (.iadd, 1) := by decide +kernel
theorem dX6_addCandidate_26 : decode cX6_addCandidate 26 = .ok (.putfield 20, 3) := by decide +kernel
theorem dX6_addCandidate_29 : decode cX6_addCandidate 29 = .ok (.return_, 1) := by decide +kernel
theorem dX6_endCourse_0 : decode cX6_endCourse 0 = .ok (.iconst 1, 1) := by decide +kernel
theorem dX6_endCourse_1 : decode cX6_endCourse 1 = .ok (.istore_n 2, 1) := by decide +kernel
theorem dX6_endCourse_2 : decode cX6_endCourse 2 = .ok (.iload_n 2, 1) := by decide +kernel
theorem dX6_endCourse_3 : decode cX6_endCourse 3 = .ok (.iload_n 1, 1) := by decide +kernel
theorem dX6_endCourse_4 : decode cX6_endCourse 4 = .ok (.if_icmp .gt 63, 3) := by decide +kernel
theorem dX6_endCourse_7 : decode cX6_endCourse 7 = .ok (.iconst 0, 1) := by decide +kernel
theorem dX6_endCourse_8 : decode cX6_endCourse 8 = .ok (.istore_n 3, 1) := by decide +kernel
theorem dX6_endCourse_9 : decode cX6_endCourse 9 = .ok (.iload_n 3, 1) := by decide +kernel
theorem dX6_endCourse_10 : decode cX6_endCourse 10 = .ok (.aload_n 0, 1) := by decide +kernel
theorem dX6_endCourse_11 : decode cX6_endCourse 11 = .ok (.getfield 30, 3) := by decide +kernel
theorem dX6_endCourse_14 : decode cX6_endCourse 14 = .ok (.if_icmp .gt 47, 3) := by decide +kernel
theorem dX6_endCourse_17 : decode cX6_endCourse 17 = .ok (.aload_n 0, 1) := by decide +kernel
theorem dX6_endCourse_18 : decode cX6_endCourse 18 = .ok (.getfield 13, 3) := by decide +kernel
theorem dX6_endCourse_21 : decode cX6_endCourse 21 = .ok (.iconst 0, 1) := by decide +kernel
theorem dX6_endCourse_22 : decode cX6_endCourse 22 = .ok (.aaload, 1) := by decide +kernel
theorem dX6_endCourse_23 : decode cX6_endCourse 23 = .ok (.iload_n 3, 1) := by decide +kernel
theorem dX6_endCourse_24 : decode cX6_endCourse 24 = .ok (.aload_n 0, 1) := by decide +kernel
theorem dX6_endCourse_25 : decode cX6_endCourse 25 = .ok (.getfield 13, 3) := by decide +kernel
theorem dX6_endCourse_28 : decode cX6_endCourse 28 = .ok (.iconst 0, 1) := by decide +kernel
theorem dX6_endCourse_29 : decode cX6_endCourse 29 = .ok (.aaload, 1) := by decide +kernel
theorem dX6_endCourse_30 : decode cX6_endCourse 30 = .ok (.iload_n 3, 1) := by decide +kernel
theorem dX6_endCourse_31 : decode cX6_endCourse 31 = .ok (.laload, 1) := by decide +kernel
theorem dX6_endCourse_32 : decode cX6_endCourse 32 = .ok (.aload_n 0, 1) := by decide +kernel
theorem dX6_endCourse_33 : decode cX6_endCourse 33 = .ok (.getfield 13, 3) := by decide +kernel
theorem dX6_endCourse_36 : decode cX6_endCourse 36 = .ok (.iload_n 2, 1) := by decide +kernel
theorem dX6_endCourse_37 : decode cX6_endCourse 37 = .ok (.aaload, 1) := by decide +kernel
theorem dX6_endCourse_38 : decode cX6_endCourse 38 = .ok (.iload_n 3, 1) := by decide +kernel
theorem dX6_endCourse_39 : decode cX6_endCourse 39 = .ok (.laload, 1) := by decide +kernel
theorem dX6_endCourse_40 : decode cX6_endCourse 40 = .ok (.invokestatic 99, 3) := by decide +kernel
theorem dX6_endCourse_43 : decode cX6_endCourse 43 = .ok (.lastore, 1) := by decide +kernel
theorem dX6_endCourse_44 : decode cX6_endCourse 44 = .ok (.aload_n 0, 1) := by decide +kernel
theorem dX6_endCourse_45 : decode cX6_endCourse 45 = .ok (.getfield 13, 3) := by decide +kernel
theorem dX6_endCourse_48 : decode cX6_endCourse 48 = .ok (.iload_n 2, 1) := by decide +kernel
theorem dX6_endCourse_49 : decode cX6_endCourse 49 = .ok (.aaload, 1) := by decide +kernel
theorem dX6_endCourse_50 : decode cX6_endCourse 50 = .ok (.iload_n 3, 1) := by decide +kernel
theorem dX6_endCourse_51 : decode cX6_endCourse 51 = .ok (.ldc2_w 50, 3) := by decide +kernel
theorem dX6_endCourse_54 : decode cX6_endCourse 54 = .ok (.lastore, 1) := by decide +kernel
theorem dX6_endCourse_55 : decode cX6_endCourse 55 = .ok (.iinc 3 1, 3) := by decide +kernel
theorem dX6_endCourse_58 : decode cX6_endCourse 58 = .ok (.goto (-49), 3) := by decide +kernel
theorem dX6_endCourse_61 : decode cX6_endCourse 61 = .ok (.iinc 2 1, 3) := by decide +kernel
theorem dX6_endCourse_64 : decode cX6_endCourse 64 = .ok (.goto (-62), 3) := by decide +kernel
theorem dX6_endCourse_67 : decode cX6_endCourse 67 = .ok (.return_, 1) := by decide +kernel
theorem dX6_forgetSets_0 : decode cX6_forgetSets 0 = .ok (.iconst 0, 1) := by decide +kernel
theorem dX6_forgetSets_1 : decode cX6_forgetSets 1 = .ok (.istore_n 1, 1) := by decide +kernel
theorem dX6_forgetSets_2 : decode cX6_forgetSets 2 = .ok (.iload_n 1, 1) := by decide +kernel
theorem dX6_forgetSets_3 : decode cX6_forgetSets 3 = .ok (.bipush 9, 2) := by decide +kernel
theorem dX6_forgetSets_5 : decode cX6_forgetSets 5 = .ok (.if_icmp .gt 36, 3) := by decide +kernel
theorem dX6_forgetSets_8 : decode cX6_forgetSets 8 = .ok (.iconst 0, 1) := by decide +kernel
theorem dX6_forgetSets_9 : decode cX6_forgetSets 9 = .ok (.istore_n 2, 1) := by decide +kernel
theorem dX6_forgetSets_10 : decode cX6_forgetSets 10 = .ok (.iload_n 2, 1) := by decide +kernel
theorem dX6_forgetSets_11 : decode cX6_forgetSets 11 = .ok (.aload_n 0, 1) := by decide +kernel
theorem dX6_forgetSets_12 : decode cX6_forgetSets 12 = .ok (.getfield 30, 3) := by decide +kernel
theorem dX6_forgetSets_15 : decode cX6_forgetSets 15 = .ok (.if_icmp .gt 20, 3) := by decide +kernel
theorem dX6_forgetSets_18 : decode cX6_forgetSets 18 = .ok (.aload_n 0, 1) := by decide +kernel
theorem dX6_forgetSets_19 : decode cX6_forgetSets 19 = .ok (.getfield 13, 3) := by decide +kernel
theorem dX6_forgetSets_22 : decode cX6_forgetSets 22 = .ok (.iload_n 1, 1) := by decide +kernel
theorem dX6_forgetSets_23 : decode cX6_forgetSets 23 = .ok (.aaload, 1) := by decide +kernel
theorem dX6_forgetSets_24 : decode cX6_forgetSets 24 = .ok (.iload_n 2, 1) := by decide +kernel
theorem dX6_forgetSets_25 : decode cX6_forgetSets 25 = .ok (.ldc2_w 50, 3) := by decide +kernel
theorem dX6_forgetSets_28 : decode cX6_forgetSets 28 = .ok (.lastore, 1) := by decide +kernel
theorem dX6_forgetSets_29 : decode cX6_forgetSets 29 = .ok (.iinc 2 1, 3) := by decide +kernel
theorem dX6_forgetSets_32 : decode cX6_forgetSets 32 = .ok (.goto (-22), 3) := by decide +kernel
theorem dX6_forgetSets_35 : decode cX6_forgetSets 35 = .ok (.iinc 1 1, 3) := by decide +kernel
theorem dX6_forgetSets_38 : decode cX6_forgetSets 38 = .ok (.goto (-36), 3) := by decide +kernel
theorem dX6_forgetSets_41 : decode cX6_forgetSets 41 = .ok (.return_, 1) := by decide +kernel
