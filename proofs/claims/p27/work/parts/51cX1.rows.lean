theorem dX1_init_0 : decode cX1_init 0 = .ok (.aload_n 0, 1) := by decide +kernel
theorem dX1_init_1 : decode cX1_init 1 = .ok (.invokespecial 3, 3) := by decide +kernel
theorem dX1_init_4 : decode cX1_init 4 = .ok (.aload_n 0, 1) := by decide +kernel
theorem dX1_init_5 : decode cX1_init 5 = .ok (.iconst 2, 1) := by decide +kernel
theorem dX1_init_6 : decode cX1_init 6 = .ok (.iconst 5, 1) := by decide +kernel
theorem dX1_init_7 : decode cX1_init 7 = .ok (.multianewarray 9 2, 4) := by decide +kernel
theorem dX1_init_11 : decode cX1_init 11 = .ok (.putfield 11, 3) := by decide +kernel
theorem dX1_init_14 : decode cX1_init 14 = .ok (.aload_n 0, 1) := by decide +kernel
theorem dX1_init_15 : decode cX1_init 15 = .ok (.iconst 2, 1) := by decide +kernel
theorem dX1_init_16 : decode cX1_init 16 = .ok (.newarray .int, 2) := by decide +kernel
theorem dX1_init_18 : decode cX1_init 18 = .ok (.putfield 16, 3) := by decide +kernel
theorem dX1_init_21 : decode cX1_init 21 = .ok (.aload_n 0, 1) := by decide +kernel
theorem dX1_init_22 : decode cX1_init 22 = .ok (.iconst 2, 1) := by decide +kernel
theorem dX1_init_23 : decode cX1_init 23 = .ok (.newarray .int, 2) := by decide +kernel
theorem dX1_init_25 : decode cX1_init 25 = .ok (.putfield 20, 3) := by decide +kernel
theorem dX1_init_28 : decode cX1_init 28 = .ok (.return_, 1) := by decide +kernel
set_option maxRecDepth 20000 in
theorem ggX1_lay_X1_clear : GoodIn wsX1_lay wsX1_clear := goodIn_r _ [10, 11, 12, 13, 14, 61, 62, 63, 64, 65] (by decide +kernel) (by decide +kernel)
set_option maxRecDepth 20000 in
theorem gX1_lay_X1_clear : GoodIn wsX1_lay (wsV RX1 23 RX1 yX1_clear wsX1_clear) := goodIn_app (goodIn_of _ (by decide +kernel)) ggX1_lay_X1_clear
set_option maxRecDepth 20000 in
theorem ggX1_lay_X8_sideIn : GoodIn wsX1_lay wsX8_sideIn := goodIn_r _ [17] (by decide +kernel) (by decide +kernel)
set_option maxRecDepth 20000 in
theorem gX1_lay_X8_sideIn_n31 : GoodIn wsX1_lay (wsX8_sideIn) := ggX1_lay_X8_sideIn
set_option maxRecDepth 20000 in
theorem ggX1_lay_X3_setting : GoodIn wsX1_lay wsX3_setting := goodIn_r _ [22, 23, 66, 67, 68, 69] (by decide +kernel) (by decide +kernel)
set_option maxRecDepth 20000 in
theorem gX1_lay_X3_setting : GoodIn wsX1_lay (wsV RX1 35 RX3 yX3_setting wsX3_setting) := goodIn_app (goodIn_of _ (by decide +kernel)) ggX1_lay_X3_setting
set_option maxRecDepth 20000 in
theorem ggX1_lay_X1_putCourse : GoodIn wsX1_lay wsX1_putCourse := goodIn_r _ [27, 11, 12, 13, 53, 54, 55, 56, 57, 58, 59, 60, 61, 62, 63, 64, 65] (by decide +kernel) (by decide +kernel)
set_option maxRecDepth 20000 in
theorem gX1_lay_X1_putCourse : GoodIn wsX1_lay (wsV RX1 41 RX1 yX1_putCourse wsX1_putCourse) := goodIn_app (goodIn_of _ (by decide +kernel)) ggX1_lay_X1_putCourse
set_option maxRecDepth 20000 in
theorem ggX1_lay_J6_bitCount_0f7a4 : GoodIn wsX1_lay wsJ6_bitCount_0f7a4 := goodIn_r _ [31, 32, 33, 34] (by decide +kernel) (by decide +kernel)
set_option maxRecDepth 20000 in
theorem gX1_lay_J6_bitCount_0f7a4 : GoodIn wsX1_lay (va_wsS RX1 49 yJ6_bitCount_0f7a4 wsJ6_bitCount_0f7a4) := goodIn_app (goodIn_of _ (by decide +kernel)) ggX1_lay_J6_bitCount_0f7a4
set_option maxRecDepth 20000 in
theorem ggX1_lay_X1_putKey : GoodIn wsX1_lay wsX1_putKey := goodIn_r _ [38, 12, 14, 11, 13, 39, 40, 41, 9, 42, 43, 44, 45, 46, 47, 16, 48, 61, 62, 63, 64, 65] (by decide +kernel) (by decide +kernel)
set_option maxRecDepth 20000 in
theorem gX1_lay_X1_putKey : GoodIn wsX1_lay (wsV RX1 54 RX1 yX1_putKey wsX1_putKey) := goodIn_app (goodIn_of _ (by decide +kernel)) ggX1_lay_X1_putKey
set_option maxRecDepth 20000 in
theorem ggX1_lay_X1_linesOf : GoodIn wsX1_lay wsX1_linesOf := goodIn_r _ [42, 43, 44, 45, 9, 46, 11, 61, 62, 63, 64, 65] (by decide +kernel) (by decide +kernel)
set_option maxRecDepth 20000 in
theorem gX1_lay_X1_linesOf : GoodIn wsX1_lay (wsV RX1 58 RX1 yX1_linesOf wsX1_linesOf) := goodIn_app (goodIn_of _ (by decide +kernel)) ggX1_lay_X1_linesOf
set_option maxRecDepth 20000 in
theorem ggX1_lay_X1_putFill : GoodIn wsX1_lay wsX1_putFill := goodIn_r _ [52, 13, 5, 11, 39, 40, 41, 9, 42, 43, 44, 45, 46, 47, 16, 48, 61, 62, 63, 64, 65] (by decide +kernel) (by decide +kernel)
set_option maxRecDepth 20000 in
theorem gX1_lay_X1_putFill : GoodIn wsX1_lay (wsV RX1 69 RX1 yX1_putFill wsX1_putFill) := goodIn_app (goodIn_of _ (by decide +kernel)) ggX1_lay_X1_putFill
theorem dX1_lay_0 : decode cX1_lay 0 = .ok (.aload_n 0, 1) := by decide +kernel
theorem dX1_lay_1 : decode cX1_lay 1 = .ok (.invokevirtual 23, 3) := by decide +kernel
theorem dX1_lay_4 : decode cX1_lay 4 = .ok (.iconst 0, 1) := by decide +kernel
theorem dX1_lay_5 : decode cX1_lay 5 = .ok (.istore 4, 2) := by decide +kernel
theorem dX1_lay_7 : decode cX1_lay 7 = .ok (.iload 4, 2) := by decide +kernel
theorem dX1_lay_9 : decode cX1_lay 9 = .ok (.iconst 4, 1) := by decide +kernel
theorem dX1_lay_10 : decode cX1_lay 10 = .ok (.if_icmp .ge 37, 3) := by decide +kernel
theorem dX1_lay_13 : decode cX1_lay 13 = .ok (.aload_n 1, 1) := by decide +kernel
theorem dX1_lay_14 : decode cX1_lay 14 = .ok (.getfield 26, 3) := by decide +kernel
theorem dX1_lay_17 : decode cX1_lay 17 = .ok (.iload 4, 2) := by decide +kernel
theorem dX1_lay_19 : decode cX1_lay 19 = .ok (.iaload, 1) := by decide +kernel
theorem dX1_lay_20 : decode cX1_lay 20 = .ok (.ifCond .le 21, 3) := by decide +kernel
theorem dX1_lay_23 : decode cX1_lay 23 = .ok (.aload_n 0, 1) := by decide +kernel
theorem dX1_lay_24 : decode cX1_lay 24 = .ok (.aload_n 1, 1) := by decide +kernel
theorem dX1_lay_25 : decode cX1_lay 25 = .ok (.iload 4, 2) := by decide +kernel
theorem dX1_lay_27 : decode cX1_lay 27 = .ok (.iload_n 3, 1) := by decide +kernel
theorem dX1_lay_28 : decode cX1_lay 28 = .ok (.iload 4, 2) := by decide +kernel
theorem dX1_lay_30 : decode cX1_lay 30 = .ok (.invokestatic 31, 3) := by decide +kernel
theorem dX1_lay_33 : decode cX1_lay 33 = .ok (.aload_n 2, 1) := by decide +kernel
theorem dX1_lay_34 : decode cX1_lay 34 = .ok (.iconst 3, 1) := by decide +kernel
theorem dX1_lay_35 : decode cX1_lay 35 = .ok (.invokevirtual 35, 3) := by decide +kernel
theorem dX1_lay_38 : decode cX1_lay 38 = .ok (.invokevirtual 41, 3) := by decide +kernel
theorem dX1_lay_41 : decode cX1_lay 41 = .ok (.iinc 4 1, 3) := by decide +kernel
theorem dX1_lay_44 : decode cX1_lay 44 = .ok (.goto (-37), 3) := by decide +kernel
theorem dX1_lay_47 : decode cX1_lay 47 = .ok (.aload_n 0, 1) := by decide +kernel
theorem dX1_lay_48 : decode cX1_lay 48 = .ok (.aload_n 1, 1) := by decide +kernel
theorem dX1_lay_49 : decode cX1_lay 49 = .ok (.getfield 45, 3) := by decide +kernel
theorem dX1_lay_52 : decode cX1_lay 52 = .ok (.invokestatic 49, 3) := by decide +kernel
theorem dX1_lay_55 : decode cX1_lay 55 = .ok (.invokevirtual 54, 3) := by decide +kernel
theorem dX1_lay_58 : decode cX1_lay 58 = .ok (.aload_n 0, 1) := by decide +kernel
theorem dX1_lay_59 : decode cX1_lay 59 = .ok (.aload_n 0, 1) := by decide +kernel
theorem dX1_lay_60 : decode cX1_lay 60 = .ok (.iconst 0, 1) := by decide +kernel
theorem dX1_lay_61 : decode cX1_lay 61 = .ok (.invokevirtual 58, 3) := by decide +kernel
theorem dX1_lay_64 : decode cX1_lay 64 = .ok (.aload_n 0, 1) := by decide +kernel
theorem dX1_lay_65 : decode cX1_lay 65 = .ok (.iconst 1, 1) := by decide +kernel
theorem dX1_lay_66 : decode cX1_lay 66 = .ok (.invokevirtual 58, 3) := by decide +kernel
theorem dX1_lay_69 : decode cX1_lay 69 = .ok (.isub, 1) := by decide +kernel
theorem dX1_lay_70 : decode cX1_lay 70 = .ok (.invokestatic 61, 3) := by decide +kernel
theorem dX1_lay_73 : decode cX1_lay 73 = .ok (.putfield 66, 3) := by decide +kernel
theorem dX1_lay_76 : decode cX1_lay 76 = .ok (.aload_n 0, 1) := by decide +kernel
theorem dX1_lay_77 : decode cX1_lay 77 = .ok (.aload_n 2, 1) := by decide +kernel
theorem dX1_lay_78 : decode cX1_lay 78 = .ok (.iconst 4, 1) := by decide +kernel
theorem dX1_lay_79 : decode cX1_lay 79 = .ok (.invokevirtual 35, 3) := by decide +kernel
theorem dX1_lay_82 : decode cX1_lay 82 = .ok (.invokevirtual 69, 3) := by decide +kernel
theorem dX1_lay_85 : decode cX1_lay 85 = .ok (.return_, 1) := by decide +kernel
theorem dX1_partOf_0 : decode cX1_partOf 0 = .ok (.iload_n 1, 1) := by decide +kernel
theorem dX1_partOf_1 : decode cX1_partOf 1 = .ok (.ifCond .eq 8, 3) := by decide +kernel
theorem dX1_partOf_4 : decode cX1_partOf 4 = .ok (.iload_n 1, 1) := by decide +kernel
theorem dX1_partOf_5 : decode cX1_partOf 5 = .ok (.iconst 1, 1) := by decide +kernel
theorem dX1_partOf_6 : decode cX1_partOf 6 = .ok (.if_icmp .ne 24, 3) := by decide +kernel
theorem dX1_partOf_9 : decode cX1_partOf 9 = .ok (.iconst 0, 1) := by decide +kernel
theorem dX1_partOf_10 : decode cX1_partOf 10 = .ok (.iload_n 2, 1) := by decide +kernel
theorem dX1_partOf_11 : decode cX1_partOf 11 = .ok (.if_icmp .gt 19, 3) := by decide +kernel
theorem dX1_partOf_14 : decode cX1_partOf 14 = .ok (.iload_n 2, 1) := by decide +kernel
theorem dX1_partOf_15 : decode cX1_partOf 15 = .ok (.iconst 5, 1) := by decide +kernel
theorem dX1_partOf_16 : decode cX1_partOf 16 = .ok (.if_icmp .ge 14, 3) := by decide +kernel
theorem dX1_partOf_19 : decode cX1_partOf 19 = .ok (.aload_n 0, 1) := by decide +kernel
theorem dX1_partOf_20 : decode cX1_partOf 20 = .ok (.getfield 11, 3) := by decide +kernel
theorem dX1_partOf_23 : decode cX1_partOf 23 = .ok (.iload_n 1, 1) := by decide +kernel
theorem dX1_partOf_24 : decode cX1_partOf 24 = .ok (.aaload, 1) := by decide +kernel
theorem dX1_partOf_25 : decode cX1_partOf 25 = .ok (.iload_n 2, 1) := by decide +kernel
theorem dX1_partOf_26 : decode cX1_partOf 26 = .ok (.iaload, 1) := by decide +kernel
theorem dX1_partOf_27 : decode cX1_partOf 27 = .ok (.goto 4, 3) := by decide +kernel
theorem dX1_partOf_30 : decode cX1_partOf 30 = .ok (.iconst 0, 1) := by decide +kernel
theorem dX1_partOf_31 : decode cX1_partOf 31 = .ok (.ireturn, 1) := by decide +kernel
set_option maxRecDepth 20000 in
theorem ggX1_linesOf_X1_partOf : GoodIn wsX1_linesOf wsX1_partOf := goodIn_r _ [5, 6, 7, 8, 9, 10, 11] (by decide +kernel) (by decide +kernel)
set_option maxRecDepth 20000 in
theorem gX1_linesOf_X1_partOf : GoodIn wsX1_linesOf (wsV RX1 72 RX1 yX1_partOf wsX1_partOf) := goodIn_app (goodIn_of _ (by decide +kernel)) ggX1_linesOf_X1_partOf
theorem dX1_linesOf_0 : decode cX1_linesOf 0 = .ok (.iconst 0, 1) := by decide +kernel
theorem dX1_linesOf_1 : decode cX1_linesOf 1 = .ok (.istore_n 2, 1) := by decide +kernel
theorem dX1_linesOf_2 : decode cX1_linesOf 2 = .ok (.iconst 0, 1) := by decide +kernel
theorem dX1_linesOf_3 : decode cX1_linesOf 3 = .ok (.istore_n 3, 1) := by decide +kernel
theorem dX1_linesOf_4 : decode cX1_linesOf 4 = .ok (.iload_n 3, 1) := by decide +kernel
theorem dX1_linesOf_5 : decode cX1_linesOf 5 = .ok (.iconst 5, 1) := by decide +kernel
theorem dX1_linesOf_6 : decode cX1_linesOf 6 = .ok (.if_icmp .ge 18, 3) := by decide +kernel
theorem dX1_linesOf_9 : decode cX1_linesOf 9 = .ok (.iload_n 2, 1) := by decide +kernel
theorem dX1_linesOf_10 : decode cX1_linesOf 10 = .ok (.aload_n 0, 1) := by decide +kernel
theorem dX1_linesOf_11 : decode cX1_linesOf 11 = .ok (.iload_n 1, 1) := by decide +kernel
theorem dX1_linesOf_12 : decode cX1_linesOf 12 = .ok (.iload_n 3, 1) := by decide +kernel
theorem dX1_linesOf_13 : decode cX1_linesOf 13 = .ok (.invokevirtual 72, 3) := by decide +kernel
theorem dX1_linesOf_16 : decode cX1_linesOf 16 = .ok (.iadd, 1) := by decide +kernel
theorem dX1_linesOf_17 : decode cX1_linesOf 17 = .ok (.istore_n 2, 1) := by decide +kernel
theorem dX1_linesOf_18 : decode cX1_linesOf 18 = .ok (.iinc 3 1, 3) := by decide +kernel
theorem dX1_linesOf_21 : decode cX1_linesOf 21 = .ok (.goto (-17), 3) := by decide +kernel
theorem dX1_linesOf_24 : decode cX1_linesOf 24 = .ok (.iload_n 2, 1) := by decide +kernel
theorem dX1_linesOf_25 : decode cX1_linesOf 25 = .ok (.ireturn, 1) := by decide +kernel
set_option maxRecDepth 20000 in
theorem ggX1_weightOf_X8_isSide : GoodIn wsX1_weightOf wsX8_isSide := goodIn_r _ [4, 5, 6, 3, 7] (by decide +kernel) (by decide +kernel)
set_option maxRecDepth 20000 in
theorem gX1_weightOf_X8_isSide_n75 : GoodIn wsX1_weightOf (wsX8_isSide) := ggX1_weightOf_X8_isSide
theorem dX1_weightOf_0 : decode cX1_weightOf 0 = .ok (.iload_n 1, 1) := by decide +kernel
theorem dX1_weightOf_1 : decode cX1_weightOf 1 = .ok (.invokestatic 75, 3) := by decide +kernel
theorem dX1_weightOf_4 : decode cX1_weightOf 4 = .ok (.ifCond .eq 12, 3) := by decide +kernel
theorem dX1_weightOf_7 : decode cX1_weightOf 7 = .ok (.aload_n 0, 1) := by decide +kernel
theorem dX1_weightOf_8 : decode cX1_weightOf 8 = .ok (.getfield 16, 3) := by decide +kernel
theorem dX1_weightOf_11 : decode cX1_weightOf 11 = .ok (.iload_n 1, 1) := by decide +kernel
theorem dX1_weightOf_12 : decode cX1_weightOf 12 = .ok (.iaload, 1) := by decide +kernel
theorem dX1_weightOf_13 : decode cX1_weightOf 13 = .ok (.goto 4, 3) := by decide +kernel
theorem dX1_weightOf_16 : decode cX1_weightOf 16 = .ok (.iconst 0, 1) := by decide +kernel
theorem dX1_weightOf_17 : decode cX1_weightOf 17 = .ok (.ireturn, 1) := by decide +kernel
set_option maxRecDepth 20000 in
theorem ggX1_fill_X1_partOf : GoodIn wsX1_fill wsX1_partOf := goodIn_r _ [5, 6, 7, 8, 9, 10, 11] (by decide +kernel) (by decide +kernel)
set_option maxRecDepth 20000 in
theorem gX1_fill_X1_partOf : GoodIn wsX1_fill (wsV RX1 72 RX1 yX1_partOf wsX1_partOf) := goodIn_app (goodIn_of _ (by decide +kernel)) ggX1_fill_X1_partOf
theorem dX1_fill_0 : decode cX1_fill 0 = .ok (.aload_n 0, 1) := by decide +kernel
theorem dX1_fill_1 : decode cX1_fill 1 = .ok (.iconst 0, 1) := by decide +kernel
theorem dX1_fill_2 : decode cX1_fill 2 = .ok (.iconst 4, 1) := by decide +kernel
theorem dX1_fill_3 : decode cX1_fill 3 = .ok (.invokevirtual 72, 3) := by decide +kernel
theorem dX1_fill_6 : decode cX1_fill 6 = .ok (.aload_n 0, 1) := by decide +kernel
theorem dX1_fill_7 : decode cX1_fill 7 = .ok (.iconst 1, 1) := by decide +kernel
theorem dX1_fill_8 : decode cX1_fill 8 = .ok (.iconst 4, 1) := by decide +kernel
theorem dX1_fill_9 : decode cX1_fill 9 = .ok (.invokevirtual 72, 3) := by decide +kernel
theorem dX1_fill_12 : decode cX1_fill 12 = .ok (.iadd, 1) := by decide +kernel
theorem dX1_fill_13 : decode cX1_fill 13 = .ok (.ireturn, 1) := by decide +kernel
set_option maxRecDepth 20000 in
theorem ggX1_fillAt_X1_partOf : GoodIn wsX1_fillAt wsX1_partOf := goodIn_r _ [6, 7, 8, 9, 10, 11, 12] (by decide +kernel) (by decide +kernel)
set_option maxRecDepth 20000 in
theorem gX1_fillAt_X1_partOf : GoodIn wsX1_fillAt (wsV RX1 72 RX1 yX1_partOf wsX1_partOf) := goodIn_app (goodIn_of _ (by decide +kernel)) ggX1_fillAt_X1_partOf
theorem dX1_fillAt_0 : decode cX1_fillAt 0 = .ok (.iload_n 1, 1) := by decide +kernel
theorem dX1_fillAt_1 : decode cX1_fillAt 1 = .ok (.ifCond .eq 8, 3) := by decide +kernel
theorem dX1_fillAt_4 : decode cX1_fillAt 4 = .ok (.iload_n 1, 1) := by decide +kernel
theorem dX1_fillAt_5 : decode cX1_fillAt 5 = .ok (.iconst 1, 1) := by decide +kernel
theorem dX1_fillAt_6 : decode cX1_fillAt 6 = .ok (.if_icmp .ne 12, 3) := by decide +kernel
theorem dX1_fillAt_9 : decode cX1_fillAt 9 = .ok (.aload_n 0, 1) := by decide +kernel
theorem dX1_fillAt_10 : decode cX1_fillAt 10 = .ok (.getfield 20, 3) := by decide +kernel
theorem dX1_fillAt_13 : decode cX1_fillAt 13 = .ok (.iload_n 1, 1) := by decide +kernel
theorem dX1_fillAt_14 : decode cX1_fillAt 14 = .ok (.iaload, 1) := by decide +kernel
theorem dX1_fillAt_15 : decode cX1_fillAt 15 = .ok (.goto 4, 3) := by decide +kernel
theorem dX1_fillAt_18 : decode cX1_fillAt 18 = .ok (.iconst 0, 1) := by decide +kernel
theorem dX1_fillAt_19 : decode cX1_fillAt 19 = .ok (.istore_n 3, 1) := by decide +kernel
theorem dX1_fillAt_20 : decode cX1_fillAt 20 = .ok (.iload_n 2, 1) := by decide +kernel
theorem dX1_fillAt_21 : decode cX1_fillAt 21 = .ok (.ifCond .lt 8, 3) := by decide +kernel
theorem dX1_fillAt_24 : decode cX1_fillAt 24 = .ok (.iload_n 2, 1) := by decide +kernel
theorem dX1_fillAt_25 : decode cX1_fillAt 25 = .ok (.iload_n 3, 1) := by decide +kernel
theorem dX1_fillAt_26 : decode cX1_fillAt 26 = .ok (.if_icmp .lt 5, 3) := by decide +kernel
theorem dX1_fillAt_29 : decode cX1_fillAt 29 = .ok (.iconst 0, 1) := by decide +kernel
theorem dX1_fillAt_30 : decode cX1_fillAt 30 = .ok (.ireturn, 1) := by decide +kernel
theorem dX1_fillAt_31 : decode cX1_fillAt 31 = .ok (.aload_n 0, 1) := by decide +kernel
theorem dX1_fillAt_32 : decode cX1_fillAt 32 = .ok (.iload_n 1, 1) := by decide +kernel
theorem dX1_fillAt_33 : decode cX1_fillAt 33 = .ok (.iconst 4, 1) := by decide +kernel
theorem dX1_fillAt_34 : decode cX1_fillAt 34 = .ok (.invokevirtual 72, 3) := by decide +kernel
theorem dX1_fillAt_37 : decode cX1_fillAt 37 = .ok (.istore 4, 2) := by decide +kernel
theorem dX1_fillAt_39 : decode cX1_fillAt 39 = .ok (.iload 4, 2) := by decide +kernel
theorem dX1_fillAt_41 : decode cX1_fillAt 41 = .ok (.iload_n 3, 1) := by decide +kernel
theorem dX1_fillAt_42 : decode cX1_fillAt 42 = .ok (.idiv, 1) := by decide +kernel
theorem dX1_fillAt_43 : decode cX1_fillAt 43 = .ok (.iload_n 2, 1) := by decide +kernel
theorem dX1_fillAt_44 : decode cX1_fillAt 44 = .ok (.iload 4, 2) := by decide +kernel
theorem dX1_fillAt_46 : decode cX1_fillAt 46 = .ok (.iload_n 3, 1) := by decide +kernel
theorem dX1_fillAt_47 : decode cX1_fillAt 47 = .ok (.irem, 1) := by decide +kernel
theorem dX1_fillAt_48 : decode cX1_fillAt 48 = .ok (.if_icmp .ge 7, 3) := by decide +kernel
theorem dX1_fillAt_51 : decode cX1_fillAt 51 = .ok (.iconst 1, 1) := by decide +kernel
theorem dX1_fillAt_52 : decode cX1_fillAt 52 = .ok (.goto 4, 3) := by decide +kernel
theorem dX1_fillAt_55 : decode cX1_fillAt 55 = .ok (.iconst 0, 1) := by decide +kernel
theorem dX1_fillAt_56 : decode cX1_fillAt 56 = .ok (.iadd, 1) := by decide +kernel
theorem dX1_fillAt_57 : decode cX1_fillAt 57 = .ok (.ireturn, 1) := by decide +kernel
set_option maxRecDepth 20000 in
theorem ggX1_isEven_X1_linesOf : GoodIn wsX1_isEven wsX1_linesOf := goodIn_r _ [5, 6, 7, 8, 4, 9, 10, 11, 12, 13, 14, 15] (by decide +kernel) (by decide +kernel)
set_option maxRecDepth 20000 in
theorem gX1_isEven_X1_linesOf : GoodIn wsX1_isEven (wsV RX1 58 RX1 yX1_linesOf wsX1_linesOf) := goodIn_app (goodIn_of _ (by decide +kernel)) ggX1_isEven_X1_linesOf
theorem dX1_isEven_0 : decode cX1_isEven 0 = .ok (.aload_n 0, 1) := by decide +kernel
theorem dX1_isEven_1 : decode cX1_isEven 1 = .ok (.iconst 0, 1) := by decide +kernel
theorem dX1_isEven_2 : decode cX1_isEven 2 = .ok (.invokevirtual 58, 3) := by decide +kernel
theorem dX1_isEven_5 : decode cX1_isEven 5 = .ok (.aload_n 0, 1) := by decide +kernel
theorem dX1_isEven_6 : decode cX1_isEven 6 = .ok (.iconst 1, 1) := by decide +kernel
theorem dX1_isEven_7 : decode cX1_isEven 7 = .ok (.invokevirtual 58, 3) := by decide +kernel
theorem dX1_isEven_10 : decode cX1_isEven 10 = .ok (.if_icmp .ne 7, 3) := by decide +kernel
theorem dX1_isEven_13 : decode cX1_isEven 13 = .ok (.iconst 1, 1) := by decide +kernel
theorem dX1_isEven_14 : decode cX1_isEven 14 = .ok (.goto 4, 3) := by decide +kernel
theorem dX1_isEven_17 : decode cX1_isEven 17 = .ok (.iconst 0, 1) := by decide +kernel
theorem dX1_isEven_18 : decode cX1_isEven 18 = .ok (.ireturn, 1) := by decide +kernel
theorem dX1_difference_0 : decode cX1_difference 0 = .ok (.aload_n 0, 1) := by decide +kernel
theorem dX1_difference_1 : decode cX1_difference 1 = .ok (.getfield 16, 3) := by decide +kernel
theorem dX1_difference_4 : decode cX1_difference 4 = .ok (.iconst 0, 1) := by decide +kernel
theorem dX1_difference_5 : decode cX1_difference 5 = .ok (.iaload, 1) := by decide +kernel
theorem dX1_difference_6 : decode cX1_difference 6 = .ok (.aload_n 0, 1) := by decide +kernel
theorem dX1_difference_7 : decode cX1_difference 7 = .ok (.getfield 16, 3) := by decide +kernel
theorem dX1_difference_10 : decode cX1_difference 10 = .ok (.iconst 1, 1) := by decide +kernel
theorem dX1_difference_11 : decode cX1_difference 11 = .ok (.iaload, 1) := by decide +kernel
theorem dX1_difference_12 : decode cX1_difference 12 = .ok (.isub, 1) := by decide +kernel
theorem dX1_difference_13 : decode cX1_difference 13 = .ok (.invokestatic 61, 3) := by decide +kernel
theorem dX1_difference_16 : decode cX1_difference 16 = .ok (.ireturn, 1) := by decide +kernel
set_option maxRecDepth 20000 in
theorem ggX1_longest_X1_linesOf : GoodIn wsX1_longest wsX1_linesOf := goodIn_r _ [9, 10, 11, 12, 8, 13, 14, 15, 16, 17, 18, 19] (by decide +kernel) (by decide +kernel)
set_option maxRecDepth 20000 in
theorem gX1_longest_X1_linesOf : GoodIn wsX1_longest (wsV RX1 58 RX1 yX1_linesOf wsX1_linesOf) := goodIn_app (goodIn_of _ (by decide +kernel)) ggX1_longest_X1_linesOf
theorem dX1_longest_0 : decode cX1_longest 0 = .ok (.aload_n 0, 1) := by decide +kernel
theorem dX1_longest_1 : decode cX1_longest 1 = .ok (.iconst 0, 1) := by decide +kernel
theorem dX1_longest_2 : decode cX1_longest 2 = .ok (.invokevirtual 58, 3) := by decide +kernel
theorem dX1_longest_5 : decode cX1_longest 5 = .ok (.aload_n 0, 1) := by decide +kernel
theorem dX1_longest_6 : decode cX1_longest 6 = .ok (.iconst 1, 1) := by decide +kernel
theorem dX1_longest_7 : decode cX1_longest 7 = .ok (.invokevirtual 58, 3) := by decide +kernel
theorem dX1_longest_10 : decode cX1_longest 10 = .ok (.invokestatic 79, 3) := by decide +kernel
theorem dX1_longest_13 : decode cX1_longest 13 = .ok (.ireturn, 1) := by decide +kernel
set_option maxRecDepth 20000 in
theorem ggX1_isBetterThan_X1_isEven : GoodIn wsX1_isBetterThan wsX1_isEven := goodIn_r _ [5, 6, 7, 8, 4, 9, 10, 11, 12, 13, 14, 31, 32, 33, 34, 35] (by decide +kernel) (by decide +kernel)
set_option maxRecDepth 20000 in
theorem gX1_isBetterThan_X1_isEven : GoodIn wsX1_isBetterThan (wsV RX1 82 RX1 yX1_isEven wsX1_isEven) := goodIn_app (goodIn_of _ (by decide +kernel)) ggX1_isBetterThan_X1_isEven
set_option maxRecDepth 20000 in
theorem ggX1_isBetterThan_X1_difference : GoodIn wsX1_isBetterThan wsX1_difference := goodIn_r _ [18, 19, 20, 21, 22, 23, 31, 32, 33, 34, 35] (by decide +kernel) (by decide +kernel)
set_option maxRecDepth 20000 in
theorem gX1_isBetterThan_X1_difference : GoodIn wsX1_isBetterThan (wsV RX1 86 RX1 yX1_difference wsX1_difference) := goodIn_app (goodIn_of _ (by decide +kernel)) ggX1_isBetterThan_X1_difference
set_option maxRecDepth 20000 in
theorem ggX1_isBetterThan_X1_longest : GoodIn wsX1_isBetterThan wsX1_longest := goodIn_r _ [27, 28, 29, 22, 30, 6, 7, 8, 4, 9, 10, 11, 12, 13, 14, 31, 32, 33, 34, 35] (by decide +kernel) (by decide +kernel)
set_option maxRecDepth 20000 in
theorem gX1_isBetterThan_X1_longest : GoodIn wsX1_isBetterThan (wsV RX1 90 RX1 yX1_longest wsX1_longest) := goodIn_app (goodIn_of _ (by decide +kernel)) ggX1_isBetterThan_X1_longest
theorem dX1_isBetterThan_0 : decode cX1_isBetterThan 0 = .ok (.aload_n 0, 1) := by decide +kernel
theorem dX1_isBetterThan_1 : decode cX1_isBetterThan 1 = .ok (.invokevirtual 82, 3) := by decide +kernel
theorem dX1_isBetterThan_4 : decode cX1_isBetterThan 4 = .ok (.aload_n 1, 1) := by decide +kernel
theorem dX1_isBetterThan_5 : decode cX1_isBetterThan 5 = .ok (.invokevirtual 82, 3) := by decide +kernel
theorem dX1_isBetterThan_8 : decode cX1_isBetterThan 8 = .ok (.if_icmp .eq 8, 3) := by decide +kernel
theorem dX1_isBetterThan_11 : decode cX1_isBetterThan 11 = .ok (.aload_n 0, 1) := by decide +kernel
theorem dX1_isBetterThan_12 : decode cX1_isBetterThan 12 = .ok (.invokevirtual 82, 3) := by decide +kernel
theorem dX1_isBetterThan_15 : decode cX1_isBetterThan 15 = .ok (.ireturn, 1) := by decide +kernel
theorem dX1_isBetterThan_16 : decode cX1_isBetterThan 16 = .ok (.aload_n 0, 1) := by decide +kernel
theorem dX1_isBetterThan_17 : decode cX1_isBetterThan 17 = .ok (.invokevirtual 86, 3) := by decide +kernel
theorem dX1_isBetterThan_20 : decode cX1_isBetterThan 20 = .ok (.aload_n 1, 1) := by decide +kernel
theorem dX1_isBetterThan_21 : decode cX1_isBetterThan 21 = .ok (.invokevirtual 86, 3) := by decide +kernel
theorem dX1_isBetterThan_24 : decode cX1_isBetterThan 24 = .ok (.if_icmp .eq 20, 3) := by decide +kernel
theorem dX1_isBetterThan_27 : decode cX1_isBetterThan 27 = .ok (.aload_n 0, 1) := by decide +kernel
theorem dX1_isBetterThan_28 : decode cX1_isBetterThan 28 = .ok (.invokevirtual 86, 3) := by decide +kernel
theorem dX1_isBetterThan_31 : decode cX1_isBetterThan 31 = .ok (.aload_n 1, 1) := by decide +kernel
theorem dX1_isBetterThan_32 : decode cX1_isBetterThan 32 = .ok (.invokevirtual 86, 3) := by decide +kernel
theorem dX1_isBetterThan_35 : decode cX1_isBetterThan 35 = .ok (.if_icmp .ge 7, 3) := by decide +kernel
theorem dX1_isBetterThan_38 : decode cX1_isBetterThan 38 = .ok (.iconst 1, 1) := by decide +kernel
theorem dX1_isBetterThan_39 : decode cX1_isBetterThan 39 = .ok (.goto 4, 3) := by decide +kernel
theorem dX1_isBetterThan_42 : decode cX1_isBetterThan 42 = .ok (.iconst 0, 1) := by decide +kernel
theorem dX1_isBetterThan_43 : decode cX1_isBetterThan 43 = .ok (.ireturn, 1) := by decide +kernel
theorem dX1_isBetterThan_44 : decode cX1_isBetterThan 44 = .ok (.aload_n 0, 1) := by decide +kernel
theorem dX1_isBetterThan_45 : decode cX1_isBetterThan 45 = .ok (.invokevirtual 90, 3) := by decide +kernel
theorem dX1_isBetterThan_48 : decode cX1_isBetterThan 48 = .ok (.aload_n 1, 1) := by decide +kernel
theorem dX1_isBetterThan_49 : decode cX1_isBetterThan 49 = .ok (.invokevirtual 90, 3) := by decide +kernel
theorem dX1_isBetterThan_52 : decode cX1_isBetterThan 52 = .ok (.if_icmp .ge 7, 3) := by decide +kernel
theorem dX1_isBetterThan_55 : decode cX1_isBetterThan 55 = .ok (.iconst 1, 1) := by decide +kernel
theorem dX1_isBetterThan_56 : decode cX1_isBetterThan 56 = .ok (.goto 4, 3) := by decide +kernel
theorem dX1_isBetterThan_59 : decode cX1_isBetterThan 59 = .ok (.iconst 0, 1) := by decide +kernel
theorem dX1_isBetterThan_60 : decode cX1_isBetterThan 60 = .ok (.ireturn, 1) := by decide +kernel
theorem dX1_clear_0 : decode cX1_clear 0 = .ok (.iconst 0, 1) := by decide +kernel
theorem dX1_clear_1 : decode cX1_clear 1 = .ok (.istore_n 1, 1) := by decide +kernel
theorem dX1_clear_2 : decode cX1_clear 2 = .ok (.iload_n 1, 1) := by decide +kernel
theorem dX1_clear_3 : decode cX1_clear 3 = .ok (.iconst 2, 1) := by decide +kernel
theorem dX1_clear_4 : decode cX1_clear 4 = .ok (.if_icmp .ge 45, 3) := by decide +kernel
theorem dX1_clear_7 : decode cX1_clear 7 = .ok (.iconst 0, 1) := by decide +kernel
theorem dX1_clear_8 : decode cX1_clear 8 = .ok (.istore_n 2, 1) := by decide +kernel
theorem dX1_clear_9 : decode cX1_clear 9 = .ok (.iload_n 2, 1) := by decide +kernel
theorem dX1_clear_10 : decode cX1_clear 10 = .ok (.iconst 5, 1) := by decide +kernel
theorem dX1_clear_11 : decode cX1_clear 11 = .ok (.if_icmp .ge 18, 3) := by decide +kernel
theorem dX1_clear_14 : decode cX1_clear 14 = .ok (.aload_n 0, 1) := by decide +kernel
theorem dX1_clear_15 : decode cX1_clear 15 = .ok (.getfield 11, 3) := by decide +kernel
theorem dX1_clear_18 : decode cX1_clear 18 = .ok (.iload_n 1, 1) := by decide +kernel
theorem dX1_clear_19 : decode cX1_clear 19 = .ok (.aaload, 1) := by decide +kernel
theorem dX1_clear_20 : decode cX1_clear 20 = .ok (.iload_n 2, 1) := by decide +kernel
theorem dX1_clear_21 : decode cX1_clear 21 = .ok (.iconst 0, 1) := by decide +kernel
theorem dX1_clear_22 : decode cX1_clear 22 = .ok (.iastore, 1) := by decide +kernel
theorem dX1_clear_23 : decode cX1_clear 23 = .ok (.iinc 2 1, 3) := by decide +kernel
theorem dX1_clear_26 : decode cX1_clear 26 = .ok (.goto (-17), 3) := by decide +kernel
theorem dX1_clear_29 : decode cX1_clear 29 = .ok (.aload_n 0, 1) := by decide +kernel
theorem dX1_clear_30 : decode cX1_clear 30 = .ok (.getfield 16, 3) := by decide +kernel
theorem dX1_clear_33 : decode cX1_clear 33 = .ok (.iload_n 1, 1) := by decide +kernel
theorem dX1_clear_34 : decode cX1_clear 34 = .ok (.iconst 0, 1) := by decide +kernel
theorem dX1_clear_35 : decode cX1_clear 35 = .ok (.iastore, 1) := by decide +kernel
theorem dX1_clear_36 : decode cX1_clear 36 = .ok (.aload_n 0, 1) := by decide +kernel
theorem dX1_clear_37 : decode cX1_clear 37 = .ok (.getfield 20, 3) := by decide +kernel
theorem dX1_clear_40 : decode cX1_clear 40 = .ok (.iload_n 1, 1) := by decide +kernel
theorem dX1_clear_41 : decode cX1_clear 41 = .ok (.iconst (-1), 1) := by decide +kernel
theorem dX1_clear_42 : decode cX1_clear 42 = .ok (.iastore, 1) := by decide +kernel
theorem dX1_clear_43 : decode cX1_clear 43 = .ok (.iinc 1 1, 3) := by decide +kernel
theorem dX1_clear_46 : decode cX1_clear 46 = .ok (.goto (-44), 3) := by decide +kernel
theorem dX1_clear_49 : decode cX1_clear 49 = .ok (.aload_n 0, 1) := by decide +kernel
theorem dX1_clear_50 : decode cX1_clear 50 = .ok (.bipush (-99), 2) := by decide +kernel
theorem dX1_clear_52 : decode cX1_clear 52 = .ok (.putfield 93, 3) := by decide +kernel
theorem dX1_clear_55 : decode cX1_clear 55 = .ok (.return_, 1) := by decide +kernel
theorem dX1_putCourse_0 : decode cX1_putCourse 0 = .ok (.aload_n 1, 1) := by decide +kernel
theorem dX1_putCourse_1 : decode cX1_putCourse 1 = .ok (.getfield 26, 3) := by decide +kernel
theorem dX1_putCourse_4 : decode cX1_putCourse 4 = .ok (.iload_n 2, 1) := by decide +kernel
theorem dX1_putCourse_5 : decode cX1_putCourse 5 = .ok (.iaload, 1) := by decide +kernel
theorem dX1_putCourse_6 : decode cX1_putCourse 6 = .ok (.istore 5, 2) := by decide +kernel
theorem dX1_putCourse_8 : decode cX1_putCourse 8 = .ok (.aload_n 0, 1) := by decide +kernel
theorem dX1_putCourse_9 : decode cX1_putCourse 9 = .ok (.getfield 11, 3) := by decide +kernel
theorem dX1_putCourse_12 : decode cX1_putCourse 12 = .ok (.iload_n 3, 1) := by decide +kernel
theorem dX1_putCourse_13 : decode cX1_putCourse 13 = .ok (.aaload, 1) := by decide +kernel
theorem dX1_putCourse_14 : decode cX1_putCourse 14 = .ok (.iconst 0, 1) := by decide +kernel
theorem dX1_putCourse_15 : decode cX1_putCourse 15 = .ok (.dup2, 1) := by decide +kernel
theorem dX1_putCourse_16 : decode cX1_putCourse 16 = .ok (.iaload, 1) := by decide +kernel
theorem dX1_putCourse_17 : decode cX1_putCourse 17 = .ok (.iconst 2, 1) := by decide +kernel
theorem dX1_putCourse_18 : decode cX1_putCourse 18 = .ok (.iadd, 1) := by decide +kernel
theorem dX1_putCourse_19 : decode cX1_putCourse 19 = .ok (.iastore, 1) := by decide +kernel
theorem dX1_putCourse_20 : decode cX1_putCourse 20 = .ok (.aload_n 0, 1) := by decide +kernel
theorem dX1_putCourse_21 : decode cX1_putCourse 21 = .ok (.getfield 11, 3) := by decide +kernel
theorem dX1_putCourse_24 : decode cX1_putCourse 24 = .ok (.iload_n 3, 1) := by decide +kernel
theorem dX1_putCourse_25 : decode cX1_putCourse 25 = .ok (.aaload, 1) := by decide +kernel
theorem dX1_putCourse_26 : decode cX1_putCourse 26 = .ok (.iconst 1, 1) := by decide +kernel
theorem dX1_putCourse_27 : decode cX1_putCourse 27 = .ok (.dup2, 1) := by decide +kernel
theorem dX1_putCourse_28 : decode cX1_putCourse 28 = .ok (.iaload, 1) := by decide +kernel
theorem dX1_putCourse_29 : decode cX1_putCourse 29 = .ok (.aload_n 1, 1) := by decide +kernel
theorem dX1_putCourse_30 : decode cX1_putCourse 30 = .ok (.getfield 96, 3) := by decide +kernel
theorem dX1_putCourse_33 : decode cX1_putCourse 33 = .ok (.iload_n 2, 1) := by decide +kernel
theorem dX1_putCourse_34 : decode cX1_putCourse 34 = .ok (.iaload, 1) := by decide +kernel
theorem dX1_putCourse_35 : decode cX1_putCourse 35 = .ok (.iadd, 1) := by decide +kernel
theorem dX1_putCourse_36 : decode cX1_putCourse 36 = .ok (.iastore, 1) := by decide +kernel
theorem dX1_putCourse_37 : decode cX1_putCourse 37 = .ok (.aload_n 0, 1) := by decide +kernel
theorem dX1_putCourse_38 : decode cX1_putCourse 38 = .ok (.getfield 11, 3) := by decide +kernel
theorem dX1_putCourse_41 : decode cX1_putCourse 41 = .ok (.iload_n 3, 1) := by decide +kernel
theorem dX1_putCourse_42 : decode cX1_putCourse 42 = .ok (.aaload, 1) := by decide +kernel
theorem dX1_putCourse_43 : decode cX1_putCourse 43 = .ok (.iconst 2, 1) := by decide +kernel
theorem dX1_putCourse_44 : decode cX1_putCourse 44 = .ok (.dup2, 1) := by decide +kernel
theorem dX1_putCourse_45 : decode cX1_putCourse 45 = .ok (.iaload, 1) := by decide +kernel
theorem dX1_putCourse_46 : decode cX1_putCourse 46 = .ok (.iload 5, 2) := by decide +kernel
theorem dX1_putCourse_48 : decode cX1_putCourse 48 = .ok (.iconst 1, 1) := by decide +kernel
theorem dX1_putCourse_49 : decode cX1_putCourse 49 = .ok (.isub, 1) := by decide +kernel
theorem dX1_putCourse_50 : decode cX1_putCourse 50 = .ok (.iload 4, 2) := by decide +kernel
theorem dX1_putCourse_52 : decode cX1_putCourse 52 = .ok (.imul, 1) := by decide +kernel
theorem dX1_putCourse_53 : decode cX1_putCourse 53 = .ok (.iadd, 1) := by decide +kernel
theorem dX1_putCourse_54 : decode cX1_putCourse 54 = .ok (.iastore, 1) := by decide +kernel
theorem dX1_putCourse_55 : decode cX1_putCourse 55 = .ok (.aload_n 0, 1) := by decide +kernel
theorem dX1_putCourse_56 : decode cX1_putCourse 56 = .ok (.getfield 16, 3) := by decide +kernel
theorem dX1_putCourse_59 : decode cX1_putCourse 59 = .ok (.iload_n 3, 1) := by decide +kernel
theorem dX1_putCourse_60 : decode cX1_putCourse 60 = .ok (.dup2, 1) := by decide +kernel
theorem dX1_putCourse_61 : decode cX1_putCourse 61 = .ok (.iaload, 1) := by decide +kernel
theorem dX1_putCourse_62 : decode cX1_putCourse 62 = .ok (.bipush 6, 2) := by decide +kernel
theorem dX1_putCourse_64 : decode cX1_putCourse 64 = .ok (.aload_n 1, 1) := by decide +kernel
theorem dX1_putCourse_65 : decode cX1_putCourse 65 = .ok (.getfield 99, 3) := by decide +kernel
theorem dX1_putCourse_68 : decode cX1_putCourse 68 = .ok (.iload_n 2, 1) := by decide +kernel
theorem dX1_putCourse_69 : decode cX1_putCourse 69 = .ok (.iaload, 1) := by decide +kernel
theorem dX1_putCourse_70 : decode cX1_putCourse 70 = .ok (.iadd, 1) := by decide +kernel
theorem dX1_putCourse_71 : decode cX1_putCourse 71 = .ok (.iadd, 1) := by decide +kernel
theorem dX1_putCourse_72 : decode cX1_putCourse 72 = .ok (.iastore, 1) := by decide +kernel
theorem dX1_putCourse_73 : decode cX1_putCourse 73 = .ok (.aload_n 0, 1) := by decide +kernel
theorem dX1_putCourse_74 : decode cX1_putCourse 74 = .ok (.getfield 20, 3) := by decide +kernel
theorem dX1_putCourse_77 : decode cX1_putCourse 77 = .ok (.iload_n 3, 1) := by decide +kernel
theorem dX1_putCourse_78 : decode cX1_putCourse 78 = .ok (.dup2, 1) := by decide +kernel
theorem dX1_putCourse_79 : decode cX1_putCourse 79 = .ok (.iaload, 1) := by decide +kernel
theorem dX1_putCourse_80 : decode cX1_putCourse 80 = .ok (.iload 5, 2) := by decide +kernel
theorem dX1_putCourse_82 : decode cX1_putCourse 82 = .ok (.iadd, 1) := by decide +kernel
theorem dX1_putCourse_83 : decode cX1_putCourse 83 = .ok (.iastore, 1) := by decide +kernel
theorem dX1_putCourse_84 : decode cX1_putCourse 84 = .ok (.return_, 1) := by decide +kernel
set_option maxRecDepth 20000 in
theorem ggX1_putKey_X1_linesOf : GoodIn wsX1_putKey wsX1_linesOf := goodIn_r _ [9, 10, 11, 12, 8, 13, 3, 17, 18, 19, 20, 21] (by decide +kernel) (by decide +kernel)
set_option maxRecDepth 20000 in
theorem gX1_putKey_X1_linesOf : GoodIn wsX1_putKey (wsV RX1 58 RX1 yX1_linesOf wsX1_linesOf) := goodIn_app (goodIn_of _ (by decide +kernel)) ggX1_putKey_X1_linesOf
set_option maxRecDepth 20000 in
theorem ggX1_putKey_X8_partsOfSize : GoodIn wsX1_putKey wsX8_partsOfSize := goodIn_r _ [16] (by decide +kernel) (by decide +kernel)
set_option maxRecDepth 20000 in
theorem gX1_putKey_X8_partsOfSize_n100 : GoodIn wsX1_putKey (wsX8_partsOfSize) := ggX1_putKey_X8_partsOfSize
theorem dX1_putKey_0 : decode cX1_putKey 0 = .ok (.iload_n 1, 1) := by decide +kernel
theorem dX1_putKey_1 : decode cX1_putKey 1 = .ok (.ifCond .ne 4, 3) := by decide +kernel
theorem dX1_putKey_4 : decode cX1_putKey 4 = .ok (.return_, 1) := by decide +kernel
theorem dX1_putKey_5 : decode cX1_putKey 5 = .ok (.aload_n 0, 1) := by decide +kernel
theorem dX1_putKey_6 : decode cX1_putKey 6 = .ok (.iconst 0, 1) := by decide +kernel
theorem dX1_putKey_7 : decode cX1_putKey 7 = .ok (.invokevirtual 58, 3) := by decide +kernel
theorem dX1_putKey_10 : decode cX1_putKey 10 = .ok (.aload_n 0, 1) := by decide +kernel
theorem dX1_putKey_11 : decode cX1_putKey 11 = .ok (.iconst 1, 1) := by decide +kernel
theorem dX1_putKey_12 : decode cX1_putKey 12 = .ok (.invokevirtual 58, 3) := by decide +kernel
theorem dX1_putKey_15 : decode cX1_putKey 15 = .ok (.if_icmp .eq 17, 3) := by decide +kernel
theorem dX1_putKey_18 : decode cX1_putKey 18 = .ok (.aload_n 0, 1) := by decide +kernel
theorem dX1_putKey_19 : decode cX1_putKey 19 = .ok (.iconst 0, 1) := by decide +kernel
theorem dX1_putKey_20 : decode cX1_putKey 20 = .ok (.invokevirtual 58, 3) := by decide +kernel
theorem dX1_putKey_23 : decode cX1_putKey 23 = .ok (.aload_n 0, 1) := by decide +kernel
theorem dX1_putKey_24 : decode cX1_putKey 24 = .ok (.iconst 1, 1) := by decide +kernel
theorem dX1_putKey_25 : decode cX1_putKey 25 = .ok (.invokevirtual 58, 3) := by decide +kernel
theorem dX1_putKey_28 : decode cX1_putKey 28 = .ok (.isub, 1) := by decide +kernel
theorem dX1_putKey_29 : decode cX1_putKey 29 = .ok (.goto 16, 3) := by decide +kernel
theorem dX1_putKey_32 : decode cX1_putKey 32 = .ok (.aload_n 0, 1) := by decide +kernel
theorem dX1_putKey_33 : decode cX1_putKey 33 = .ok (.getfield 16, 3) := by decide +kernel
theorem dX1_putKey_36 : decode cX1_putKey 36 = .ok (.iconst 0, 1) := by decide +kernel
theorem dX1_putKey_37 : decode cX1_putKey 37 = .ok (.iaload, 1) := by decide +kernel
theorem dX1_putKey_38 : decode cX1_putKey 38 = .ok (.aload_n 0, 1) := by decide +kernel
theorem dX1_putKey_39 : decode cX1_putKey 39 = .ok (.getfield 16, 3) := by decide +kernel
theorem dX1_putKey_42 : decode cX1_putKey 42 = .ok (.iconst 1, 1) := by decide +kernel
theorem dX1_putKey_43 : decode cX1_putKey 43 = .ok (.iaload, 1) := by decide +kernel
theorem dX1_putKey_44 : decode cX1_putKey 44 = .ok (.isub, 1) := by decide +kernel
theorem dX1_putKey_45 : decode cX1_putKey 45 = .ok (.istore_n 2, 1) := by decide +kernel
theorem dX1_putKey_46 : decode cX1_putKey 46 = .ok (.aload_n 0, 1) := by decide +kernel
theorem dX1_putKey_47 : decode cX1_putKey 47 = .ok (.iload_n 2, 1) := by decide +kernel
theorem dX1_putKey_48 : decode cX1_putKey 48 = .ok (.ifCond .le 7, 3) := by decide +kernel
theorem dX1_putKey_51 : decode cX1_putKey 51 = .ok (.iconst 1, 1) := by decide +kernel
theorem dX1_putKey_52 : decode cX1_putKey 52 = .ok (.goto 4, 3) := by decide +kernel
theorem dX1_putKey_55 : decode cX1_putKey 55 = .ok (.iconst 0, 1) := by decide +kernel
theorem dX1_putKey_56 : decode cX1_putKey 56 = .ok (.putfield 93, 3) := by decide +kernel
theorem dX1_putKey_59 : decode cX1_putKey 59 = .ok (.aload_n 0, 1) := by decide +kernel
theorem dX1_putKey_60 : decode cX1_putKey 60 = .ok (.getfield 11, 3) := by decide +kernel
theorem dX1_putKey_63 : decode cX1_putKey 63 = .ok (.aload_n 0, 1) := by decide +kernel
theorem dX1_putKey_64 : decode cX1_putKey 64 = .ok (.getfield 93, 3) := by decide +kernel
theorem dX1_putKey_67 : decode cX1_putKey 67 = .ok (.aaload, 1) := by decide +kernel
theorem dX1_putKey_68 : decode cX1_putKey 68 = .ok (.iconst 3, 1) := by decide +kernel
theorem dX1_putKey_69 : decode cX1_putKey 69 = .ok (.iload_n 1, 1) := by decide +kernel
theorem dX1_putKey_70 : decode cX1_putKey 70 = .ok (.iconst 3, 1) := by decide +kernel
theorem dX1_putKey_71 : decode cX1_putKey 71 = .ok (.invokestatic 100, 3) := by decide +kernel
theorem dX1_putKey_74 : decode cX1_putKey 74 = .ok (.iastore, 1) := by decide +kernel
theorem dX1_putKey_75 : decode cX1_putKey 75 = .ok (.aload_n 0, 1) := by decide +kernel
theorem dX1_putKey_76 : decode cX1_putKey 76 = .ok (.getfield 16, 3) := by decide +kernel
theorem dX1_putKey_79 : decode cX1_putKey 79 = .ok (.aload_n 0, 1) := by decide +kernel
theorem dX1_putKey_80 : decode cX1_putKey 80 = .ok (.getfield 93, 3) := by decide +kernel
theorem dX1_putKey_83 : decode cX1_putKey 83 = .ok (.dup2, 1) := by decide +kernel
theorem dX1_putKey_84 : decode cX1_putKey 84 = .ok (.iaload, 1) := by decide +kernel
theorem dX1_putKey_85 : decode cX1_putKey 85 = .ok (.iload_n 1, 1) := by decide +kernel
theorem dX1_putKey_86 : decode cX1_putKey 86 = .ok (.iadd, 1) := by decide +kernel
theorem dX1_putKey_87 : decode cX1_putKey 87 = .ok (.iastore, 1) := by decide +kernel
theorem dX1_putKey_88 : decode cX1_putKey 88 = .ok (.aload_n 0, 1) := by decide +kernel
theorem dX1_putKey_89 : decode cX1_putKey 89 = .ok (.getfield 20, 3) := by decide +kernel
theorem dX1_putKey_92 : decode cX1_putKey 92 = .ok (.aload_n 0, 1) := by decide +kernel
theorem dX1_putKey_93 : decode cX1_putKey 93 = .ok (.getfield 93, 3) := by decide +kernel
theorem dX1_putKey_96 : decode cX1_putKey 96 = .ok (.dup2, 1) := by decide +kernel
theorem dX1_putKey_97 : decode cX1_putKey 97 = .ok (.iaload, 1) := by decide +kernel
theorem dX1_putKey_98 : decode cX1_putKey 98 = .ok (.iconst 1, 1) := by decide +kernel
theorem dX1_putKey_99 : decode cX1_putKey 99 = .ok (.iadd, 1) := by decide +kernel
theorem dX1_putKey_100 : decode cX1_putKey 100 = .ok (.iastore, 1) := by decide +kernel
theorem dX1_putKey_101 : decode cX1_putKey 101 = .ok (.return_, 1) := by decide +kernel
set_option maxRecDepth 20000 in
theorem ggX1_putFill_X1_linesOf : GoodIn wsX1_putFill wsX1_linesOf := goodIn_r _ [8, 9, 10, 11, 7, 12, 3, 16, 17, 18, 19, 20] (by decide +kernel) (by decide +kernel)
set_option maxRecDepth 20000 in
theorem gX1_putFill_X1_linesOf : GoodIn wsX1_putFill (wsV RX1 58 RX1 yX1_linesOf wsX1_linesOf) := goodIn_app (goodIn_of _ (by decide +kernel)) ggX1_putFill_X1_linesOf
set_option maxRecDepth 20000 in
theorem ggX1_putFill_X8_partsOfSize : GoodIn wsX1_putFill wsX8_partsOfSize := goodIn_r _ [15] (by decide +kernel) (by decide +kernel)
set_option maxRecDepth 20000 in
theorem gX1_putFill_X8_partsOfSize_n100 : GoodIn wsX1_putFill (wsX8_partsOfSize) := ggX1_putFill_X8_partsOfSize
theorem dX1_putFill_0 : decode cX1_putFill 0 = .ok (.aload_n 0, 1) := by decide +kernel
theorem dX1_putFill_1 : decode cX1_putFill 1 = .ok (.iconst 0, 1) := by decide +kernel
theorem dX1_putFill_2 : decode cX1_putFill 2 = .ok (.invokevirtual 58, 3) := by decide +kernel
theorem dX1_putFill_5 : decode cX1_putFill 5 = .ok (.aload_n 0, 1) := by decide +kernel
theorem dX1_putFill_6 : decode cX1_putFill 6 = .ok (.iconst 1, 1) := by decide +kernel
theorem dX1_putFill_7 : decode cX1_putFill 7 = .ok (.invokevirtual 58, 3) := by decide +kernel
theorem dX1_putFill_10 : decode cX1_putFill 10 = .ok (.if_icmp .ge 7, 3) := by decide +kernel
theorem dX1_putFill_13 : decode cX1_putFill 13 = .ok (.iconst 0, 1) := by decide +kernel
theorem dX1_putFill_14 : decode cX1_putFill 14 = .ok (.goto 4, 3) := by decide +kernel
theorem dX1_putFill_17 : decode cX1_putFill 17 = .ok (.iconst 1, 1) := by decide +kernel
theorem dX1_putFill_18 : decode cX1_putFill 18 = .ok (.istore_n 2, 1) := by decide +kernel
theorem dX1_putFill_19 : decode cX1_putFill 19 = .ok (.aload_n 0, 1) := by decide +kernel
theorem dX1_putFill_20 : decode cX1_putFill 20 = .ok (.getfield 20, 3) := by decide +kernel
theorem dX1_putFill_23 : decode cX1_putFill 23 = .ok (.iload_n 2, 1) := by decide +kernel
theorem dX1_putFill_24 : decode cX1_putFill 24 = .ok (.iaload, 1) := by decide +kernel
theorem dX1_putFill_25 : decode cX1_putFill 25 = .ok (.ifCond .le 32, 3) := by decide +kernel
theorem dX1_putFill_28 : decode cX1_putFill 28 = .ok (.aload_n 0, 1) := by decide +kernel
theorem dX1_putFill_29 : decode cX1_putFill 29 = .ok (.getfield 66, 3) := by decide +kernel
theorem dX1_putFill_32 : decode cX1_putFill 32 = .ok (.aload_n 0, 1) := by decide +kernel
theorem dX1_putFill_33 : decode cX1_putFill 33 = .ok (.getfield 20, 3) := by decide +kernel
theorem dX1_putFill_36 : decode cX1_putFill 36 = .ok (.iload_n 2, 1) := by decide +kernel
theorem dX1_putFill_37 : decode cX1_putFill 37 = .ok (.iaload, 1) := by decide +kernel
theorem dX1_putFill_38 : decode cX1_putFill 38 = .ok (.invokestatic 100, 3) := by decide +kernel
theorem dX1_putFill_41 : decode cX1_putFill 41 = .ok (.iload_n 1, 1) := by decide +kernel
theorem dX1_putFill_42 : decode cX1_putFill 42 = .ok (.if_icmp .gt 15, 3) := by decide +kernel
theorem dX1_putFill_45 : decode cX1_putFill 45 = .ok (.aload_n 0, 1) := by decide +kernel
theorem dX1_putFill_46 : decode cX1_putFill 46 = .ok (.getfield 11, 3) := by decide +kernel
theorem dX1_putFill_49 : decode cX1_putFill 49 = .ok (.iload_n 2, 1) := by decide +kernel
theorem dX1_putFill_50 : decode cX1_putFill 50 = .ok (.aaload, 1) := by decide +kernel
theorem dX1_putFill_51 : decode cX1_putFill 51 = .ok (.iconst 4, 1) := by decide +kernel
theorem dX1_putFill_52 : decode cX1_putFill 52 = .ok (.aload_n 0, 1) := by decide +kernel
theorem dX1_putFill_53 : decode cX1_putFill 53 = .ok (.getfield 66, 3) := by decide +kernel
theorem dX1_putFill_56 : decode cX1_putFill 56 = .ok (.iastore, 1) := by decide +kernel
theorem dX1_putFill_57 : decode cX1_putFill 57 = .ok (.return_, 1) := by decide +kernel
