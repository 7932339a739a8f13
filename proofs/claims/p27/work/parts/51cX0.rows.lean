theorem dX0_init_0 : decode cX0_init 0 = .ok (.aload_n 0, 1) := by decide +kernel
theorem dX0_init_1 : decode cX0_init 1 = .ok (.invokespecial 3, 3) := by decide +kernel
theorem dX0_init_4 : decode cX0_init 4 = .ok (.aload_n 0, 1) := by decide +kernel
theorem dX0_init_5 : decode cX0_init 5 = .ok (.bipush 25, 2) := by decide +kernel
theorem dX0_init_7 : decode cX0_init 7 = .ok (.newarray .int, 2) := by decide +kernel
theorem dX0_init_9 : decode cX0_init 9 = .ok (.putfield 11, 3) := by decide +kernel
theorem dX0_init_12 : decode cX0_init 12 = .ok (.aload_n 0, 1) := by decide +kernel
theorem dX0_init_13 : decode cX0_init 13 = .ok (.bipush 25, 2) := by decide +kernel
theorem dX0_init_15 : decode cX0_init 15 = .ok (.newarray .int, 2) := by decide +kernel
theorem dX0_init_17 : decode cX0_init 17 = .ok (.putfield 15, 3) := by decide +kernel
theorem dX0_init_20 : decode cX0_init 20 = .ok (.aload_n 0, 1) := by decide +kernel
theorem dX0_init_21 : decode cX0_init 21 = .ok (.bipush 25, 2) := by decide +kernel
theorem dX0_init_23 : decode cX0_init 23 = .ok (.newarray .int, 2) := by decide +kernel
theorem dX0_init_25 : decode cX0_init 25 = .ok (.putfield 18, 3) := by decide +kernel
theorem dX0_init_28 : decode cX0_init 28 = .ok (.aload_n 0, 1) := by decide +kernel
theorem dX0_init_29 : decode cX0_init 29 = .ok (.bipush 25, 2) := by decide +kernel
theorem dX0_init_31 : decode cX0_init 31 = .ok (.newarray .int, 2) := by decide +kernel
theorem dX0_init_33 : decode cX0_init 33 = .ok (.putfield 21, 3) := by decide +kernel
theorem dX0_init_36 : decode cX0_init 36 = .ok (.return_, 1) := by decide +kernel
set_option maxRecDepth 20000 in
theorem ggX0_lay_X8_sideIn : GoodIn wsX0_lay wsX8_sideIn := goodIn_r _ [6] (by decide +kernel) (by decide +kernel)
set_option maxRecDepth 20000 in
theorem gX0_lay_X8_sideIn_n39 : GoodIn wsX0_lay (wsX8_sideIn) := ggX0_lay_X8_sideIn
set_option maxRecDepth 20000 in
theorem ggX0_lay_X0_leaveFill : GoodIn wsX0_lay wsX0_leaveFill := goodIn_r _ [11, 1, 2, 3, 12, 13, 14, 15, 16, 17, 18, 19, 20, 21, 22, 73, 74, 75, 76, 77, 78, 79, 92, 93, 94, 95, 96] (by decide +kernel) (by decide +kernel)
set_option maxRecDepth 20000 in
theorem gX0_lay_X0_leaveFill : GoodIn wsX0_lay (wsV RX0 48 RX0 yX0_leaveFill wsX0_leaveFill) := goodIn_app (goodIn_of _ (by decide +kernel)) ggX0_lay_X0_leaveFill
set_option maxRecDepth 20000 in
theorem ggX0_lay_X0_put : GoodIn wsX0_lay wsX0_put := goodIn_r _ [26, 1, 27, 28, 29, 2, 30, 73, 74, 75, 76, 77, 78, 79] (by decide +kernel) (by decide +kernel)
set_option maxRecDepth 20000 in
theorem gX0_lay_X0_put : GoodIn wsX0_lay (wsV RX0 52 RX0 yX0_put wsX0_put) := goodIn_app (goodIn_of _ (by decide +kernel)) ggX0_lay_X0_put
set_option maxRecDepth 20000 in
theorem ggX0_lay_X0_layDishes : GoodIn wsX0_lay wsX0_layDishes := goodIn_r _ [34, 2, 35, 36, 37, 38, 39, 40, 41, 5, 42, 43, 44, 45, 46, 47, 4, 6, 7, 8, 9, 10, 11, 1, 3, 12, 13, 14, 15, 16, 17, 18, 19, 20, 21, 22, 48, 49, 50, 51, 52, 53, 54, 55, 56, 57, 58, 59, 60, 61, 62, 63, 64, 65, 66, 67, 68, 69, 70, 71, 23, 24, 25, 26, 27, 28, 29, 30, 84, 85, 86, 87, 88, 89, 90, 91, 80, 81, 82, 83, 73, 74, 75, 76, 77, 78, 79, 92, 93, 94, 95, 96] (by decide +kernel) (by decide +kernel)
set_option maxRecDepth 20000 in
theorem gX0_lay_X0_layDishes : GoodIn wsX0_lay (wsV RX0 56 RX0 yX0_layDishes wsX0_layDishes) := goodIn_app (goodIn_of _ (by decide +kernel)) ggX0_lay_X0_layDishes
set_option maxRecDepth 20000 in
theorem ggX0_lay_X1_partOf : GoodIn wsX0_lay wsX1_partOf := goodIn_r _ [21, 22, 92, 93, 94, 95, 96] (by decide +kernel) (by decide +kernel)
set_option maxRecDepth 20000 in
theorem gX0_lay_X1_partOf : GoodIn wsX0_lay (wsV RX0 65 RX1 yX1_partOf wsX1_partOf) := goodIn_app (goodIn_of _ (by decide +kernel)) ggX0_lay_X1_partOf
theorem dX0_lay_0 : decode cX0_lay 0 = .ok (.aload_n 0, 1) := by decide +kernel
theorem dX0_lay_1 : decode cX0_lay 1 = .ok (.iconst 0, 1) := by decide +kernel
theorem dX0_lay_2 : decode cX0_lay 2 = .ok (.putfield 24, 3) := by decide +kernel
theorem dX0_lay_5 : decode cX0_lay 5 = .ok (.aload_n 0, 1) := by decide +kernel
theorem dX0_lay_6 : decode cX0_lay 6 = .ok (.iconst 0, 1) := by decide +kernel
theorem dX0_lay_7 : decode cX0_lay 7 = .ok (.putfield 28, 3) := by decide +kernel
theorem dX0_lay_10 : decode cX0_lay 10 = .ok (.aload_n 0, 1) := by decide +kernel
theorem dX0_lay_11 : decode cX0_lay 11 = .ok (.iconst 0, 1) := by decide +kernel
theorem dX0_lay_12 : decode cX0_lay 12 = .ok (.putfield 31, 3) := by decide +kernel
theorem dX0_lay_15 : decode cX0_lay 15 = .ok (.iconst 0, 1) := by decide +kernel
theorem dX0_lay_16 : decode cX0_lay 16 = .ok (.istore 5, 2) := by decide +kernel
theorem dX0_lay_18 : decode cX0_lay 18 = .ok (.iload 5, 2) := by decide +kernel
theorem dX0_lay_20 : decode cX0_lay 20 = .ok (.iconst 4, 1) := by decide +kernel
theorem dX0_lay_21 : decode cX0_lay 21 = .ok (.if_icmp .ge 57, 3) := by decide +kernel
theorem dX0_lay_24 : decode cX0_lay 24 = .ok (.aload_n 1, 1) := by decide +kernel
theorem dX0_lay_25 : decode cX0_lay 25 = .ok (.getfield 34, 3) := by decide +kernel
theorem dX0_lay_28 : decode cX0_lay 28 = .ok (.iload 5, 2) := by decide +kernel
theorem dX0_lay_30 : decode cX0_lay 30 = .ok (.invokestatic 39, 3) := by decide +kernel
theorem dX0_lay_33 : decode cX0_lay 33 = .ok (.iload 4, 2) := by decide +kernel
theorem dX0_lay_35 : decode cX0_lay 35 = .ok (.if_icmp .ne 37, 3) := by decide +kernel
theorem dX0_lay_38 : decode cX0_lay 38 = .ok (.aload_n 2, 1) := by decide +kernel
theorem dX0_lay_39 : decode cX0_lay 39 = .ok (.getfield 43, 3) := by decide +kernel
theorem dX0_lay_42 : decode cX0_lay 42 = .ok (.iload 5, 2) := by decide +kernel
theorem dX0_lay_44 : decode cX0_lay 44 = .ok (.iaload, 1) := by decide +kernel
theorem dX0_lay_45 : decode cX0_lay 45 = .ok (.ifCond .le 27, 3) := by decide +kernel
theorem dX0_lay_48 : decode cX0_lay 48 = .ok (.aload_n 0, 1) := by decide +kernel
theorem dX0_lay_49 : decode cX0_lay 49 = .ok (.aload_n 3, 1) := by decide +kernel
theorem dX0_lay_50 : decode cX0_lay 50 = .ok (.iload 4, 2) := by decide +kernel
theorem dX0_lay_52 : decode cX0_lay 52 = .ok (.invokevirtual 48, 3) := by decide +kernel
theorem dX0_lay_55 : decode cX0_lay 55 = .ok (.aload_n 0, 1) := by decide +kernel
theorem dX0_lay_56 : decode cX0_lay 56 = .ok (.iconst 1, 1) := by decide +kernel
theorem dX0_lay_57 : decode cX0_lay 57 = .ok (.iload 5, 2) := by decide +kernel
theorem dX0_lay_59 : decode cX0_lay 59 = .ok (.iconst 2, 1) := by decide +kernel
theorem dX0_lay_60 : decode cX0_lay 60 = .ok (.invokevirtual 52, 3) := by decide +kernel
theorem dX0_lay_63 : decode cX0_lay 63 = .ok (.aload_n 0, 1) := by decide +kernel
theorem dX0_lay_64 : decode cX0_lay 64 = .ok (.aload_n 1, 1) := by decide +kernel
theorem dX0_lay_65 : decode cX0_lay 65 = .ok (.aload_n 2, 1) := by decide +kernel
theorem dX0_lay_66 : decode cX0_lay 66 = .ok (.aload_n 3, 1) := by decide +kernel
theorem dX0_lay_67 : decode cX0_lay 67 = .ok (.iload 5, 2) := by decide +kernel
theorem dX0_lay_69 : decode cX0_lay 69 = .ok (.invokevirtual 56, 3) := by decide +kernel
theorem dX0_lay_72 : decode cX0_lay 72 = .ok (.iinc 5 1, 3) := by decide +kernel
theorem dX0_lay_75 : decode cX0_lay 75 = .ok (.goto (-57), 3) := by decide +kernel
theorem dX0_lay_78 : decode cX0_lay 78 = .ok (.aload_n 3, 1) := by decide +kernel
theorem dX0_lay_79 : decode cX0_lay 79 = .ok (.getfield 60, 3) := by decide +kernel
theorem dX0_lay_82 : decode cX0_lay 82 = .ok (.iload 4, 2) := by decide +kernel
theorem dX0_lay_84 : decode cX0_lay 84 = .ok (.if_icmp .ne 23, 3) := by decide +kernel
theorem dX0_lay_87 : decode cX0_lay 87 = .ok (.aload_n 0, 1) := by decide +kernel
theorem dX0_lay_88 : decode cX0_lay 88 = .ok (.aload_n 3, 1) := by decide +kernel
theorem dX0_lay_89 : decode cX0_lay 89 = .ok (.iload 4, 2) := by decide +kernel
theorem dX0_lay_91 : decode cX0_lay 91 = .ok (.invokevirtual 48, 3) := by decide +kernel
theorem dX0_lay_94 : decode cX0_lay 94 = .ok (.aload_n 0, 1) := by decide +kernel
theorem dX0_lay_95 : decode cX0_lay 95 = .ok (.iconst 3, 1) := by decide +kernel
theorem dX0_lay_96 : decode cX0_lay 96 = .ok (.iconst 0, 1) := by decide +kernel
theorem dX0_lay_97 : decode cX0_lay 97 = .ok (.aload_n 3, 1) := by decide +kernel
theorem dX0_lay_98 : decode cX0_lay 98 = .ok (.iload 4, 2) := by decide +kernel
theorem dX0_lay_100 : decode cX0_lay 100 = .ok (.iconst 3, 1) := by decide +kernel
theorem dX0_lay_101 : decode cX0_lay 101 = .ok (.invokevirtual 65, 3) := by decide +kernel
theorem dX0_lay_104 : decode cX0_lay 104 = .ok (.invokevirtual 52, 3) := by decide +kernel
theorem dX0_lay_107 : decode cX0_lay 107 = .ok (.return_, 1) := by decide +kernel
set_option maxRecDepth 20000 in
theorem ggX0_blockAt_X8_inRange : GoodIn wsX0_blockAt wsX8_inRange := goodIn_r _ [6] (by decide +kernel) (by decide +kernel)
set_option maxRecDepth 20000 in
theorem gX0_blockAt_X8_inRange_n68 : GoodIn wsX0_blockAt (wsX8_inRange) := ggX0_blockAt_X8_inRange
theorem dX0_blockAt_0 : decode cX0_blockAt 0 = .ok (.iconst 0, 1) := by decide +kernel
theorem dX0_blockAt_1 : decode cX0_blockAt 1 = .ok (.istore_n 2, 1) := by decide +kernel
theorem dX0_blockAt_2 : decode cX0_blockAt 2 = .ok (.iload_n 2, 1) := by decide +kernel
theorem dX0_blockAt_3 : decode cX0_blockAt 3 = .ok (.aload_n 0, 1) := by decide +kernel
theorem dX0_blockAt_4 : decode cX0_blockAt 4 = .ok (.getfield 24, 3) := by decide +kernel
theorem dX0_blockAt_7 : decode cX0_blockAt 7 = .ok (.if_icmp .ge 39, 3) := by decide +kernel
theorem dX0_blockAt_10 : decode cX0_blockAt 10 = .ok (.iload_n 1, 1) := by decide +kernel
theorem dX0_blockAt_11 : decode cX0_blockAt 11 = .ok (.aload_n 0, 1) := by decide +kernel
theorem dX0_blockAt_12 : decode cX0_blockAt 12 = .ok (.getfield 18, 3) := by decide +kernel
theorem dX0_blockAt_15 : decode cX0_blockAt 15 = .ok (.iload_n 2, 1) := by decide +kernel
theorem dX0_blockAt_16 : decode cX0_blockAt 16 = .ok (.iaload, 1) := by decide +kernel
theorem dX0_blockAt_17 : decode cX0_blockAt 17 = .ok (.aload_n 0, 1) := by decide +kernel
theorem dX0_blockAt_18 : decode cX0_blockAt 18 = .ok (.getfield 18, 3) := by decide +kernel
theorem dX0_blockAt_21 : decode cX0_blockAt 21 = .ok (.iload_n 2, 1) := by decide +kernel
theorem dX0_blockAt_22 : decode cX0_blockAt 22 = .ok (.iaload, 1) := by decide +kernel
theorem dX0_blockAt_23 : decode cX0_blockAt 23 = .ok (.aload_n 0, 1) := by decide +kernel
theorem dX0_blockAt_24 : decode cX0_blockAt 24 = .ok (.getfield 21, 3) := by decide +kernel
theorem dX0_blockAt_27 : decode cX0_blockAt 27 = .ok (.iload_n 2, 1) := by decide +kernel
theorem dX0_blockAt_28 : decode cX0_blockAt 28 = .ok (.iaload, 1) := by decide +kernel
theorem dX0_blockAt_29 : decode cX0_blockAt 29 = .ok (.iadd, 1) := by decide +kernel
theorem dX0_blockAt_30 : decode cX0_blockAt 30 = .ok (.iconst 1, 1) := by decide +kernel
theorem dX0_blockAt_31 : decode cX0_blockAt 31 = .ok (.isub, 1) := by decide +kernel
theorem dX0_blockAt_32 : decode cX0_blockAt 32 = .ok (.invokestatic 68, 3) := by decide +kernel
theorem dX0_blockAt_35 : decode cX0_blockAt 35 = .ok (.ifCond .eq 5, 3) := by decide +kernel
theorem dX0_blockAt_38 : decode cX0_blockAt 38 = .ok (.iload_n 2, 1) := by decide +kernel
theorem dX0_blockAt_39 : decode cX0_blockAt 39 = .ok (.ireturn, 1) := by decide +kernel
theorem dX0_blockAt_40 : decode cX0_blockAt 40 = .ok (.iinc 2 1, 3) := by decide +kernel
theorem dX0_blockAt_43 : decode cX0_blockAt 43 = .ok (.goto (-41), 3) := by decide +kernel
theorem dX0_blockAt_46 : decode cX0_blockAt 46 = .ok (.iconst (-1), 1) := by decide +kernel
theorem dX0_blockAt_47 : decode cX0_blockAt 47 = .ok (.ireturn, 1) := by decide +kernel
theorem dX0_blockOfDish_0 : decode cX0_blockOfDish 0 = .ok (.iconst 0, 1) := by decide +kernel
theorem dX0_blockOfDish_1 : decode cX0_blockOfDish 1 = .ok (.istore_n 2, 1) := by decide +kernel
theorem dX0_blockOfDish_2 : decode cX0_blockOfDish 2 = .ok (.iload_n 2, 1) := by decide +kernel
theorem dX0_blockOfDish_3 : decode cX0_blockOfDish 3 = .ok (.aload_n 0, 1) := by decide +kernel
theorem dX0_blockOfDish_4 : decode cX0_blockOfDish 4 = .ok (.getfield 24, 3) := by decide +kernel
theorem dX0_blockOfDish_7 : decode cX0_blockOfDish 7 = .ok (.if_icmp .ge 31, 3) := by decide +kernel
theorem dX0_blockOfDish_10 : decode cX0_blockOfDish 10 = .ok (.aload_n 0, 1) := by decide +kernel
theorem dX0_blockOfDish_11 : decode cX0_blockOfDish 11 = .ok (.getfield 11, 3) := by decide +kernel
theorem dX0_blockOfDish_14 : decode cX0_blockOfDish 14 = .ok (.iload_n 2, 1) := by decide +kernel
theorem dX0_blockOfDish_15 : decode cX0_blockOfDish 15 = .ok (.iaload, 1) := by decide +kernel
theorem dX0_blockOfDish_16 : decode cX0_blockOfDish 16 = .ok (.iconst 2, 1) := by decide +kernel
theorem dX0_blockOfDish_17 : decode cX0_blockOfDish 17 = .ok (.if_icmp .ne 15, 3) := by decide +kernel
theorem dX0_blockOfDish_20 : decode cX0_blockOfDish 20 = .ok (.aload_n 0, 1) := by decide +kernel
theorem dX0_blockOfDish_21 : decode cX0_blockOfDish 21 = .ok (.getfield 15, 3) := by decide +kernel
theorem dX0_blockOfDish_24 : decode cX0_blockOfDish 24 = .ok (.iload_n 2, 1) := by decide +kernel
theorem dX0_blockOfDish_25 : decode cX0_blockOfDish 25 = .ok (.iaload, 1) := by decide +kernel
theorem dX0_blockOfDish_26 : decode cX0_blockOfDish 26 = .ok (.iload_n 1, 1) := by decide +kernel
theorem dX0_blockOfDish_27 : decode cX0_blockOfDish 27 = .ok (.if_icmp .ne 5, 3) := by decide +kernel
theorem dX0_blockOfDish_30 : decode cX0_blockOfDish 30 = .ok (.iload_n 2, 1) := by decide +kernel
theorem dX0_blockOfDish_31 : decode cX0_blockOfDish 31 = .ok (.ireturn, 1) := by decide +kernel
theorem dX0_blockOfDish_32 : decode cX0_blockOfDish 32 = .ok (.iinc 2 1, 3) := by decide +kernel
theorem dX0_blockOfDish_35 : decode cX0_blockOfDish 35 = .ok (.goto (-33), 3) := by decide +kernel
theorem dX0_blockOfDish_38 : decode cX0_blockOfDish 38 = .ok (.iconst (-1), 1) := by decide +kernel
theorem dX0_blockOfDish_39 : decode cX0_blockOfDish 39 = .ok (.ireturn, 1) := by decide +kernel
set_option maxRecDepth 20000 in
theorem ggX0_kindOf_X0_isBlock : GoodIn wsX0_kindOf wsX0_isBlock := goodIn_r _ [6, 7, 8, 9, 10, 11, 12, 13, 14, 15, 16, 17] (by decide +kernel) (by decide +kernel)
set_option maxRecDepth 20000 in
theorem gX0_kindOf_X0_isBlock : GoodIn wsX0_kindOf (wsV RX0 72 RX0 yX0_isBlock wsX0_isBlock) := goodIn_app (goodIn_of _ (by decide +kernel)) ggX0_kindOf_X0_isBlock
theorem dX0_kindOf_0 : decode cX0_kindOf 0 = .ok (.aload_n 0, 1) := by decide +kernel
theorem dX0_kindOf_1 : decode cX0_kindOf 1 = .ok (.iload_n 1, 1) := by decide +kernel
theorem dX0_kindOf_2 : decode cX0_kindOf 2 = .ok (.invokevirtual 72, 3) := by decide +kernel
theorem dX0_kindOf_5 : decode cX0_kindOf 5 = .ok (.ifCond .eq 12, 3) := by decide +kernel
theorem dX0_kindOf_8 : decode cX0_kindOf 8 = .ok (.aload_n 0, 1) := by decide +kernel
theorem dX0_kindOf_9 : decode cX0_kindOf 9 = .ok (.getfield 11, 3) := by decide +kernel
theorem dX0_kindOf_12 : decode cX0_kindOf 12 = .ok (.iload_n 1, 1) := by decide +kernel
theorem dX0_kindOf_13 : decode cX0_kindOf 13 = .ok (.iaload, 1) := by decide +kernel
theorem dX0_kindOf_14 : decode cX0_kindOf 14 = .ok (.goto 4, 3) := by decide +kernel
theorem dX0_kindOf_17 : decode cX0_kindOf 17 = .ok (.iconst 0, 1) := by decide +kernel
theorem dX0_kindOf_18 : decode cX0_kindOf 18 = .ok (.ireturn, 1) := by decide +kernel
set_option maxRecDepth 20000 in
theorem ggX0_numberOf_X0_isBlock : GoodIn wsX0_numberOf wsX0_isBlock := goodIn_r _ [6, 7, 8, 9, 10, 11, 12, 13, 14, 15, 16, 17] (by decide +kernel) (by decide +kernel)
set_option maxRecDepth 20000 in
theorem gX0_numberOf_X0_isBlock : GoodIn wsX0_numberOf (wsV RX0 72 RX0 yX0_isBlock wsX0_isBlock) := goodIn_app (goodIn_of _ (by decide +kernel)) ggX0_numberOf_X0_isBlock
theorem dX0_numberOf_0 : decode cX0_numberOf 0 = .ok (.aload_n 0, 1) := by decide +kernel
theorem dX0_numberOf_1 : decode cX0_numberOf 1 = .ok (.iload_n 1, 1) := by decide +kernel
theorem dX0_numberOf_2 : decode cX0_numberOf 2 = .ok (.invokevirtual 72, 3) := by decide +kernel
theorem dX0_numberOf_5 : decode cX0_numberOf 5 = .ok (.ifCond .eq 12, 3) := by decide +kernel
theorem dX0_numberOf_8 : decode cX0_numberOf 8 = .ok (.aload_n 0, 1) := by decide +kernel
theorem dX0_numberOf_9 : decode cX0_numberOf 9 = .ok (.getfield 15, 3) := by decide +kernel
theorem dX0_numberOf_12 : decode cX0_numberOf 12 = .ok (.iload_n 1, 1) := by decide +kernel
theorem dX0_numberOf_13 : decode cX0_numberOf 13 = .ok (.iaload, 1) := by decide +kernel
theorem dX0_numberOf_14 : decode cX0_numberOf 14 = .ok (.goto 5, 3) := by decide +kernel
theorem dX0_numberOf_17 : decode cX0_numberOf 17 = .ok (.bipush (-99), 2) := by decide +kernel
theorem dX0_numberOf_19 : decode cX0_numberOf 19 = .ok (.ireturn, 1) := by decide +kernel
set_option maxRecDepth 20000 in
theorem ggX0_startOf_X0_isBlock : GoodIn wsX0_startOf wsX0_isBlock := goodIn_r _ [6, 7, 8, 9, 10, 11, 12, 13, 14, 15, 16, 17] (by decide +kernel) (by decide +kernel)
set_option maxRecDepth 20000 in
theorem gX0_startOf_X0_isBlock : GoodIn wsX0_startOf (wsV RX0 72 RX0 yX0_isBlock wsX0_isBlock) := goodIn_app (goodIn_of _ (by decide +kernel)) ggX0_startOf_X0_isBlock
theorem dX0_startOf_0 : decode cX0_startOf 0 = .ok (.aload_n 0, 1) := by decide +kernel
theorem dX0_startOf_1 : decode cX0_startOf 1 = .ok (.iload_n 1, 1) := by decide +kernel
theorem dX0_startOf_2 : decode cX0_startOf 2 = .ok (.invokevirtual 72, 3) := by decide +kernel
theorem dX0_startOf_5 : decode cX0_startOf 5 = .ok (.ifCond .eq 12, 3) := by decide +kernel
theorem dX0_startOf_8 : decode cX0_startOf 8 = .ok (.aload_n 0, 1) := by decide +kernel
theorem dX0_startOf_9 : decode cX0_startOf 9 = .ok (.getfield 18, 3) := by decide +kernel
theorem dX0_startOf_12 : decode cX0_startOf 12 = .ok (.iload_n 1, 1) := by decide +kernel
theorem dX0_startOf_13 : decode cX0_startOf 13 = .ok (.iaload, 1) := by decide +kernel
theorem dX0_startOf_14 : decode cX0_startOf 14 = .ok (.goto 5, 3) := by decide +kernel
theorem dX0_startOf_17 : decode cX0_startOf 17 = .ok (.bipush (-99), 2) := by decide +kernel
theorem dX0_startOf_19 : decode cX0_startOf 19 = .ok (.ireturn, 1) := by decide +kernel
set_option maxRecDepth 20000 in
theorem ggX0_isBlock_X8_inRange : GoodIn wsX0_isBlock wsX8_inRange := goodIn_r _ [4] (by decide +kernel) (by decide +kernel)
set_option maxRecDepth 20000 in
theorem gX0_isBlock_X8_inRange_n68 : GoodIn wsX0_isBlock (wsX8_inRange) := ggX0_isBlock_X8_inRange
theorem dX0_isBlock_0 : decode cX0_isBlock 0 = .ok (.iload_n 1, 1) := by decide +kernel
theorem dX0_isBlock_1 : decode cX0_isBlock 1 = .ok (.iconst 0, 1) := by decide +kernel
theorem dX0_isBlock_2 : decode cX0_isBlock 2 = .ok (.aload_n 0, 1) := by decide +kernel
theorem dX0_isBlock_3 : decode cX0_isBlock 3 = .ok (.getfield 24, 3) := by decide +kernel
theorem dX0_isBlock_6 : decode cX0_isBlock 6 = .ok (.iconst 1, 1) := by decide +kernel
theorem dX0_isBlock_7 : decode cX0_isBlock 7 = .ok (.isub, 1) := by decide +kernel
theorem dX0_isBlock_8 : decode cX0_isBlock 8 = .ok (.invokestatic 68, 3) := by decide +kernel
theorem dX0_isBlock_11 : decode cX0_isBlock 11 = .ok (.ireturn, 1) := by decide +kernel
set_option maxRecDepth 20000 in
theorem ggX0_layDishes_X3_size : GoodIn wsX0_layDishes wsX3_size := goodIn_r _ [6, 7, 76, 77, 78, 79] (by decide +kernel) (by decide +kernel)
set_option maxRecDepth 20000 in
theorem gX0_layDishes_X3_size : GoodIn wsX0_layDishes (wsV RX0 76 RX3 yX3_size wsX3_size) := goodIn_app (goodIn_of _ (by decide +kernel)) ggX0_layDishes_X3_size
set_option maxRecDepth 20000 in
theorem ggX0_layDishes_X8_has : GoodIn wsX0_layDishes wsX8_has := goodIn_r _ [10] (by decide +kernel) (by decide +kernel)
set_option maxRecDepth 20000 in
theorem gX0_layDishes_X8_has_n83 : GoodIn wsX0_layDishes (wsX8_has) := ggX0_layDishes_X8_has
set_option maxRecDepth 20000 in
theorem ggX0_layDishes_X3_valueOf : GoodIn wsX0_layDishes wsX3_valueOf := goodIn_r _ [14, 15, 76, 77, 78, 79] (by decide +kernel) (by decide +kernel)
set_option maxRecDepth 20000 in
theorem gX0_layDishes_X3_valueOf : GoodIn wsX0_layDishes (wsV RX0 87 RX3 yX3_valueOf wsX3_valueOf) := goodIn_app (goodIn_of _ (by decide +kernel)) ggX0_layDishes_X3_valueOf
set_option maxRecDepth 20000 in
theorem ggX0_layDishes_X8_sideIn : GoodIn wsX0_layDishes wsX8_sideIn := goodIn_r _ [17] (by decide +kernel) (by decide +kernel)
set_option maxRecDepth 20000 in
theorem gX0_layDishes_X8_sideIn_n39 : GoodIn wsX0_layDishes (wsX8_sideIn) := ggX0_layDishes_X8_sideIn
set_option maxRecDepth 20000 in
theorem ggX0_layDishes_X0_leaveFill : GoodIn wsX0_layDishes wsX0_leaveFill := goodIn_r _ [22, 23, 1, 24, 25, 26, 27, 28, 29, 30, 31, 32, 33, 34, 35, 80, 81, 82, 83, 84, 85, 86, 87, 88, 89, 90, 91] (by decide +kernel) (by decide +kernel)
set_option maxRecDepth 20000 in
theorem gX0_layDishes_X0_leaveFill : GoodIn wsX0_layDishes (wsV RX0 48 RX0 yX0_leaveFill wsX0_leaveFill) := goodIn_app (goodIn_of _ (by decide +kernel)) ggX0_layDishes_X0_leaveFill
set_option maxRecDepth 20000 in
theorem ggX0_layDishes_X3_setting : GoodIn wsX0_layDishes wsX3_setting := goodIn_r _ [39, 40, 76, 77, 78, 79] (by decide +kernel) (by decide +kernel)
set_option maxRecDepth 20000 in
theorem gX0_layDishes_X3_setting : GoodIn wsX0_layDishes (wsV RX0 90 RX3 yX3_setting wsX3_setting) := goodIn_app (goodIn_of _ (by decide +kernel)) ggX0_layDishes_X3_setting
set_option maxRecDepth 20000 in
theorem ggX0_layDishes_X3_linesOf : GoodIn wsX0_layDishes wsX3_linesOf := goodIn_r _ [44, 45, 46, 47, 5, 48, 49, 12, 13, 14, 15, 50, 51, 52, 53, 54, 55, 56, 57, 37, 38, 39, 40, 58, 9, 59, 76, 77, 78, 79] (by decide +kernel) (by decide +kernel)
set_option maxRecDepth 20000 in
theorem gX0_layDishes_X3_linesOf : GoodIn wsX0_layDishes (wsV RX0 97 RX3 yX3_linesOf wsX3_linesOf) := goodIn_app (goodIn_of _ (by decide +kernel)) ggX0_layDishes_X3_linesOf
set_option maxRecDepth 20000 in
theorem ggX0_layDishes_X0_put : GoodIn wsX0_layDishes wsX0_put := goodIn_r _ [63, 23, 64, 65, 66, 1, 67, 80, 81, 82, 83, 84, 85, 86] (by decide +kernel) (by decide +kernel)
set_option maxRecDepth 20000 in
theorem gX0_layDishes_X0_put : GoodIn wsX0_layDishes (wsV RX0 52 RX0 yX0_put wsX0_put) := goodIn_app (goodIn_of _ (by decide +kernel)) ggX0_layDishes_X0_put
theorem dX0_layDishes_0 : decode cX0_layDishes 0 = .ok (.iconst 1, 1) := by decide +kernel
theorem dX0_layDishes_1 : decode cX0_layDishes 1 = .ok (.istore 5, 2) := by decide +kernel
theorem dX0_layDishes_3 : decode cX0_layDishes 3 = .ok (.iconst 0, 1) := by decide +kernel
theorem dX0_layDishes_4 : decode cX0_layDishes 4 = .ok (.istore 6, 2) := by decide +kernel
theorem dX0_layDishes_6 : decode cX0_layDishes 6 = .ok (.iload 6, 2) := by decide +kernel
theorem dX0_layDishes_8 : decode cX0_layDishes 8 = .ok (.aload_n 1, 1) := by decide +kernel
theorem dX0_layDishes_9 : decode cX0_layDishes 9 = .ok (.invokevirtual 76, 3) := by decide +kernel
theorem dX0_layDishes_12 : decode cX0_layDishes 12 = .ok (.if_icmp .ge 86, 3) := by decide +kernel
theorem dX0_layDishes_15 : decode cX0_layDishes 15 = .ok (.aload_n 2, 1) := by decide +kernel
theorem dX0_layDishes_16 : decode cX0_layDishes 16 = .ok (.getfield 80, 3) := by decide +kernel
theorem dX0_layDishes_19 : decode cX0_layDishes 19 = .ok (.iload 6, 2) := by decide +kernel
theorem dX0_layDishes_21 : decode cX0_layDishes 21 = .ok (.invokestatic 83, 3) := by decide +kernel
theorem dX0_layDishes_24 : decode cX0_layDishes 24 = .ok (.ifCond .eq 68, 3) := by decide +kernel
theorem dX0_layDishes_27 : decode cX0_layDishes 27 = .ok (.aload_n 1, 1) := by decide +kernel
theorem dX0_layDishes_28 : decode cX0_layDishes 28 = .ok (.iload 6, 2) := by decide +kernel
theorem dX0_layDishes_30 : decode cX0_layDishes 30 = .ok (.iconst 0, 1) := by decide +kernel
theorem dX0_layDishes_31 : decode cX0_layDishes 31 = .ok (.invokevirtual 87, 3) := by decide +kernel
theorem dX0_layDishes_34 : decode cX0_layDishes 34 = .ok (.iload 4, 2) := by decide +kernel
theorem dX0_layDishes_36 : decode cX0_layDishes 36 = .ok (.if_icmp .ne 56, 3) := by decide +kernel
theorem dX0_layDishes_39 : decode cX0_layDishes 39 = .ok (.iload 5, 2) := by decide +kernel
theorem dX0_layDishes_41 : decode cX0_layDishes 41 = .ok (.ifCond .ne 31, 3) := by decide +kernel
theorem dX0_layDishes_44 : decode cX0_layDishes 44 = .ok (.aload_n 0, 1) := by decide +kernel
theorem dX0_layDishes_45 : decode cX0_layDishes 45 = .ok (.aload_n 3, 1) := by decide +kernel
theorem dX0_layDishes_46 : decode cX0_layDishes 46 = .ok (.aload_n 1, 1) := by decide +kernel
theorem dX0_layDishes_47 : decode cX0_layDishes 47 = .ok (.getfield 34, 3) := by decide +kernel
theorem dX0_layDishes_50 : decode cX0_layDishes 50 = .ok (.iload 4, 2) := by decide +kernel
theorem dX0_layDishes_52 : decode cX0_layDishes 52 = .ok (.invokestatic 39, 3) := by decide +kernel
theorem dX0_layDishes_55 : decode cX0_layDishes 55 = .ok (.invokevirtual 48, 3) := by decide +kernel
theorem dX0_layDishes_58 : decode cX0_layDishes 58 = .ok (.aload_n 0, 1) := by decide +kernel
theorem dX0_layDishes_59 : decode cX0_layDishes 59 = .ok (.dup, 1) := by decide +kernel
theorem dX0_layDishes_60 : decode cX0_layDishes 60 = .ok (.getfield 28, 3) := by decide +kernel
theorem dX0_layDishes_63 : decode cX0_layDishes 63 = .ok (.aload_n 1, 1) := by decide +kernel
theorem dX0_layDishes_64 : decode cX0_layDishes 64 = .ok (.iconst 3, 1) := by decide +kernel
theorem dX0_layDishes_65 : decode cX0_layDishes 65 = .ok (.invokevirtual 90, 3) := by decide +kernel
theorem dX0_layDishes_68 : decode cX0_layDishes 68 = .ok (.iadd, 1) := by decide +kernel
theorem dX0_layDishes_69 : decode cX0_layDishes 69 = .ok (.putfield 28, 3) := by decide +kernel
theorem dX0_layDishes_72 : decode cX0_layDishes 72 = .ok (.aload_n 0, 1) := by decide +kernel
theorem dX0_layDishes_73 : decode cX0_layDishes 73 = .ok (.iconst 2, 1) := by decide +kernel
theorem dX0_layDishes_74 : decode cX0_layDishes 74 = .ok (.iload 6, 2) := by decide +kernel
theorem dX0_layDishes_76 : decode cX0_layDishes 76 = .ok (.aload_n 1, 1) := by decide +kernel
theorem dX0_layDishes_77 : decode cX0_layDishes 77 = .ok (.iload 6, 2) := by decide +kernel
theorem dX0_layDishes_79 : decode cX0_layDishes 79 = .ok (.aload_n 2, 1) := by decide +kernel
theorem dX0_layDishes_80 : decode cX0_layDishes 80 = .ok (.getfield 94, 3) := by decide +kernel
theorem dX0_layDishes_83 : decode cX0_layDishes 83 = .ok (.invokevirtual 97, 3) := by decide +kernel
theorem dX0_layDishes_86 : decode cX0_layDishes 86 = .ok (.invokevirtual 52, 3) := by decide +kernel
theorem dX0_layDishes_89 : decode cX0_layDishes 89 = .ok (.iconst 0, 1) := by decide +kernel
theorem dX0_layDishes_90 : decode cX0_layDishes 90 = .ok (.istore 5, 2) := by decide +kernel
theorem dX0_layDishes_92 : decode cX0_layDishes 92 = .ok (.iinc 6 1, 3) := by decide +kernel
theorem dX0_layDishes_95 : decode cX0_layDishes 95 = .ok (.goto (-89), 3) := by decide +kernel
theorem dX0_layDishes_98 : decode cX0_layDishes 98 = .ok (.return_, 1) := by decide +kernel
set_option maxRecDepth 20000 in
theorem ggX0_leaveFill_X1_fillAt : GoodIn wsX0_leaveFill wsX1_fillAt := goodIn_r _ [8, 9, 10, 11, 12, 7, 13, 14, 22, 23, 24, 25, 26] (by decide +kernel) (by decide +kernel)
set_option maxRecDepth 20000 in
theorem gX0_leaveFill_X1_fillAt : GoodIn wsX0_leaveFill (wsV RX0 100 RX1 yX1_fillAt wsX1_fillAt) := goodIn_app (goodIn_of _ (by decide +kernel)) ggX0_leaveFill_X1_fillAt
theorem dX0_leaveFill_0 : decode cX0_leaveFill 0 = .ok (.aload_n 0, 1) := by decide +kernel
theorem dX0_leaveFill_1 : decode cX0_leaveFill 1 = .ok (.getfield 24, 3) := by decide +kernel
theorem dX0_leaveFill_4 : decode cX0_leaveFill 4 = .ok (.ifCond .le 31, 3) := by decide +kernel
theorem dX0_leaveFill_7 : decode cX0_leaveFill 7 = .ok (.aload_n 0, 1) := by decide +kernel
theorem dX0_leaveFill_8 : decode cX0_leaveFill 8 = .ok (.dup, 1) := by decide +kernel
theorem dX0_leaveFill_9 : decode cX0_leaveFill 9 = .ok (.getfield 28, 3) := by decide +kernel
theorem dX0_leaveFill_12 : decode cX0_leaveFill 12 = .ok (.aload_n 1, 1) := by decide +kernel
theorem dX0_leaveFill_13 : decode cX0_leaveFill 13 = .ok (.iload_n 2, 1) := by decide +kernel
theorem dX0_leaveFill_14 : decode cX0_leaveFill 14 = .ok (.aload_n 0, 1) := by decide +kernel
theorem dX0_leaveFill_15 : decode cX0_leaveFill 15 = .ok (.getfield 31, 3) := by decide +kernel
theorem dX0_leaveFill_18 : decode cX0_leaveFill 18 = .ok (.invokevirtual 100, 3) := by decide +kernel
theorem dX0_leaveFill_21 : decode cX0_leaveFill 21 = .ok (.iadd, 1) := by decide +kernel
theorem dX0_leaveFill_22 : decode cX0_leaveFill 22 = .ok (.putfield 28, 3) := by decide +kernel
theorem dX0_leaveFill_25 : decode cX0_leaveFill 25 = .ok (.aload_n 0, 1) := by decide +kernel
theorem dX0_leaveFill_26 : decode cX0_leaveFill 26 = .ok (.dup, 1) := by decide +kernel
theorem dX0_leaveFill_27 : decode cX0_leaveFill 27 = .ok (.getfield 31, 3) := by decide +kernel
theorem dX0_leaveFill_30 : decode cX0_leaveFill 30 = .ok (.iconst 1, 1) := by decide +kernel
theorem dX0_leaveFill_31 : decode cX0_leaveFill 31 = .ok (.iadd, 1) := by decide +kernel
theorem dX0_leaveFill_32 : decode cX0_leaveFill 32 = .ok (.putfield 31, 3) := by decide +kernel
theorem dX0_leaveFill_35 : decode cX0_leaveFill 35 = .ok (.return_, 1) := by decide +kernel
theorem dX0_put_0 : decode cX0_put 0 = .ok (.aload_n 0, 1) := by decide +kernel
theorem dX0_put_1 : decode cX0_put 1 = .ok (.getfield 24, 3) := by decide +kernel
theorem dX0_put_4 : decode cX0_put 4 = .ok (.bipush 25, 2) := by decide +kernel
theorem dX0_put_6 : decode cX0_put 6 = .ok (.if_icmp .ge 66, 3) := by decide +kernel
theorem dX0_put_9 : decode cX0_put 9 = .ok (.aload_n 0, 1) := by decide +kernel
theorem dX0_put_10 : decode cX0_put 10 = .ok (.getfield 11, 3) := by decide +kernel
theorem dX0_put_13 : decode cX0_put 13 = .ok (.aload_n 0, 1) := by decide +kernel
theorem dX0_put_14 : decode cX0_put 14 = .ok (.getfield 24, 3) := by decide +kernel
theorem dX0_put_17 : decode cX0_put 17 = .ok (.iload_n 1, 1) := by decide +kernel
theorem dX0_put_18 : decode cX0_put 18 = .ok (.iastore, 1) := by decide +kernel
theorem dX0_put_19 : decode cX0_put 19 = .ok (.aload_n 0, 1) := by decide +kernel
theorem dX0_put_20 : decode cX0_put 20 = .ok (.getfield 15, 3) := by decide +kernel
theorem dX0_put_23 : decode cX0_put 23 = .ok (.aload_n 0, 1) := by decide +kernel
theorem dX0_put_24 : decode cX0_put 24 = .ok (.getfield 24, 3) := by decide +kernel
theorem dX0_put_27 : decode cX0_put 27 = .ok (.iload_n 2, 1) := by decide +kernel
theorem dX0_put_28 : decode cX0_put 28 = .ok (.iastore, 1) := by decide +kernel
theorem dX0_put_29 : decode cX0_put 29 = .ok (.aload_n 0, 1) := by decide +kernel
theorem dX0_put_30 : decode cX0_put 30 = .ok (.getfield 18, 3) := by decide +kernel
theorem dX0_put_33 : decode cX0_put 33 = .ok (.aload_n 0, 1) := by decide +kernel
theorem dX0_put_34 : decode cX0_put 34 = .ok (.getfield 24, 3) := by decide +kernel
theorem dX0_put_37 : decode cX0_put 37 = .ok (.aload_n 0, 1) := by decide +kernel
theorem dX0_put_38 : decode cX0_put 38 = .ok (.getfield 28, 3) := by decide +kernel
theorem dX0_put_41 : decode cX0_put 41 = .ok (.iastore, 1) := by decide +kernel
theorem dX0_put_42 : decode cX0_put 42 = .ok (.aload_n 0, 1) := by decide +kernel
theorem dX0_put_43 : decode cX0_put 43 = .ok (.getfield 21, 3) := by decide +kernel
theorem dX0_put_46 : decode cX0_put 46 = .ok (.aload_n 0, 1) := by decide +kernel
theorem dX0_put_47 : decode cX0_put 47 = .ok (.getfield 24, 3) := by decide +kernel
theorem dX0_put_50 : decode cX0_put 50 = .ok (.iload_n 3, 1) := by decide +kernel
theorem dX0_put_51 : decode cX0_put 51 = .ok (.iastore, 1) := by decide +kernel
theorem dX0_put_52 : decode cX0_put 52 = .ok (.aload_n 0, 1) := by decide +kernel
theorem dX0_put_53 : decode cX0_put 53 = .ok (.dup, 1) := by decide +kernel
theorem dX0_put_54 : decode cX0_put 54 = .ok (.getfield 24, 3) := by decide +kernel
theorem dX0_put_57 : decode cX0_put 57 = .ok (.iconst 1, 1) := by decide +kernel
theorem dX0_put_58 : decode cX0_put 58 = .ok (.iadd, 1) := by decide +kernel
theorem dX0_put_59 : decode cX0_put 59 = .ok (.putfield 24, 3) := by decide +kernel
theorem dX0_put_62 : decode cX0_put 62 = .ok (.aload_n 0, 1) := by decide +kernel
theorem dX0_put_63 : decode cX0_put 63 = .ok (.dup, 1) := by decide +kernel
theorem dX0_put_64 : decode cX0_put 64 = .ok (.getfield 28, 3) := by decide +kernel
theorem dX0_put_67 : decode cX0_put 67 = .ok (.iload_n 3, 1) := by decide +kernel
theorem dX0_put_68 : decode cX0_put 68 = .ok (.iadd, 1) := by decide +kernel
theorem dX0_put_69 : decode cX0_put 69 = .ok (.putfield 28, 3) := by decide +kernel
theorem dX0_put_72 : decode cX0_put 72 = .ok (.return_, 1) := by decide +kernel
