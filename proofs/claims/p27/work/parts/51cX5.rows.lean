theorem dX5_init_0 : decode cX5_init 0 = .ok (.aload_n 0, 1) := by decide +kernel
theorem dX5_init_1 : decode cX5_init 1 = .ok (.invokespecial 3, 3) := by decide +kernel
theorem dX5_init_4 : decode cX5_init 4 = .ok (.aload_n 0, 1) := by decide +kernel
theorem dX5_init_5 : decode cX5_init 5 = .ok (.sipush 140, 3) := by decide +kernel
theorem dX5_init_8 : decode cX5_init 8 = .ok (.newarray .int, 2) := by decide +kernel
theorem dX5_init_10 : decode cX5_init 10 = .ok (.putfield 9, 3) := by decide +kernel
theorem dX5_init_13 : decode cX5_init 13 = .ok (.aload_n 0, 1) := by decide +kernel
theorem dX5_init_14 : decode cX5_init 14 = .ok (.bipush 7, 2) := by decide +kernel
theorem dX5_init_16 : decode cX5_init 16 = .ok (.newarray .int, 2) := by decide +kernel
theorem dX5_init_18 : decode cX5_init 18 = .ok (.putfield 15, 3) := by decide +kernel
theorem dX5_init_21 : decode cX5_init 21 = .ok (.aload_n 0, 1) := by decide +kernel
theorem dX5_init_22 : decode cX5_init 22 = .ok (.iconst 0, 1) := by decide +kernel
theorem dX5_init_23 : decode cX5_init 23 = .ok (.putfield 18, 3) := by decide +kernel
theorem dX5_init_26 : decode cX5_init 26 = .ok (.return_, 1) := by decide +kernel
theorem dX5_write_0 : decode cX5_write 0 = .ok (.aload_n 0, 1) := by decide +kernel
theorem dX5_write_1 : decode cX5_write 1 = .ok (.getfield 18, 3) := by decide +kernel
theorem dX5_write_4 : decode cX5_write 4 = .ok (.sipush 140, 3) := by decide +kernel
theorem dX5_write_7 : decode cX5_write 7 = .ok (.if_icmp .ge 23, 3) := by decide +kernel
theorem dX5_write_10 : decode cX5_write 10 = .ok (.aload_n 0, 1) := by decide +kernel
theorem dX5_write_11 : decode cX5_write 11 = .ok (.getfield 9, 3) := by decide +kernel
theorem dX5_write_14 : decode cX5_write 14 = .ok (.aload_n 0, 1) := by decide +kernel
theorem dX5_write_15 : decode cX5_write 15 = .ok (.getfield 18, 3) := by decide +kernel
theorem dX5_write_18 : decode cX5_write 18 = .ok (.iload_n 1, 1) := by decide +kernel
theorem dX5_write_19 : decode cX5_write 19 = .ok (.iastore, 1) := by decide +kernel
theorem dX5_write_20 : decode cX5_write 20 = .ok (.aload_n 0, 1) := by decide +kernel
theorem dX5_write_21 : decode cX5_write 21 = .ok (.dup, 1) := by decide +kernel
theorem dX5_write_22 : decode cX5_write 22 = .ok (.getfield 18, 3) := by decide +kernel
theorem dX5_write_25 : decode cX5_write 25 = .ok (.iconst 1, 1) := by decide +kernel
theorem dX5_write_26 : decode cX5_write 26 = .ok (.iadd, 1) := by decide +kernel
theorem dX5_write_27 : decode cX5_write 27 = .ok (.putfield 18, 3) := by decide +kernel
theorem dX5_write_30 : decode cX5_write 30 = .ok (.return_, 1) := by decide +kernel
set_option maxRecDepth 20000 in
theorem ggX5_readInto_X5_nextSign : GoodIn wsX5_readInto wsX5_nextSign := goodIn_r _ [7, 1, 8, 9, 168, 169, 170, 171, 172] (by decide +kernel) (by decide +kernel)
set_option maxRecDepth 20000 in
theorem gX5_readInto_X5_nextSign : GoodIn wsX5_readInto (wsV RX5 25 RX5 yX5_nextSign wsX5_nextSign) := goodIn_app (goodIn_of _ (by decide +kernel)) ggX5_readInto_X5_nextSign
set_option maxRecDepth 20000 in
theorem ggX5_readInto_X5_readItem : GoodIn wsX5_readInto wsX5_readItem := goodIn_r _ [13, 1, 14, 15, 16, 17, 18, 19, 20, 21, 22, 6, 23, 2, 24, 25, 26, 27, 8, 9, 28, 29, 30, 31, 32, 33, 3, 4, 5, 7, 34, 35, 36, 37, 38, 39, 40, 41, 42, 43, 44, 45, 46, 47, 48, 49, 50, 51, 52, 53, 54, 55, 56, 57, 58, 59, 60, 61, 62, 63, 64, 65, 66, 67, 68, 69, 70, 71, 72, 73, 74, 75, 76, 77, 78, 79, 80, 81, 82, 83, 84, 85, 86, 87, 88, 89, 90, 91, 92, 93, 94, 95, 96, 97, 98, 99, 100, 101, 102, 103, 104, 105, 106, 107, 108, 109, 110, 111, 112, 113, 114, 115, 116, 117, 118, 119, 120, 121, 122, 123, 124, 125, 126, 127, 128, 129, 130, 131, 132, 133, 134, 135, 136, 137, 138, 139, 140, 141, 142, 143, 144, 145, 146, 147, 148, 149, 150, 151, 152, 153, 154, 155, 156, 157, 158, 159, 160, 161, 162, 163, 164, 165, 166, 167, 168, 169, 170, 171, 172, 173, 174, 175, 176] (by decide +kernel) (by decide +kernel)
set_option maxRecDepth 20000 in
theorem gX5_readInto_X5_readItem : GoodIn wsX5_readInto (wsV RX5 29 RX5 yX5_readItem wsX5_readItem) := goodIn_app (goodIn_of _ (by decide +kernel)) ggX5_readInto_X5_readItem
theorem dX5_readInto_0 : decode cX5_readInto 0 = .ok (.aload_n 0, 1) := by decide +kernel
theorem dX5_readInto_1 : decode cX5_readInto 1 = .ok (.iconst 0, 1) := by decide +kernel
theorem dX5_readInto_2 : decode cX5_readInto 2 = .ok (.putfield 22, 3) := by decide +kernel
theorem dX5_readInto_5 : decode cX5_readInto 5 = .ok (.iconst 0, 1) := by decide +kernel
theorem dX5_readInto_6 : decode cX5_readInto 6 = .ok (.istore_n 2, 1) := by decide +kernel
theorem dX5_readInto_7 : decode cX5_readInto 7 = .ok (.iload_n 2, 1) := by decide +kernel
theorem dX5_readInto_8 : decode cX5_readInto 8 = .ok (.bipush 20, 2) := by decide +kernel
theorem dX5_readInto_10 : decode cX5_readInto 10 = .ok (.if_icmp .gt 35, 3) := by decide +kernel
theorem dX5_readInto_13 : decode cX5_readInto 13 = .ok (.aload_n 0, 1) := by decide +kernel
theorem dX5_readInto_14 : decode cX5_readInto 14 = .ok (.invokevirtual 25, 3) := by decide +kernel
theorem dX5_readInto_17 : decode cX5_readInto 17 = .ok (.ifCond .ne 5, 3) := by decide +kernel
theorem dX5_readInto_20 : decode cX5_readInto 20 = .ok (.iload_n 2, 1) := by decide +kernel
theorem dX5_readInto_21 : decode cX5_readInto 21 = .ok (.ireturn, 1) := by decide +kernel
theorem dX5_readInto_22 : decode cX5_readInto 22 = .ok (.aload_n 0, 1) := by decide +kernel
theorem dX5_readInto_23 : decode cX5_readInto 23 = .ok (.aload_n 1, 1) := by decide +kernel
theorem dX5_readInto_24 : decode cX5_readInto 24 = .ok (.invokevirtual 29, 3) := by decide +kernel
theorem dX5_readInto_27 : decode cX5_readInto 27 = .ok (.ifCond .ne 12, 3) := by decide +kernel
theorem dX5_readInto_30 : decode cX5_readInto 30 = .ok (.sipush (-1000), 3) := by decide +kernel
theorem dX5_readInto_33 : decode cX5_readInto 33 = .ok (.aload_n 0, 1) := by decide +kernel
theorem dX5_readInto_34 : decode cX5_readInto 34 = .ok (.getfield 33, 3) := by decide +kernel
theorem dX5_readInto_37 : decode cX5_readInto 37 = .ok (.isub, 1) := by decide +kernel
theorem dX5_readInto_38 : decode cX5_readInto 38 = .ok (.ireturn, 1) := by decide +kernel
theorem dX5_readInto_39 : decode cX5_readInto 39 = .ok (.iinc 2 1, 3) := by decide +kernel
theorem dX5_readInto_42 : decode cX5_readInto 42 = .ok (.goto (-35), 3) := by decide +kernel
theorem dX5_readInto_45 : decode cX5_readInto 45 = .ok (.sipush (-1000), 3) := by decide +kernel
theorem dX5_readInto_48 : decode cX5_readInto 48 = .ok (.aload_n 0, 1) := by decide +kernel
theorem dX5_readInto_49 : decode cX5_readInto 49 = .ok (.getfield 33, 3) := by decide +kernel
theorem dX5_readInto_52 : decode cX5_readInto 52 = .ok (.isub, 1) := by decide +kernel
theorem dX5_readInto_53 : decode cX5_readInto 53 = .ok (.ireturn, 1) := by decide +kernel
set_option maxRecDepth 20000 in
theorem ggX5_readItem_X3_isFull : GoodIn wsX5_readItem wsX3_isFull := goodIn_r _ [6, 7, 169, 170, 171, 172] (by decide +kernel) (by decide +kernel)
set_option maxRecDepth 20000 in
theorem gX5_readItem_X3_isFull : GoodIn wsX5_readItem (wsV RX5 36 RX3 yX3_isFull wsX3_isFull) := goodIn_app (goodIn_of _ (by decide +kernel)) ggX5_readItem_X3_isFull
set_option maxRecDepth 20000 in
theorem ggX5_readItem_X5_failAt : GoodIn wsX5_readItem wsX5_failAt := goodIn_r _ [12, 13, 164, 165, 166, 167, 168] (by decide +kernel) (by decide +kernel)
set_option maxRecDepth 20000 in
theorem gX5_readItem_X5_failAt : GoodIn wsX5_readItem (wsV RX5 42 RX5 yX5_failAt wsX5_failAt) := goodIn_app (goodIn_of _ (by decide +kernel)) ggX5_readItem_X5_failAt
set_option maxRecDepth 20000 in
theorem ggX5_readItem_X5_readNumber : GoodIn wsX5_readItem wsX5_readNumber := goodIn_r _ [17, 1, 18, 19, 20, 21, 22, 23, 24, 25, 26, 27, 28, 11, 29, 30, 31, 32, 33, 34, 35, 36, 37, 8, 9, 10, 12, 13, 164, 165, 166, 167, 168] (by decide +kernel) (by decide +kernel)
set_option maxRecDepth 20000 in
theorem gX5_readItem_X5_readNumber : GoodIn wsX5_readItem (wsV RX5 46 RX5 yX5_readNumber wsX5_readNumber) := goodIn_app (goodIn_of _ (by decide +kernel)) ggX5_readItem_X5_readNumber
set_option maxRecDepth 20000 in
theorem ggX5_readItem_X5_readSign : GoodIn wsX5_readItem wsX5_readSign := goodIn_r _ [41, 1, 26, 27, 28, 11, 29, 18, 19, 8, 9, 10, 12, 13, 164, 165, 166, 167, 168] (by decide +kernel) (by decide +kernel)
set_option maxRecDepth 20000 in
theorem gX5_readItem_X5_readSign : GoodIn wsX5_readItem (wsV RX5 49 RX5 yX5_readSign wsX5_readSign) := goodIn_app (goodIn_of _ (by decide +kernel)) ggX5_readItem_X5_readSign
set_option maxRecDepth 20000 in
theorem ggX5_readItem_X5_readSeasons : GoodIn wsX5_readItem wsX5_readSeasons := goodIn_r _ [45, 25, 46, 47, 48, 11, 49, 1, 18, 19, 50, 51, 52, 53, 54, 55, 56, 57, 58, 59, 60, 61, 62, 63, 64, 65, 66, 67, 68, 69, 70, 71, 72, 73, 74, 75, 76, 77, 78, 79, 23, 80, 81, 22, 24, 82, 83, 84, 85, 86, 87, 88, 89, 90, 91, 92, 93, 94, 95, 96, 97, 98, 99, 100, 101, 102, 103, 104, 105, 106, 107, 108, 109, 110, 111, 112, 113, 114, 115, 116, 117, 118, 119, 120, 121, 122, 123, 124, 125, 126, 127, 128, 129, 130, 131, 132, 133, 134, 135, 136, 31, 137, 8, 9, 10, 12, 13, 164, 165, 166, 167, 168] (by decide +kernel) (by decide +kernel)
set_option maxRecDepth 20000 in
theorem gX5_readItem_X5_readSeasons : GoodIn wsX5_readItem (wsV RX5 53 RX5 yX5_readSeasons wsX5_readSeasons) := goodIn_app (goodIn_of _ (by decide +kernel)) ggX5_readItem_X5_readSeasons
set_option maxRecDepth 20000 in
theorem ggX5_readItem_X5_readAllergens : GoodIn wsX5_readItem wsX5_readAllergens := goodIn_r _ [141, 25, 1, 26, 27, 28, 11, 29, 18, 19, 46, 47, 48, 49, 50, 51, 52, 53, 54, 55, 56, 57, 58, 59, 60, 61, 62, 63, 64, 65, 66, 67, 68, 69, 70, 71, 72, 73, 74, 75, 76, 77, 78, 79, 23, 80, 81, 22, 24, 82, 83, 84, 85, 86, 87, 88, 89, 90, 91, 92, 93, 94, 95, 96, 97, 98, 99, 100, 101, 102, 103, 104, 105, 106, 107, 108, 109, 110, 111, 112, 113, 114, 115, 116, 117, 118, 119, 120, 121, 122, 123, 124, 125, 126, 127, 128, 129, 130, 131, 132, 133, 134, 135, 136, 31, 137, 8, 9, 10, 12, 13, 164, 165, 166, 167, 168] (by decide +kernel) (by decide +kernel)
set_option maxRecDepth 20000 in
theorem gX5_readItem_X5_readAllergens : GoodIn wsX5_readItem (wsV RX5 56 RX5 yX5_readAllergens wsX5_readAllergens) := goodIn_app (goodIn_of _ (by decide +kernel)) ggX5_readItem_X5_readAllergens
set_option maxRecDepth 20000 in
theorem ggX5_readItem_X5_readWeight : GoodIn wsX5_readItem wsX5_readWeight := goodIn_r _ [145, 25, 1, 26, 27, 28, 11, 29, 18, 19, 14, 15, 16, 17, 20, 21, 22, 23, 24, 30, 31, 32, 33, 34, 35, 36, 37, 8, 9, 10, 12, 13, 164, 165, 166, 167, 168] (by decide +kernel) (by decide +kernel)
set_option maxRecDepth 20000 in
theorem gX5_readItem_X5_readWeight : GoodIn wsX5_readItem (wsV RX5 59 RX5 yX5_readWeight wsX5_readWeight) := goodIn_app (goodIn_of _ (by decide +kernel)) ggX5_readItem_X5_readWeight
set_option maxRecDepth 20000 in
theorem ggX5_readItem_X5_addItem : GoodIn wsX5_readItem wsX5_addItem := goodIn_r _ [149, 25, 150, 151, 152, 5, 153, 154, 7, 155, 3, 4, 6, 156, 157, 158, 159, 160, 161, 162, 163, 30, 31, 32, 33, 34, 35, 36, 37, 164, 165, 166, 167, 168, 169, 170, 171, 172] (by decide +kernel) (by decide +kernel)
set_option maxRecDepth 20000 in
theorem gX5_readItem_X5_addItem : GoodIn wsX5_readItem (wsV RX5 62 RX5 yX5_addItem wsX5_addItem) := goodIn_app (goodIn_of _ (by decide +kernel)) ggX5_readItem_X5_addItem
theorem dX5_readItem_0 : decode cX5_readItem 0 = .ok (.aload_n 1, 1) := by decide +kernel
theorem dX5_readItem_1 : decode cX5_readItem 1 = .ok (.invokevirtual 36, 3) := by decide +kernel
theorem dX5_readItem_4 : decode cX5_readItem 4 = .ok (.ifCond .eq 12, 3) := by decide +kernel
theorem dX5_readItem_7 : decode cX5_readItem 7 = .ok (.aload_n 0, 1) := by decide +kernel
theorem dX5_readItem_8 : decode cX5_readItem 8 = .ok (.aload_n 0, 1) := by decide +kernel
theorem dX5_readItem_9 : decode cX5_readItem 9 = .ok (.getfield 22, 3) := by decide +kernel
theorem dX5_readItem_12 : decode cX5_readItem 12 = .ok (.invokevirtual 42, 3) := by decide +kernel
theorem dX5_readItem_15 : decode cX5_readItem 15 = .ok (.ireturn, 1) := by decide +kernel
theorem dX5_readItem_16 : decode cX5_readItem 16 = .ok (.aload_n 0, 1) := by decide +kernel
theorem dX5_readItem_17 : decode cX5_readItem 17 = .ok (.iconst 0, 1) := by decide +kernel
theorem dX5_readItem_18 : decode cX5_readItem 18 = .ok (.invokevirtual 46, 3) := by decide +kernel
theorem dX5_readItem_21 : decode cX5_readItem 21 = .ok (.ifCond .eq 71, 3) := by decide +kernel
theorem dX5_readItem_24 : decode cX5_readItem 24 = .ok (.aload_n 0, 1) := by decide +kernel
theorem dX5_readItem_25 : decode cX5_readItem 25 = .ok (.bipush 58, 2) := by decide +kernel
theorem dX5_readItem_27 : decode cX5_readItem 27 = .ok (.invokevirtual 49, 3) := by decide +kernel
theorem dX5_readItem_30 : decode cX5_readItem 30 = .ok (.ifCond .eq 62, 3) := by decide +kernel
theorem dX5_readItem_33 : decode cX5_readItem 33 = .ok (.aload_n 0, 1) := by decide +kernel
theorem dX5_readItem_34 : decode cX5_readItem 34 = .ok (.iconst 1, 1) := by decide +kernel
theorem dX5_readItem_35 : decode cX5_readItem 35 = .ok (.invokevirtual 46, 3) := by decide +kernel
theorem dX5_readItem_38 : decode cX5_readItem 38 = .ok (.ifCond .eq 54, 3) := by decide +kernel
theorem dX5_readItem_41 : decode cX5_readItem 41 = .ok (.aload_n 0, 1) := by decide +kernel
theorem dX5_readItem_42 : decode cX5_readItem 42 = .ok (.bipush 36, 2) := by decide +kernel
theorem dX5_readItem_44 : decode cX5_readItem 44 = .ok (.invokevirtual 49, 3) := by decide +kernel
theorem dX5_readItem_47 : decode cX5_readItem 47 = .ok (.ifCond .eq 45, 3) := by decide +kernel
theorem dX5_readItem_50 : decode cX5_readItem 50 = .ok (.aload_n 0, 1) := by decide +kernel
theorem dX5_readItem_51 : decode cX5_readItem 51 = .ok (.iconst 2, 1) := by decide +kernel
theorem dX5_readItem_52 : decode cX5_readItem 52 = .ok (.invokevirtual 46, 3) := by decide +kernel
theorem dX5_readItem_55 : decode cX5_readItem 55 = .ok (.ifCond .eq 37, 3) := by decide +kernel
theorem dX5_readItem_58 : decode cX5_readItem 58 = .ok (.aload_n 0, 1) := by decide +kernel
theorem dX5_readItem_59 : decode cX5_readItem 59 = .ok (.invokevirtual 53, 3) := by decide +kernel
theorem dX5_readItem_62 : decode cX5_readItem 62 = .ok (.ifCond .eq 30, 3) := by decide +kernel
theorem dX5_readItem_65 : decode cX5_readItem 65 = .ok (.aload_n 0, 1) := by decide +kernel
theorem dX5_readItem_66 : decode cX5_readItem 66 = .ok (.invokevirtual 56, 3) := by decide +kernel
theorem dX5_readItem_69 : decode cX5_readItem 69 = .ok (.ifCond .eq 23, 3) := by decide +kernel
theorem dX5_readItem_72 : decode cX5_readItem 72 = .ok (.aload_n 0, 1) := by decide +kernel
theorem dX5_readItem_73 : decode cX5_readItem 73 = .ok (.invokevirtual 59, 3) := by decide +kernel
theorem dX5_readItem_76 : decode cX5_readItem 76 = .ok (.ifCond .eq 16, 3) := by decide +kernel
theorem dX5_readItem_79 : decode cX5_readItem 79 = .ok (.aload_n 0, 1) := by decide +kernel
theorem dX5_readItem_80 : decode cX5_readItem 80 = .ok (.bipush 59, 2) := by decide +kernel
theorem dX5_readItem_82 : decode cX5_readItem 82 = .ok (.invokevirtual 49, 3) := by decide +kernel
theorem dX5_readItem_85 : decode cX5_readItem 85 = .ok (.ifCond .eq 7, 3) := by decide +kernel
theorem dX5_readItem_88 : decode cX5_readItem 88 = .ok (.iconst 1, 1) := by decide +kernel
theorem dX5_readItem_89 : decode cX5_readItem 89 = .ok (.goto 4, 3) := by decide +kernel
theorem dX5_readItem_92 : decode cX5_readItem 92 = .ok (.iconst 0, 1) := by decide +kernel
theorem dX5_readItem_93 : decode cX5_readItem 93 = .ok (.istore_n 2, 1) := by decide +kernel
theorem dX5_readItem_94 : decode cX5_readItem 94 = .ok (.iload_n 2, 1) := by decide +kernel
theorem dX5_readItem_95 : decode cX5_readItem 95 = .ok (.ifCond .eq 8, 3) := by decide +kernel
theorem dX5_readItem_98 : decode cX5_readItem 98 = .ok (.aload_n 0, 1) := by decide +kernel
theorem dX5_readItem_99 : decode cX5_readItem 99 = .ok (.aload_n 1, 1) := by decide +kernel
theorem dX5_readItem_100 : decode cX5_readItem 100 = .ok (.invokevirtual 62, 3) := by decide +kernel
theorem dX5_readItem_103 : decode cX5_readItem 103 = .ok (.iload_n 2, 1) := by decide +kernel
theorem dX5_readItem_104 : decode cX5_readItem 104 = .ok (.ireturn, 1) := by decide +kernel
set_option maxRecDepth 20000 in
theorem ggX5_addItem_X3_addOffered : GoodIn wsX5_addItem wsX3_addOffered := goodIn_r _ [6, 7, 8, 9, 10, 11, 5, 12, 34, 35, 36, 37] (by decide +kernel) (by decide +kernel)
set_option maxRecDepth 20000 in
theorem gX5_addItem_X3_addOffered : GoodIn wsX5_addItem (wsV RX5 66 RX3 yX3_addOffered wsX3_addOffered) := goodIn_app (goodIn_of _ (by decide +kernel)) ggX5_addItem_X3_addOffered
set_option maxRecDepth 20000 in
theorem ggX5_addItem_X3_change : GoodIn wsX5_addItem wsX3_change := goodIn_r _ [16, 7, 17, 18, 19, 5, 20, 8, 21, 22, 23, 24, 25, 26, 27, 28, 34, 35, 36, 37] (by decide +kernel) (by decide +kernel)
set_option maxRecDepth 20000 in
theorem gX5_addItem_X3_change : GoodIn wsX5_addItem (wsV RX5 69 RX3 yX3_change wsX3_change) := goodIn_app (goodIn_of _ (by decide +kernel)) ggX5_addItem_X3_change
theorem dX5_addItem_0 : decode cX5_addItem 0 = .ok (.aload_n 1, 1) := by decide +kernel
theorem dX5_addItem_1 : decode cX5_addItem 1 = .ok (.invokevirtual 66, 3) := by decide +kernel
theorem dX5_addItem_4 : decode cX5_addItem 4 = .ok (.istore_n 2, 1) := by decide +kernel
theorem dX5_addItem_5 : decode cX5_addItem 5 = .ok (.iconst 0, 1) := by decide +kernel
theorem dX5_addItem_6 : decode cX5_addItem 6 = .ok (.istore_n 3, 1) := by decide +kernel
theorem dX5_addItem_7 : decode cX5_addItem 7 = .ok (.iload_n 3, 1) := by decide +kernel
theorem dX5_addItem_8 : decode cX5_addItem 8 = .ok (.iconst 5, 1) := by decide +kernel
theorem dX5_addItem_9 : decode cX5_addItem 9 = .ok (.if_icmp .gt 21, 3) := by decide +kernel
theorem dX5_addItem_12 : decode cX5_addItem 12 = .ok (.aload_n 1, 1) := by decide +kernel
theorem dX5_addItem_13 : decode cX5_addItem 13 = .ok (.iload_n 2, 1) := by decide +kernel
theorem dX5_addItem_14 : decode cX5_addItem 14 = .ok (.iload_n 3, 1) := by decide +kernel
theorem dX5_addItem_15 : decode cX5_addItem 15 = .ok (.aload_n 0, 1) := by decide +kernel
theorem dX5_addItem_16 : decode cX5_addItem 16 = .ok (.getfield 15, 3) := by decide +kernel
theorem dX5_addItem_19 : decode cX5_addItem 19 = .ok (.iload_n 3, 1) := by decide +kernel
theorem dX5_addItem_20 : decode cX5_addItem 20 = .ok (.iaload, 1) := by decide +kernel
theorem dX5_addItem_21 : decode cX5_addItem 21 = .ok (.invokevirtual 69, 3) := by decide +kernel
theorem dX5_addItem_24 : decode cX5_addItem 24 = .ok (.iinc 3 1, 3) := by decide +kernel
theorem dX5_addItem_27 : decode cX5_addItem 27 = .ok (.goto (-20), 3) := by decide +kernel
theorem dX5_addItem_30 : decode cX5_addItem 30 = .ok (.return_, 1) := by decide +kernel
set_option maxRecDepth 20000 in
theorem ggX5_readSeasons_X5_readSet : GoodIn wsX5_readSeasons wsX5_readSet := goodIn_r _ [6, 7, 8, 9, 10, 11, 12, 13, 14, 15, 16, 17, 18, 19, 20, 21, 22, 23, 24, 25, 26, 27, 28, 29, 30, 31, 32, 33, 34, 35, 36, 37, 38, 39, 40, 41, 42, 43, 44, 45, 46, 47, 48, 49, 50, 51, 52, 53, 54, 55, 56, 57, 58, 59, 60, 61, 62, 63, 64, 65, 66, 67, 68, 69, 70, 71, 72, 73, 74, 75, 76, 77, 78, 79, 80, 81, 82, 83, 84, 85, 86, 87, 88, 89, 90, 91, 92, 93, 94, 95, 96, 97, 98, 99, 100, 101, 102, 103, 104, 5, 105, 106, 107, 108, 109, 110, 111] (by decide +kernel) (by decide +kernel)
set_option maxRecDepth 20000 in
theorem gX5_readSeasons_X5_readSet : GoodIn wsX5_readSeasons (wsV RX5 75 RX5 yX5_readSet wsX5_readSet) := goodIn_app (goodIn_of _ (by decide +kernel)) ggX5_readSeasons_X5_readSet
theorem dX5_readSeasons_0 : decode cX5_readSeasons 0 = .ok (.aload_n 0, 1) := by decide +kernel
theorem dX5_readSeasons_1 : decode cX5_readSeasons 1 = .ok (.ldc 73, 2) := by decide +kernel
theorem dX5_readSeasons_3 : decode cX5_readSeasons 3 = .ok (.invokevirtual 75, 3) := by decide +kernel
theorem dX5_readSeasons_6 : decode cX5_readSeasons 6 = .ok (.istore_n 1, 1) := by decide +kernel
theorem dX5_readSeasons_7 : decode cX5_readSeasons 7 = .ok (.aload_n 0, 1) := by decide +kernel
theorem dX5_readSeasons_8 : decode cX5_readSeasons 8 = .ok (.getfield 15, 3) := by decide +kernel
theorem dX5_readSeasons_11 : decode cX5_readSeasons 11 = .ok (.iconst 3, 1) := by decide +kernel
theorem dX5_readSeasons_12 : decode cX5_readSeasons 12 = .ok (.iload_n 1, 1) := by decide +kernel
theorem dX5_readSeasons_13 : decode cX5_readSeasons 13 = .ok (.ifCond .ne 8, 3) := by decide +kernel
theorem dX5_readSeasons_16 : decode cX5_readSeasons 16 = .ok (.bipush 15, 2) := by decide +kernel
theorem dX5_readSeasons_18 : decode cX5_readSeasons 18 = .ok (.goto 4, 3) := by decide +kernel
theorem dX5_readSeasons_21 : decode cX5_readSeasons 21 = .ok (.iload_n 1, 1) := by decide +kernel
theorem dX5_readSeasons_22 : decode cX5_readSeasons 22 = .ok (.iastore, 1) := by decide +kernel
theorem dX5_readSeasons_23 : decode cX5_readSeasons 23 = .ok (.iload_n 1, 1) := by decide +kernel
theorem dX5_readSeasons_24 : decode cX5_readSeasons 24 = .ok (.ifCond .lt 7, 3) := by decide +kernel
theorem dX5_readSeasons_27 : decode cX5_readSeasons 27 = .ok (.iconst 1, 1) := by decide +kernel
theorem dX5_readSeasons_28 : decode cX5_readSeasons 28 = .ok (.goto 4, 3) := by decide +kernel
theorem dX5_readSeasons_31 : decode cX5_readSeasons 31 = .ok (.iconst 0, 1) := by decide +kernel
theorem dX5_readSeasons_32 : decode cX5_readSeasons 32 = .ok (.ireturn, 1) := by decide +kernel
set_option maxRecDepth 20000 in
theorem ggX5_readAllergens_X5_nextSign : GoodIn wsX5_readAllergens wsX5_nextSign := goodIn_r _ [7, 2, 8, 9, 111, 112, 113, 114, 115] (by decide +kernel) (by decide +kernel)
set_option maxRecDepth 20000 in
theorem gX5_readAllergens_X5_nextSign : GoodIn wsX5_readAllergens (wsV RX5 25 RX5 yX5_nextSign wsX5_nextSign) := goodIn_app (goodIn_of _ (by decide +kernel)) ggX5_readAllergens_X5_nextSign
set_option maxRecDepth 20000 in
theorem ggX5_readAllergens_X5_readSet : GoodIn wsX5_readAllergens wsX5_readSet := goodIn_r _ [13, 2, 8, 9, 14, 15, 16, 17, 18, 19, 20, 21, 22, 23, 24, 25, 26, 27, 28, 29, 30, 31, 32, 33, 34, 35, 36, 37, 38, 39, 40, 41, 42, 43, 44, 45, 46, 47, 48, 49, 50, 51, 52, 53, 54, 55, 56, 57, 58, 59, 60, 61, 62, 63, 64, 65, 66, 67, 68, 69, 70, 71, 72, 73, 74, 75, 76, 77, 78, 79, 80, 81, 82, 83, 84, 85, 86, 87, 88, 89, 90, 91, 92, 93, 94, 95, 96, 97, 98, 99, 100, 101, 102, 103, 104, 105, 106, 107, 108, 6, 109, 110, 111, 112, 113, 114, 115] (by decide +kernel) (by decide +kernel)
set_option maxRecDepth 20000 in
theorem gX5_readAllergens_X5_readSet : GoodIn wsX5_readAllergens (wsV RX5 75 RX5 yX5_readSet wsX5_readSet) := goodIn_app (goodIn_of _ (by decide +kernel)) ggX5_readAllergens_X5_readSet
set_option maxRecDepth 20000 in
theorem ggX5_readAllergens_X5_failAt : GoodIn wsX5_readAllergens wsX5_failAt := goodIn_r _ [109, 110, 111, 112, 113, 114, 115] (by decide +kernel) (by decide +kernel)
set_option maxRecDepth 20000 in
theorem gX5_readAllergens_X5_failAt : GoodIn wsX5_readAllergens (wsV RX5 42 RX5 yX5_failAt wsX5_failAt) := goodIn_app (goodIn_of _ (by decide +kernel)) ggX5_readAllergens_X5_failAt
theorem dX5_readAllergens_0 : decode cX5_readAllergens 0 = .ok (.aload_n 0, 1) := by decide +kernel
theorem dX5_readAllergens_1 : decode cX5_readAllergens 1 = .ok (.getfield 15, 3) := by decide +kernel
theorem dX5_readAllergens_4 : decode cX5_readAllergens 4 = .ok (.iconst 4, 1) := by decide +kernel
theorem dX5_readAllergens_5 : decode cX5_readAllergens 5 = .ok (.iconst 0, 1) := by decide +kernel
theorem dX5_readAllergens_6 : decode cX5_readAllergens 6 = .ok (.iastore, 1) := by decide +kernel
theorem dX5_readAllergens_7 : decode cX5_readAllergens 7 = .ok (.aload_n 0, 1) := by decide +kernel
theorem dX5_readAllergens_8 : decode cX5_readAllergens 8 = .ok (.invokevirtual 25, 3) := by decide +kernel
theorem dX5_readAllergens_11 : decode cX5_readAllergens 11 = .ok (.bipush 43, 2) := by decide +kernel
theorem dX5_readAllergens_13 : decode cX5_readAllergens 13 = .ok (.if_icmp .eq 5, 3) := by decide +kernel
theorem dX5_readAllergens_16 : decode cX5_readAllergens 16 = .ok (.iconst 1, 1) := by decide +kernel
theorem dX5_readAllergens_17 : decode cX5_readAllergens 17 = .ok (.ireturn, 1) := by decide +kernel
theorem dX5_readAllergens_18 : decode cX5_readAllergens 18 = .ok (.aload_n 0, 1) := by decide +kernel
theorem dX5_readAllergens_19 : decode cX5_readAllergens 19 = .ok (.dup, 1) := by decide +kernel
theorem dX5_readAllergens_20 : decode cX5_readAllergens 20 = .ok (.getfield 22, 3) := by decide +kernel
theorem dX5_readAllergens_23 : decode cX5_readAllergens 23 = .ok (.iconst 1, 1) := by decide +kernel
theorem dX5_readAllergens_24 : decode cX5_readAllergens 24 = .ok (.iadd, 1) := by decide +kernel
theorem dX5_readAllergens_25 : decode cX5_readAllergens 25 = .ok (.putfield 22, 3) := by decide +kernel
theorem dX5_readAllergens_28 : decode cX5_readAllergens 28 = .ok (.aload_n 0, 1) := by decide +kernel
theorem dX5_readAllergens_29 : decode cX5_readAllergens 29 = .ok (.ldc 79, 2) := by decide +kernel
theorem dX5_readAllergens_31 : decode cX5_readAllergens 31 = .ok (.invokevirtual 75, 3) := by decide +kernel
theorem dX5_readAllergens_34 : decode cX5_readAllergens 34 = .ok (.istore_n 1, 1) := by decide +kernel
theorem dX5_readAllergens_35 : decode cX5_readAllergens 35 = .ok (.aload_n 0, 1) := by decide +kernel
theorem dX5_readAllergens_36 : decode cX5_readAllergens 36 = .ok (.getfield 15, 3) := by decide +kernel
theorem dX5_readAllergens_39 : decode cX5_readAllergens 39 = .ok (.iconst 4, 1) := by decide +kernel
theorem dX5_readAllergens_40 : decode cX5_readAllergens 40 = .ok (.iload_n 1, 1) := by decide +kernel
theorem dX5_readAllergens_41 : decode cX5_readAllergens 41 = .ok (.iastore, 1) := by decide +kernel
theorem dX5_readAllergens_42 : decode cX5_readAllergens 42 = .ok (.iload_n 1, 1) := by decide +kernel
theorem dX5_readAllergens_43 : decode cX5_readAllergens 43 = .ok (.ifCond .ne 14, 3) := by decide +kernel
theorem dX5_readAllergens_46 : decode cX5_readAllergens 46 = .ok (.aload_n 0, 1) := by decide +kernel
theorem dX5_readAllergens_47 : decode cX5_readAllergens 47 = .ok (.aload_n 0, 1) := by decide +kernel
theorem dX5_readAllergens_48 : decode cX5_readAllergens 48 = .ok (.getfield 22, 3) := by decide +kernel
theorem dX5_readAllergens_51 : decode cX5_readAllergens 51 = .ok (.invokevirtual 42, 3) := by decide +kernel
theorem dX5_readAllergens_54 : decode cX5_readAllergens 54 = .ok (.goto 12, 3) := by decide +kernel
theorem dX5_readAllergens_57 : decode cX5_readAllergens 57 = .ok (.iload_n 1, 1) := by decide +kernel
theorem dX5_readAllergens_58 : decode cX5_readAllergens 58 = .ok (.ifCond .le 7, 3) := by decide +kernel
theorem dX5_readAllergens_61 : decode cX5_readAllergens 61 = .ok (.iconst 1, 1) := by decide +kernel
theorem dX5_readAllergens_62 : decode cX5_readAllergens 62 = .ok (.goto 4, 3) := by decide +kernel
theorem dX5_readAllergens_65 : decode cX5_readAllergens 65 = .ok (.iconst 0, 1) := by decide +kernel
theorem dX5_readAllergens_66 : decode cX5_readAllergens 66 = .ok (.ireturn, 1) := by decide +kernel
set_option maxRecDepth 20000 in
theorem ggX5_readWeight_X5_nextSign : GoodIn wsX5_readWeight wsX5_nextSign := goodIn_r _ [7, 2, 8, 9, 32, 33, 34, 35, 36] (by decide +kernel) (by decide +kernel)
set_option maxRecDepth 20000 in
theorem gX5_readWeight_X5_nextSign : GoodIn wsX5_readWeight (wsV RX5 25 RX5 yX5_nextSign wsX5_nextSign) := goodIn_app (goodIn_of _ (by decide +kernel)) ggX5_readWeight_X5_nextSign
set_option maxRecDepth 20000 in
theorem ggX5_readWeight_X5_readNumber : GoodIn wsX5_readWeight wsX5_readNumber := goodIn_r _ [13, 2, 8, 9, 14, 15, 16, 17, 18, 1, 3, 4, 5, 6, 7, 19, 20, 21, 22, 23, 24, 25, 26, 27, 28, 29, 30, 31, 32, 33, 34, 35, 36] (by decide +kernel) (by decide +kernel)
set_option maxRecDepth 20000 in
theorem gX5_readWeight_X5_readNumber : GoodIn wsX5_readWeight (wsV RX5 46 RX5 yX5_readNumber wsX5_readNumber) := goodIn_app (goodIn_of _ (by decide +kernel)) ggX5_readWeight_X5_readNumber
theorem dX5_readWeight_0 : decode cX5_readWeight 0 = .ok (.aload_n 0, 1) := by decide +kernel
theorem dX5_readWeight_1 : decode cX5_readWeight 1 = .ok (.getfield 15, 3) := by decide +kernel
theorem dX5_readWeight_4 : decode cX5_readWeight 4 = .ok (.iconst 5, 1) := by decide +kernel
theorem dX5_readWeight_5 : decode cX5_readWeight 5 = .ok (.iconst 2, 1) := by decide +kernel
theorem dX5_readWeight_6 : decode cX5_readWeight 6 = .ok (.iastore, 1) := by decide +kernel
theorem dX5_readWeight_7 : decode cX5_readWeight 7 = .ok (.aload_n 0, 1) := by decide +kernel
theorem dX5_readWeight_8 : decode cX5_readWeight 8 = .ok (.invokevirtual 25, 3) := by decide +kernel
theorem dX5_readWeight_11 : decode cX5_readWeight 11 = .ok (.bipush 42, 2) := by decide +kernel
theorem dX5_readWeight_13 : decode cX5_readWeight 13 = .ok (.if_icmp .eq 5, 3) := by decide +kernel
theorem dX5_readWeight_16 : decode cX5_readWeight 16 = .ok (.iconst 1, 1) := by decide +kernel
theorem dX5_readWeight_17 : decode cX5_readWeight 17 = .ok (.ireturn, 1) := by decide +kernel
theorem dX5_readWeight_18 : decode cX5_readWeight 18 = .ok (.aload_n 0, 1) := by decide +kernel
theorem dX5_readWeight_19 : decode cX5_readWeight 19 = .ok (.dup, 1) := by decide +kernel
theorem dX5_readWeight_20 : decode cX5_readWeight 20 = .ok (.getfield 22, 3) := by decide +kernel
theorem dX5_readWeight_23 : decode cX5_readWeight 23 = .ok (.iconst 1, 1) := by decide +kernel
theorem dX5_readWeight_24 : decode cX5_readWeight 24 = .ok (.iadd, 1) := by decide +kernel
theorem dX5_readWeight_25 : decode cX5_readWeight 25 = .ok (.putfield 22, 3) := by decide +kernel
theorem dX5_readWeight_28 : decode cX5_readWeight 28 = .ok (.aload_n 0, 1) := by decide +kernel
theorem dX5_readWeight_29 : decode cX5_readWeight 29 = .ok (.iconst 5, 1) := by decide +kernel
theorem dX5_readWeight_30 : decode cX5_readWeight 30 = .ok (.invokevirtual 46, 3) := by decide +kernel
theorem dX5_readWeight_33 : decode cX5_readWeight 33 = .ok (.ireturn, 1) := by decide +kernel
set_option maxRecDepth 20000 in
theorem ggX5_readSet_J0_indexOf_0f7a4 : GoodIn wsX5_readSet wsJ0_indexOf_0f7a4 := goodIn_r _ [8, 9, 10, 11, 7, 12, 13, 14, 15, 16, 17, 18, 19, 20, 21, 22, 23, 24, 25, 26, 27, 28, 29, 30, 31, 32, 33, 34, 35, 36, 37, 38, 39, 40, 41, 42, 43, 44, 45, 46, 47, 48, 49, 50, 51, 52, 53, 54, 55, 56, 57, 58, 59, 60, 61, 62, 63, 64, 65, 66, 67, 68, 69, 70, 71, 72, 73, 74, 75, 76, 77, 78, 79, 80, 81, 82, 83, 84, 85, 86, 87, 88, 89, 90, 91, 92] (by decide +kernel) (by decide +kernel)
set_option maxRecDepth 20000 in
theorem gX5_readSet_J0_indexOf_0f7a4 : GoodIn wsX5_readSet (wsV RX5 81 RJ0 yJ0_indexOf_0f7a4 wsJ0_indexOf_0f7a4) := goodIn_app (goodIn_of _ (by decide +kernel)) ggX5_readSet_J0_indexOf_0f7a4
set_option maxRecDepth 20000 in
theorem ggX5_readSet_X8_has : GoodIn wsX5_readSet wsX8_has := goodIn_r _ [95] (by decide +kernel) (by decide +kernel)
set_option maxRecDepth 20000 in
theorem gX5_readSet_X8_has_n87 : GoodIn wsX5_readSet (wsX8_has) := ggX5_readSet_X8_has
set_option maxRecDepth 20000 in
theorem ggX5_readSet_X5_failAt : GoodIn wsX5_readSet wsX5_failAt := goodIn_r _ [100, 101, 102, 103, 104, 105, 106] (by decide +kernel) (by decide +kernel)
set_option maxRecDepth 20000 in
theorem gX5_readSet_X5_failAt : GoodIn wsX5_readSet (wsV RX5 42 RX5 yX5_failAt wsX5_failAt) := goodIn_app (goodIn_of _ (by decide +kernel)) ggX5_readSet_X5_failAt
theorem dX5_readSet_0 : decode cX5_readSet 0 = .ok (.iconst 0, 1) := by decide +kernel
theorem dX5_readSet_1 : decode cX5_readSet 1 = .ok (.istore_n 2, 1) := by decide +kernel
theorem dX5_readSet_2 : decode cX5_readSet 2 = .ok (.aload_n 0, 1) := by decide +kernel
theorem dX5_readSet_3 : decode cX5_readSet 3 = .ok (.getfield 22, 3) := by decide +kernel
theorem dX5_readSet_6 : decode cX5_readSet 6 = .ok (.aload_n 0, 1) := by decide +kernel
theorem dX5_readSet_7 : decode cX5_readSet 7 = .ok (.getfield 18, 3) := by decide +kernel
theorem dX5_readSet_10 : decode cX5_readSet 10 = .ok (.if_icmp .ge 84, 3) := by decide +kernel
theorem dX5_readSet_13 : decode cX5_readSet 13 = .ok (.aload_n 1, 1) := by decide +kernel
theorem dX5_readSet_14 : decode cX5_readSet 14 = .ok (.aload_n 0, 1) := by decide +kernel
theorem dX5_readSet_15 : decode cX5_readSet 15 = .ok (.getfield 9, 3) := by decide +kernel
theorem dX5_readSet_18 : decode cX5_readSet 18 = .ok (.aload_n 0, 1) := by decide +kernel
theorem dX5_readSet_19 : decode cX5_readSet 19 = .ok (.getfield 22, 3) := by decide +kernel
theorem dX5_readSet_22 : decode cX5_readSet 22 = .ok (.iaload, 1) := by decide +kernel
theorem dX5_readSet_23 : decode cX5_readSet 23 = .ok (.i2c, 1) := by decide +kernel
theorem dX5_readSet_24 : decode cX5_readSet 24 = .ok (.invokevirtual 81, 3) := by decide +kernel
theorem dX5_readSet_27 : decode cX5_readSet 27 = .ok (.istore_n 3, 1) := by decide +kernel
theorem dX5_readSet_28 : decode cX5_readSet 28 = .ok (.iload_n 3, 1) := by decide +kernel
theorem dX5_readSet_29 : decode cX5_readSet 29 = .ok (.ifCond .ge 19, 3) := by decide +kernel
theorem dX5_readSet_32 : decode cX5_readSet 32 = .ok (.aload_n 0, 1) := by decide +kernel
theorem dX5_readSet_33 : decode cX5_readSet 33 = .ok (.getfield 9, 3) := by decide +kernel
theorem dX5_readSet_36 : decode cX5_readSet 36 = .ok (.aload_n 0, 1) := by decide +kernel
theorem dX5_readSet_37 : decode cX5_readSet 37 = .ok (.getfield 22, 3) := by decide +kernel
theorem dX5_readSet_40 : decode cX5_readSet 40 = .ok (.iaload, 1) := by decide +kernel
theorem dX5_readSet_41 : decode cX5_readSet 41 = .ok (.bipush 32, 2) := by decide +kernel
theorem dX5_readSet_43 : decode cX5_readSet 43 = .ok (.if_icmp .eq 5, 3) := by decide +kernel
theorem dX5_readSet_46 : decode cX5_readSet 46 = .ok (.iload_n 2, 1) := by decide +kernel
theorem dX5_readSet_47 : decode cX5_readSet 47 = .ok (.ireturn, 1) := by decide +kernel
theorem dX5_readSet_48 : decode cX5_readSet 48 = .ok (.iload_n 3, 1) := by decide +kernel
theorem dX5_readSet_49 : decode cX5_readSet 49 = .ok (.ifCond .lt 22, 3) := by decide +kernel
theorem dX5_readSet_52 : decode cX5_readSet 52 = .ok (.iload_n 2, 1) := by decide +kernel
theorem dX5_readSet_53 : decode cX5_readSet 53 = .ok (.iload_n 3, 1) := by decide +kernel
theorem dX5_readSet_54 : decode cX5_readSet 54 = .ok (.invokestatic 87, 3) := by decide +kernel
theorem dX5_readSet_57 : decode cX5_readSet 57 = .ok (.ifCond .eq 14, 3) := by decide +kernel
theorem dX5_readSet_60 : decode cX5_readSet 60 = .ok (.aload_n 0, 1) := by decide +kernel
theorem dX5_readSet_61 : decode cX5_readSet 61 = .ok (.aload_n 0, 1) := by decide +kernel
theorem dX5_readSet_62 : decode cX5_readSet 62 = .ok (.getfield 22, 3) := by decide +kernel
theorem dX5_readSet_65 : decode cX5_readSet 65 = .ok (.invokevirtual 42, 3) := by decide +kernel
theorem dX5_readSet_68 : decode cX5_readSet 68 = .ok (.pop, 1) := by decide +kernel
theorem dX5_readSet_69 : decode cX5_readSet 69 = .ok (.iconst (-1), 1) := by decide +kernel
theorem dX5_readSet_70 : decode cX5_readSet 70 = .ok (.ireturn, 1) := by decide +kernel
theorem dX5_readSet_71 : decode cX5_readSet 71 = .ok (.iload_n 3, 1) := by decide +kernel
theorem dX5_readSet_72 : decode cX5_readSet 72 = .ok (.ifCond .lt 9, 3) := by decide +kernel
theorem dX5_readSet_75 : decode cX5_readSet 75 = .ok (.iload_n 2, 1) := by decide +kernel
theorem dX5_readSet_76 : decode cX5_readSet 76 = .ok (.iconst 1, 1) := by decide +kernel
theorem dX5_readSet_77 : decode cX5_readSet 77 = .ok (.iload_n 3, 1) := by decide +kernel
theorem dX5_readSet_78 : decode cX5_readSet 78 = .ok (.ishl, 1) := by decide +kernel
theorem dX5_readSet_79 : decode cX5_readSet 79 = .ok (.ior, 1) := by decide +kernel
theorem dX5_readSet_80 : decode cX5_readSet 80 = .ok (.istore_n 2, 1) := by decide +kernel
theorem dX5_readSet_81 : decode cX5_readSet 81 = .ok (.aload_n 0, 1) := by decide +kernel
theorem dX5_readSet_82 : decode cX5_readSet 82 = .ok (.dup, 1) := by decide +kernel
theorem dX5_readSet_83 : decode cX5_readSet 83 = .ok (.getfield 22, 3) := by decide +kernel
theorem dX5_readSet_86 : decode cX5_readSet 86 = .ok (.iconst 1, 1) := by decide +kernel
theorem dX5_readSet_87 : decode cX5_readSet 87 = .ok (.iadd, 1) := by decide +kernel
theorem dX5_readSet_88 : decode cX5_readSet 88 = .ok (.putfield 22, 3) := by decide +kernel
theorem dX5_readSet_91 : decode cX5_readSet 91 = .ok (.goto (-89), 3) := by decide +kernel
theorem dX5_readSet_94 : decode cX5_readSet 94 = .ok (.iload_n 2, 1) := by decide +kernel
theorem dX5_readSet_95 : decode cX5_readSet 95 = .ok (.ireturn, 1) := by decide +kernel
set_option maxRecDepth 20000 in
theorem ggX5_readNumber_X5_nextSign : GoodIn wsX5_readNumber wsX5_nextSign := goodIn_r _ [14, 1, 2, 3, 28, 29, 30, 31, 32] (by decide +kernel) (by decide +kernel)
set_option maxRecDepth 20000 in
theorem gX5_readNumber_X5_nextSign : GoodIn wsX5_readNumber (wsV RX5 25 RX5 yX5_nextSign wsX5_nextSign) := goodIn_app (goodIn_of _ (by decide +kernel)) ggX5_readNumber_X5_nextSign
set_option maxRecDepth 20000 in
theorem ggX5_readNumber_X8_inRange : GoodIn wsX5_readNumber wsX8_inRange := goodIn_r _ [17] (by decide +kernel) (by decide +kernel)
set_option maxRecDepth 20000 in
theorem gX5_readNumber_X8_inRange_n91 : GoodIn wsX5_readNumber (wsX8_inRange) := ggX5_readNumber_X8_inRange
set_option maxRecDepth 20000 in
theorem ggX5_readNumber_X8_isDishValue : GoodIn wsX5_readNumber wsX8_isDishValue := goodIn_r _ [19, 20, 21, 22, 15, 16, 17] (by decide +kernel) (by decide +kernel)
set_option maxRecDepth 20000 in
theorem gX5_readNumber_X8_isDishValue_n102 : GoodIn wsX5_readNumber (wsX8_isDishValue) := ggX5_readNumber_X8_isDishValue
set_option maxRecDepth 20000 in
theorem ggX5_readNumber_X5_failAt : GoodIn wsX5_readNumber wsX5_failAt := goodIn_r _ [26, 27, 28, 29, 30, 31, 32] (by decide +kernel) (by decide +kernel)
set_option maxRecDepth 20000 in
theorem gX5_readNumber_X5_failAt : GoodIn wsX5_readNumber (wsV RX5 42 RX5 yX5_failAt wsX5_failAt) := goodIn_app (goodIn_of _ (by decide +kernel)) ggX5_readNumber_X5_failAt
theorem dX5_readNumber_0 : decode cX5_readNumber 0 = .ok (.aload_n 0, 1) := by decide +kernel
theorem dX5_readNumber_1 : decode cX5_readNumber 1 = .ok (.invokevirtual 25, 3) := by decide +kernel
theorem dX5_readNumber_4 : decode cX5_readNumber 4 = .ok (.pop, 1) := by decide +kernel
theorem dX5_readNumber_5 : decode cX5_readNumber 5 = .ok (.aload_n 0, 1) := by decide +kernel
theorem dX5_readNumber_6 : decode cX5_readNumber 6 = .ok (.getfield 22, 3) := by decide +kernel
theorem dX5_readNumber_9 : decode cX5_readNumber 9 = .ok (.istore_n 2, 1) := by decide +kernel
theorem dX5_readNumber_10 : decode cX5_readNumber 10 = .ok (.iconst 0, 1) := by decide +kernel
theorem dX5_readNumber_11 : decode cX5_readNumber 11 = .ok (.istore_n 3, 1) := by decide +kernel
theorem dX5_readNumber_12 : decode cX5_readNumber 12 = .ok (.aload_n 0, 1) := by decide +kernel
theorem dX5_readNumber_13 : decode cX5_readNumber 13 = .ok (.getfield 22, 3) := by decide +kernel
theorem dX5_readNumber_16 : decode cX5_readNumber 16 = .ok (.aload_n 0, 1) := by decide +kernel
theorem dX5_readNumber_17 : decode cX5_readNumber 17 = .ok (.getfield 18, 3) := by decide +kernel
theorem dX5_readNumber_20 : decode cX5_readNumber 20 = .ok (.if_icmp .ge 58, 3) := by decide +kernel
theorem dX5_readNumber_23 : decode cX5_readNumber 23 = .ok (.aload_n 0, 1) := by decide +kernel
theorem dX5_readNumber_24 : decode cX5_readNumber 24 = .ok (.getfield 9, 3) := by decide +kernel
theorem dX5_readNumber_27 : decode cX5_readNumber 27 = .ok (.aload_n 0, 1) := by decide +kernel
theorem dX5_readNumber_28 : decode cX5_readNumber 28 = .ok (.getfield 22, 3) := by decide +kernel
theorem dX5_readNumber_31 : decode cX5_readNumber 31 = .ok (.iaload, 1) := by decide +kernel
theorem dX5_readNumber_32 : decode cX5_readNumber 32 = .ok (.bipush 48, 2) := by decide +kernel
theorem dX5_readNumber_34 : decode cX5_readNumber 34 = .ok (.bipush 57, 2) := by decide +kernel
theorem dX5_readNumber_36 : decode cX5_readNumber 36 = .ok (.invokestatic 91, 3) := by decide +kernel
theorem dX5_readNumber_39 : decode cX5_readNumber 39 = .ok (.ifCond .eq 39, 3) := by decide +kernel
theorem dX5_readNumber_42 : decode cX5_readNumber 42 = .ok (.ldc 95, 2) := by decide +kernel
theorem dX5_readNumber_44 : decode cX5_readNumber 44 = .ok (.iload_n 3, 1) := by decide +kernel
theorem dX5_readNumber_45 : decode cX5_readNumber 45 = .ok (.bipush 10, 2) := by decide +kernel
theorem dX5_readNumber_47 : decode cX5_readNumber 47 = .ok (.imul, 1) := by decide +kernel
theorem dX5_readNumber_48 : decode cX5_readNumber 48 = .ok (.aload_n 0, 1) := by decide +kernel
theorem dX5_readNumber_49 : decode cX5_readNumber 49 = .ok (.getfield 9, 3) := by decide +kernel
theorem dX5_readNumber_52 : decode cX5_readNumber 52 = .ok (.aload_n 0, 1) := by decide +kernel
theorem dX5_readNumber_53 : decode cX5_readNumber 53 = .ok (.getfield 22, 3) := by decide +kernel
theorem dX5_readNumber_56 : decode cX5_readNumber 56 = .ok (.iaload, 1) := by decide +kernel
theorem dX5_readNumber_57 : decode cX5_readNumber 57 = .ok (.iadd, 1) := by decide +kernel
theorem dX5_readNumber_58 : decode cX5_readNumber 58 = .ok (.bipush 48, 2) := by decide +kernel
theorem dX5_readNumber_60 : decode cX5_readNumber 60 = .ok (.isub, 1) := by decide +kernel
theorem dX5_readNumber_61 : decode cX5_readNumber 61 = .ok (.invokestatic 96, 3) := by decide +kernel
theorem dX5_readNumber_64 : decode cX5_readNumber 64 = .ok (.istore_n 3, 1) := by decide +kernel
theorem dX5_readNumber_65 : decode cX5_readNumber 65 = .ok (.aload_n 0, 1) := by decide +kernel
theorem dX5_readNumber_66 : decode cX5_readNumber 66 = .ok (.dup, 1) := by decide +kernel
theorem dX5_readNumber_67 : decode cX5_readNumber 67 = .ok (.getfield 22, 3) := by decide +kernel
theorem dX5_readNumber_70 : decode cX5_readNumber 70 = .ok (.iconst 1, 1) := by decide +kernel
theorem dX5_readNumber_71 : decode cX5_readNumber 71 = .ok (.iadd, 1) := by decide +kernel
theorem dX5_readNumber_72 : decode cX5_readNumber 72 = .ok (.putfield 22, 3) := by decide +kernel
theorem dX5_readNumber_75 : decode cX5_readNumber 75 = .ok (.goto (-63), 3) := by decide +kernel
theorem dX5_readNumber_78 : decode cX5_readNumber 78 = .ok (.aload_n 0, 1) := by decide +kernel
theorem dX5_readNumber_79 : decode cX5_readNumber 79 = .ok (.getfield 22, 3) := by decide +kernel
theorem dX5_readNumber_82 : decode cX5_readNumber 82 = .ok (.iload_n 2, 1) := by decide +kernel
theorem dX5_readNumber_83 : decode cX5_readNumber 83 = .ok (.isub, 1) := by decide +kernel
theorem dX5_readNumber_84 : decode cX5_readNumber 84 = .ok (.iconst 1, 1) := by decide +kernel
theorem dX5_readNumber_85 : decode cX5_readNumber 85 = .ok (.if_icmp .le 18, 3) := by decide +kernel
theorem dX5_readNumber_88 : decode cX5_readNumber 88 = .ok (.aload_n 0, 1) := by decide +kernel
theorem dX5_readNumber_89 : decode cX5_readNumber 89 = .ok (.getfield 9, 3) := by decide +kernel
theorem dX5_readNumber_92 : decode cX5_readNumber 92 = .ok (.iload_n 2, 1) := by decide +kernel
theorem dX5_readNumber_93 : decode cX5_readNumber 93 = .ok (.iaload, 1) := by decide +kernel
theorem dX5_readNumber_94 : decode cX5_readNumber 94 = .ok (.bipush 48, 2) := by decide +kernel
theorem dX5_readNumber_96 : decode cX5_readNumber 96 = .ok (.if_icmp .ne 7, 3) := by decide +kernel
theorem dX5_readNumber_99 : decode cX5_readNumber 99 = .ok (.iconst 1, 1) := by decide +kernel
theorem dX5_readNumber_100 : decode cX5_readNumber 100 = .ok (.goto 4, 3) := by decide +kernel
theorem dX5_readNumber_103 : decode cX5_readNumber 103 = .ok (.iconst 0, 1) := by decide +kernel
theorem dX5_readNumber_104 : decode cX5_readNumber 104 = .ok (.istore 4, 2) := by decide +kernel
theorem dX5_readNumber_106 : decode cX5_readNumber 106 = .ok (.aload_n 0, 1) := by decide +kernel
theorem dX5_readNumber_107 : decode cX5_readNumber 107 = .ok (.getfield 22, 3) := by decide +kernel
theorem dX5_readNumber_110 : decode cX5_readNumber 110 = .ok (.iload_n 2, 1) := by decide +kernel
theorem dX5_readNumber_111 : decode cX5_readNumber 111 = .ok (.if_icmp .eq 16, 3) := by decide +kernel
theorem dX5_readNumber_114 : decode cX5_readNumber 114 = .ok (.iload 4, 2) := by decide +kernel
theorem dX5_readNumber_116 : decode cX5_readNumber 116 = .ok (.ifCond .ne 11, 3) := by decide +kernel
theorem dX5_readNumber_119 : decode cX5_readNumber 119 = .ok (.iload_n 1, 1) := by decide +kernel
theorem dX5_readNumber_120 : decode cX5_readNumber 120 = .ok (.iload_n 3, 1) := by decide +kernel
theorem dX5_readNumber_121 : decode cX5_readNumber 121 = .ok (.invokestatic 102, 3) := by decide +kernel
theorem dX5_readNumber_124 : decode cX5_readNumber 124 = .ok (.ifCond .ne 9, 3) := by decide +kernel
theorem dX5_readNumber_127 : decode cX5_readNumber 127 = .ok (.aload_n 0, 1) := by decide +kernel
theorem dX5_readNumber_128 : decode cX5_readNumber 128 = .ok (.iload_n 2, 1) := by decide +kernel
theorem dX5_readNumber_129 : decode cX5_readNumber 129 = .ok (.invokevirtual 42, 3) := by decide +kernel
theorem dX5_readNumber_132 : decode cX5_readNumber 132 = .ok (.ireturn, 1) := by decide +kernel
theorem dX5_readNumber_133 : decode cX5_readNumber 133 = .ok (.aload_n 0, 1) := by decide +kernel
theorem dX5_readNumber_134 : decode cX5_readNumber 134 = .ok (.getfield 15, 3) := by decide +kernel
theorem dX5_readNumber_137 : decode cX5_readNumber 137 = .ok (.iload_n 1, 1) := by decide +kernel
theorem dX5_readNumber_138 : decode cX5_readNumber 138 = .ok (.iload_n 3, 1) := by decide +kernel
theorem dX5_readNumber_139 : decode cX5_readNumber 139 = .ok (.iastore, 1) := by decide +kernel
theorem dX5_readNumber_140 : decode cX5_readNumber 140 = .ok (.iconst 1, 1) := by decide +kernel
theorem dX5_readNumber_141 : decode cX5_readNumber 141 = .ok (.ireturn, 1) := by decide +kernel
set_option maxRecDepth 20000 in
theorem ggX5_readSign_X5_nextSign : GoodIn wsX5_readSign wsX5_nextSign := goodIn_r _ [6, 1, 7, 8, 14, 15, 16, 17, 18] (by decide +kernel) (by decide +kernel)
set_option maxRecDepth 20000 in
theorem gX5_readSign_X5_nextSign : GoodIn wsX5_readSign (wsV RX5 25 RX5 yX5_nextSign wsX5_nextSign) := goodIn_app (goodIn_of _ (by decide +kernel)) ggX5_readSign_X5_nextSign
set_option maxRecDepth 20000 in
theorem ggX5_readSign_X5_failAt : GoodIn wsX5_readSign wsX5_failAt := goodIn_r _ [12, 13, 14, 15, 16, 17, 18] (by decide +kernel) (by decide +kernel)
set_option maxRecDepth 20000 in
theorem gX5_readSign_X5_failAt : GoodIn wsX5_readSign (wsV RX5 42 RX5 yX5_failAt wsX5_failAt) := goodIn_app (goodIn_of _ (by decide +kernel)) ggX5_readSign_X5_failAt
theorem dX5_readSign_0 : decode cX5_readSign 0 = .ok (.aload_n 0, 1) := by decide +kernel
theorem dX5_readSign_1 : decode cX5_readSign 1 = .ok (.invokevirtual 25, 3) := by decide +kernel
theorem dX5_readSign_4 : decode cX5_readSign 4 = .ok (.iload_n 1, 1) := by decide +kernel
theorem dX5_readSign_5 : decode cX5_readSign 5 = .ok (.if_icmp .eq 12, 3) := by decide +kernel
theorem dX5_readSign_8 : decode cX5_readSign 8 = .ok (.aload_n 0, 1) := by decide +kernel
theorem dX5_readSign_9 : decode cX5_readSign 9 = .ok (.aload_n 0, 1) := by decide +kernel
theorem dX5_readSign_10 : decode cX5_readSign 10 = .ok (.getfield 22, 3) := by decide +kernel
theorem dX5_readSign_13 : decode cX5_readSign 13 = .ok (.invokevirtual 42, 3) := by decide +kernel
theorem dX5_readSign_16 : decode cX5_readSign 16 = .ok (.ireturn, 1) := by decide +kernel
theorem dX5_readSign_17 : decode cX5_readSign 17 = .ok (.aload_n 0, 1) := by decide +kernel
theorem dX5_readSign_18 : decode cX5_readSign 18 = .ok (.dup, 1) := by decide +kernel
theorem dX5_readSign_19 : decode cX5_readSign 19 = .ok (.getfield 22, 3) := by decide +kernel
theorem dX5_readSign_22 : decode cX5_readSign 22 = .ok (.iconst 1, 1) := by decide +kernel
theorem dX5_readSign_23 : decode cX5_readSign 23 = .ok (.iadd, 1) := by decide +kernel
theorem dX5_readSign_24 : decode cX5_readSign 24 = .ok (.putfield 22, 3) := by decide +kernel
theorem dX5_readSign_27 : decode cX5_readSign 27 = .ok (.iconst 1, 1) := by decide +kernel
theorem dX5_readSign_28 : decode cX5_readSign 28 = .ok (.ireturn, 1) := by decide +kernel
theorem dX5_nextSign_0 : decode cX5_nextSign 0 = .ok (.aload_n 0, 1) := by decide +kernel
theorem dX5_nextSign_1 : decode cX5_nextSign 1 = .ok (.getfield 22, 3) := by decide +kernel
theorem dX5_nextSign_4 : decode cX5_nextSign 4 = .ok (.aload_n 0, 1) := by decide +kernel
theorem dX5_nextSign_5 : decode cX5_nextSign 5 = .ok (.getfield 18, 3) := by decide +kernel
theorem dX5_nextSign_8 : decode cX5_nextSign 8 = .ok (.if_icmp .ge 40, 3) := by decide +kernel
theorem dX5_nextSign_11 : decode cX5_nextSign 11 = .ok (.aload_n 0, 1) := by decide +kernel
theorem dX5_nextSign_12 : decode cX5_nextSign 12 = .ok (.getfield 9, 3) := by decide +kernel
theorem dX5_nextSign_15 : decode cX5_nextSign 15 = .ok (.aload_n 0, 1) := by decide +kernel
theorem dX5_nextSign_16 : decode cX5_nextSign 16 = .ok (.getfield 22, 3) := by decide +kernel
theorem dX5_nextSign_19 : decode cX5_nextSign 19 = .ok (.iaload, 1) := by decide +kernel
theorem dX5_nextSign_20 : decode cX5_nextSign 20 = .ok (.bipush 32, 2) := by decide +kernel
theorem dX5_nextSign_22 : decode cX5_nextSign 22 = .ok (.if_icmp .eq 13, 3) := by decide +kernel
theorem dX5_nextSign_25 : decode cX5_nextSign 25 = .ok (.aload_n 0, 1) := by decide +kernel
theorem dX5_nextSign_26 : decode cX5_nextSign 26 = .ok (.getfield 9, 3) := by decide +kernel
theorem dX5_nextSign_29 : decode cX5_nextSign 29 = .ok (.aload_n 0, 1) := by decide +kernel
theorem dX5_nextSign_30 : decode cX5_nextSign 30 = .ok (.getfield 22, 3) := by decide +kernel
theorem dX5_nextSign_33 : decode cX5_nextSign 33 = .ok (.iaload, 1) := by decide +kernel
theorem dX5_nextSign_34 : decode cX5_nextSign 34 = .ok (.ireturn, 1) := by decide +kernel
theorem dX5_nextSign_35 : decode cX5_nextSign 35 = .ok (.aload_n 0, 1) := by decide +kernel
theorem dX5_nextSign_36 : decode cX5_nextSign 36 = .ok (.dup, 1) := by decide +kernel
theorem dX5_nextSign_37 : decode cX5_nextSign 37 = .ok (.getfield 22, 3) := by decide +kernel
theorem dX5_nextSign_40 : decode cX5_nextSign 40 = .ok (.iconst 1, 1) := by decide +kernel
theorem dX5_nextSign_41 : decode cX5_nextSign 41 = .ok (.iadd, 1) := by decide +kernel
theorem dX5_nextSign_42 : decode cX5_nextSign 42 = .ok (.putfield 22, 3) := by decide +kernel
theorem dX5_nextSign_45 : decode cX5_nextSign 45 = .ok (.goto (-45), 3) := by decide +kernel
theorem dX5_nextSign_48 : decode cX5_nextSign 48 = .ok (.iconst 0, 1) := by decide +kernel
theorem dX5_nextSign_49 : decode cX5_nextSign 49 = .ok (.ireturn, 1) := by decide +kernel
theorem dX5_failAt_0 : decode cX5_failAt 0 = .ok (.aload_n 0, 1) := by decide +kernel
theorem dX5_failAt_1 : decode cX5_failAt 1 = .ok (.iload_n 1, 1) := by decide +kernel
theorem dX5_failAt_2 : decode cX5_failAt 2 = .ok (.putfield 33, 3) := by decide +kernel
theorem dX5_failAt_5 : decode cX5_failAt 5 = .ok (.iconst 0, 1) := by decide +kernel
theorem dX5_failAt_6 : decode cX5_failAt 6 = .ok (.ireturn, 1) := by decide +kernel
