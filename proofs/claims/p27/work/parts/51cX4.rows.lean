theorem dX4_init_0 : decode cX4_init 0 = .ok (.aload_n 0, 1) := by decide +kernel
theorem dX4_init_1 : decode cX4_init 1 = .ok (.invokespecial 3, 3) := by decide +kernel
theorem dX4_init_4 : decode cX4_init 4 = .ok (.aload_n 0, 1) := by decide +kernel
theorem dX4_init_5 : decode cX4_init 5 = .ok (.iconst 4, 1) := by decide +kernel
theorem dX4_init_6 : decode cX4_init 6 = .ok (.newarray .int, 2) := by decide +kernel
theorem dX4_init_8 : decode cX4_init 8 = .ok (.putfield 9, 3) := by decide +kernel
theorem dX4_init_11 : decode cX4_init 11 = .ok (.aload_n 0, 1) := by decide +kernel
theorem dX4_init_12 : decode cX4_init 12 = .ok (.iconst 4, 1) := by decide +kernel
theorem dX4_init_13 : decode cX4_init 13 = .ok (.newarray .int, 2) := by decide +kernel
theorem dX4_init_15 : decode cX4_init 15 = .ok (.putfield 15, 3) := by decide +kernel
theorem dX4_init_18 : decode cX4_init 18 = .ok (.aload_n 0, 1) := by decide +kernel
theorem dX4_init_19 : decode cX4_init 19 = .ok (.iconst 4, 1) := by decide +kernel
theorem dX4_init_20 : decode cX4_init 20 = .ok (.newarray .int, 2) := by decide +kernel
theorem dX4_init_22 : decode cX4_init 22 = .ok (.putfield 18, 3) := by decide +kernel
theorem dX4_init_25 : decode cX4_init 25 = .ok (.return_, 1) := by decide +kernel
set_option maxRecDepth 20000 in
theorem ggX4_find_X4_clear : GoodIn wsX4_find wsX4_clear := goodIn_r _ [15, 1, 16, 17, 2, 3, 4, 5, 78, 79, 80, 81, 82, 83, 84, 85] (by decide +kernel) (by decide +kernel)
set_option maxRecDepth 20000 in
theorem gX4_find_X4_clear : GoodIn wsX4_find (wsV RX4 21 RX4 yX4_clear wsX4_clear) := goodIn_app (goodIn_of _ (by decide +kernel)) ggX4_find_X4_clear
set_option maxRecDepth 20000 in
theorem ggX4_find_X3_size : GoodIn wsX4_find wsX3_size := goodIn_r _ [22, 23, 86, 87, 88, 89] (by decide +kernel) (by decide +kernel)
set_option maxRecDepth 20000 in
theorem gX4_find_X3_size : GoodIn wsX4_find (wsV RX4 24 RX3 yX3_size wsX3_size) := goodIn_app (goodIn_of _ (by decide +kernel)) ggX4_find_X3_size
set_option maxRecDepth 20000 in
theorem ggX4_find_X3_valueOf : GoodIn wsX4_find wsX3_valueOf := goodIn_r _ [27, 28, 86, 87, 88, 89] (by decide +kernel) (by decide +kernel)
set_option maxRecDepth 20000 in
theorem gX4_find_X3_valueOf : GoodIn wsX4_find (wsV RX4 30 RX3 yX3_valueOf wsX3_valueOf) := goodIn_app (goodIn_of _ (by decide +kernel)) ggX4_find_X3_valueOf
set_option maxRecDepth 20000 in
theorem ggX4_find_X3_isOffered : GoodIn wsX4_find wsX3_isOffered := goodIn_r _ [32, 33, 25, 26, 21, 27, 28, 86, 87, 88, 89] (by decide +kernel) (by decide +kernel)
set_option maxRecDepth 20000 in
theorem gX4_find_X3_isOffered : GoodIn wsX4_find (wsV RX4 34 RX3 yX3_isOffered wsX3_isOffered) := goodIn_app (goodIn_of _ (by decide +kernel)) ggX4_find_X3_isOffered
set_option maxRecDepth 20000 in
theorem ggX4_find_X3_mayBePrinted : GoodIn wsX4_find wsX3_mayBePrinted := goodIn_r _ [37, 38, 39, 40, 21, 41, 33, 25, 26, 27, 28, 42, 43, 44, 45, 46, 47, 48, 86, 87, 88, 89] (by decide +kernel) (by decide +kernel)
set_option maxRecDepth 20000 in
theorem gX4_find_X3_mayBePrinted : GoodIn wsX4_find (wsV RX4 38 RX3 yX3_mayBePrinted wsX3_mayBePrinted) := goodIn_app (goodIn_of _ (by decide +kernel)) ggX4_find_X3_mayBePrinted
set_option maxRecDepth 20000 in
theorem ggX4_find_X3_setting : GoodIn wsX4_find wsX3_setting := goodIn_r _ [52, 53, 86, 87, 88, 89] (by decide +kernel) (by decide +kernel)
set_option maxRecDepth 20000 in
theorem gX4_find_X3_setting : GoodIn wsX4_find (wsV RX4 42 RX3 yX3_setting wsX3_setting) := goodIn_app (goodIn_of _ (by decide +kernel)) ggX4_find_X3_setting
set_option maxRecDepth 20000 in
theorem ggX4_find_X8_digitsOf : GoodIn wsX4_find wsX8_digitsOf := goodIn_r _ [55] (by decide +kernel) (by decide +kernel)
set_option maxRecDepth 20000 in
theorem gX4_find_X8_digitsOf_n64 : GoodIn wsX4_find (wsX8_digitsOf) := ggX4_find_X8_digitsOf
set_option maxRecDepth 20000 in
theorem ggX4_find_X4_measure : GoodIn wsX4_find wsX4_measure := goodIn_r _ [59, 2, 10, 16, 17, 18, 19, 20, 21, 22, 23, 42, 43, 44, 24, 25, 26, 27, 28, 60, 61, 62, 63, 64, 65, 66, 67, 33, 68, 69, 70, 71, 72, 73, 74, 75, 50, 51, 52, 53, 76, 77, 78, 79, 80, 81, 82, 83, 84, 85, 86, 87, 88, 89] (by decide +kernel) (by decide +kernel)
set_option maxRecDepth 20000 in
theorem gX4_find_X4_measure : GoodIn wsX4_find (wsV RX4 70 RX4 yX4_measure wsX4_measure) := goodIn_app (goodIn_of _ (by decide +kernel)) ggX4_find_X4_measure
theorem dX4_find_0 : decode cX4_find 0 = .ok (.aload_n 0, 1) := by decide +kernel
theorem dX4_find_1 : decode cX4_find 1 = .ok (.invokevirtual 21, 3) := by decide +kernel
theorem dX4_find_4 : decode cX4_find 4 = .ok (.iconst 0, 1) := by decide +kernel
theorem dX4_find_5 : decode cX4_find 5 = .ok (.istore 4, 2) := by decide +kernel
theorem dX4_find_7 : decode cX4_find 7 = .ok (.iconst 0, 1) := by decide +kernel
theorem dX4_find_8 : decode cX4_find 8 = .ok (.istore 5, 2) := by decide +kernel
theorem dX4_find_10 : decode cX4_find 10 = .ok (.iload 5, 2) := by decide +kernel
theorem dX4_find_12 : decode cX4_find 12 = .ok (.aload_n 1, 1) := by decide +kernel
theorem dX4_find_13 : decode cX4_find 13 = .ok (.invokevirtual 24, 3) := by decide +kernel
theorem dX4_find_16 : decode cX4_find 16 = .ok (.if_icmp .ge 132, 3) := by decide +kernel
theorem dX4_find_19 : decode cX4_find 19 = .ok (.aload_n 1, 1) := by decide +kernel
theorem dX4_find_20 : decode cX4_find 20 = .ok (.iload 5, 2) := by decide +kernel
theorem dX4_find_22 : decode cX4_find 22 = .ok (.iconst 0, 1) := by decide +kernel
theorem dX4_find_23 : decode cX4_find 23 = .ok (.invokevirtual 30, 3) := by decide +kernel
theorem dX4_find_26 : decode cX4_find 26 = .ok (.istore 6, 2) := by decide +kernel
theorem dX4_find_28 : decode cX4_find 28 = .ok (.aload_n 1, 1) := by decide +kernel
theorem dX4_find_29 : decode cX4_find 29 = .ok (.iload 5, 2) := by decide +kernel
theorem dX4_find_31 : decode cX4_find 31 = .ok (.invokevirtual 34, 3) := by decide +kernel
theorem dX4_find_34 : decode cX4_find 34 = .ok (.ifCond .eq 108, 3) := by decide +kernel
theorem dX4_find_37 : decode cX4_find 37 = .ok (.aload_n 1, 1) := by decide +kernel
theorem dX4_find_38 : decode cX4_find 38 = .ok (.iload 5, 2) := by decide +kernel
theorem dX4_find_40 : decode cX4_find 40 = .ok (.iload_n 2, 1) := by decide +kernel
theorem dX4_find_41 : decode cX4_find 41 = .ok (.iload_n 3, 1) := by decide +kernel
theorem dX4_find_42 : decode cX4_find 42 = .ok (.invokevirtual 38, 3) := by decide +kernel
theorem dX4_find_45 : decode cX4_find 45 = .ok (.ifCond .eq 97, 3) := by decide +kernel
theorem dX4_find_48 : decode cX4_find 48 = .ok (.aload_n 0, 1) := by decide +kernel
theorem dX4_find_49 : decode cX4_find 49 = .ok (.getfield 9, 3) := by decide +kernel
theorem dX4_find_52 : decode cX4_find 52 = .ok (.iload 6, 2) := by decide +kernel
theorem dX4_find_54 : decode cX4_find 54 = .ok (.iaload, 1) := by decide +kernel
theorem dX4_find_55 : decode cX4_find 55 = .ok (.aload_n 1, 1) := by decide +kernel
theorem dX4_find_56 : decode cX4_find 56 = .ok (.iconst 2, 1) := by decide +kernel
theorem dX4_find_57 : decode cX4_find 57 = .ok (.invokevirtual 42, 3) := by decide +kernel
theorem dX4_find_60 : decode cX4_find 60 = .ok (.if_icmp .ge 82, 3) := by decide +kernel
theorem dX4_find_63 : decode cX4_find 63 = .ok (.aload_n 1, 1) := by decide +kernel
theorem dX4_find_64 : decode cX4_find 64 = .ok (.iload 5, 2) := by decide +kernel
theorem dX4_find_66 : decode cX4_find 66 = .ok (.iconst 2, 1) := by decide +kernel
theorem dX4_find_67 : decode cX4_find 67 = .ok (.invokevirtual 30, 3) := by decide +kernel
theorem dX4_find_70 : decode cX4_find 70 = .ok (.istore 7, 2) := by decide +kernel
theorem dX4_find_72 : decode cX4_find 72 = .ok (.aload_n 0, 1) := by decide +kernel
theorem dX4_find_73 : decode cX4_find 73 = .ok (.getfield 9, 3) := by decide +kernel
theorem dX4_find_76 : decode cX4_find 76 = .ok (.iload 6, 2) := by decide +kernel
theorem dX4_find_78 : decode cX4_find 78 = .ok (.dup2, 1) := by decide +kernel
theorem dX4_find_79 : decode cX4_find 79 = .ok (.iaload, 1) := by decide +kernel
theorem dX4_find_80 : decode cX4_find 80 = .ok (.iconst 1, 1) := by decide +kernel
theorem dX4_find_81 : decode cX4_find 81 = .ok (.iadd, 1) := by decide +kernel
theorem dX4_find_82 : decode cX4_find 82 = .ok (.iastore, 1) := by decide +kernel
theorem dX4_find_83 : decode cX4_find 83 = .ok (.aload_n 0, 1) := by decide +kernel
theorem dX4_find_84 : decode cX4_find 84 = .ok (.dup, 1) := by decide +kernel
theorem dX4_find_85 : decode cX4_find 85 = .ok (.getfield 46, 3) := by decide +kernel
theorem dX4_find_88 : decode cX4_find 88 = .ok (.iconst 1, 1) := by decide +kernel
theorem dX4_find_89 : decode cX4_find 89 = .ok (.iload 5, 2) := by decide +kernel
theorem dX4_find_91 : decode cX4_find 91 = .ok (.ishl, 1) := by decide +kernel
theorem dX4_find_92 : decode cX4_find 92 = .ok (.ior, 1) := by decide +kernel
theorem dX4_find_93 : decode cX4_find 93 = .ok (.putfield 46, 3) := by decide +kernel
theorem dX4_find_96 : decode cX4_find 96 = .ok (.aload_n 0, 1) := by decide +kernel
theorem dX4_find_97 : decode cX4_find 97 = .ok (.dup, 1) := by decide +kernel
theorem dX4_find_98 : decode cX4_find 98 = .ok (.getfield 50, 3) := by decide +kernel
theorem dX4_find_101 : decode cX4_find 101 = .ok (.iconst 1, 1) := by decide +kernel
theorem dX4_find_102 : decode cX4_find 102 = .ok (.iadd, 1) := by decide +kernel
theorem dX4_find_103 : decode cX4_find 103 = .ok (.putfield 50, 3) := by decide +kernel
theorem dX4_find_106 : decode cX4_find 106 = .ok (.aload_n 0, 1) := by decide +kernel
theorem dX4_find_107 : decode cX4_find 107 = .ok (.dup, 1) := by decide +kernel
theorem dX4_find_108 : decode cX4_find 108 = .ok (.getfield 53, 3) := by decide +kernel
theorem dX4_find_111 : decode cX4_find 111 = .ok (.iload 7, 2) := by decide +kernel
theorem dX4_find_113 : decode cX4_find 113 = .ok (.iadd, 1) := by decide +kernel
theorem dX4_find_114 : decode cX4_find 114 = .ok (.putfield 53, 3) := by decide +kernel
theorem dX4_find_117 : decode cX4_find 117 = .ok (.aload_n 0, 1) := by decide +kernel
theorem dX4_find_118 : decode cX4_find 118 = .ok (.dup, 1) := by decide +kernel
theorem dX4_find_119 : decode cX4_find 119 = .ok (.getfield 56, 3) := by decide +kernel
theorem dX4_find_122 : decode cX4_find 122 = .ok (.aload_n 1, 1) := by decide +kernel
theorem dX4_find_123 : decode cX4_find 123 = .ok (.iload 5, 2) := by decide +kernel
theorem dX4_find_125 : decode cX4_find 125 = .ok (.iconst 4, 1) := by decide +kernel
theorem dX4_find_126 : decode cX4_find 126 = .ok (.invokevirtual 30, 3) := by decide +kernel
theorem dX4_find_129 : decode cX4_find 129 = .ok (.ior, 1) := by decide +kernel
theorem dX4_find_130 : decode cX4_find 130 = .ok (.putfield 56, 3) := by decide +kernel
theorem dX4_find_133 : decode cX4_find 133 = .ok (.iload 4, 2) := by decide +kernel
theorem dX4_find_135 : decode cX4_find 135 = .ok (.iload 7, 2) := by decide +kernel
theorem dX4_find_137 : decode cX4_find 137 = .ok (.invokestatic 59, 3) := by decide +kernel
theorem dX4_find_140 : decode cX4_find 140 = .ok (.istore 4, 2) := by decide +kernel
theorem dX4_find_142 : decode cX4_find 142 = .ok (.iinc 5 1, 3) := by decide +kernel
theorem dX4_find_145 : decode cX4_find 145 = .ok (.goto (-135), 3) := by decide +kernel
theorem dX4_find_148 : decode cX4_find 148 = .ok (.aload_n 0, 1) := by decide +kernel
theorem dX4_find_149 : decode cX4_find 149 = .ok (.iload 4, 2) := by decide +kernel
theorem dX4_find_151 : decode cX4_find 151 = .ok (.invokestatic 64, 3) := by decide +kernel
theorem dX4_find_154 : decode cX4_find 154 = .ok (.putfield 67, 3) := by decide +kernel
theorem dX4_find_157 : decode cX4_find 157 = .ok (.aload_n 0, 1) := by decide +kernel
theorem dX4_find_158 : decode cX4_find 158 = .ok (.aload_n 1, 1) := by decide +kernel
theorem dX4_find_159 : decode cX4_find 159 = .ok (.invokevirtual 70, 3) := by decide +kernel
theorem dX4_find_162 : decode cX4_find 162 = .ok (.return_, 1) := by decide +kernel
theorem dX4_clear_0 : decode cX4_clear 0 = .ok (.iconst 0, 1) := by decide +kernel
theorem dX4_clear_1 : decode cX4_clear 1 = .ok (.istore_n 1, 1) := by decide +kernel
theorem dX4_clear_2 : decode cX4_clear 2 = .ok (.iload_n 1, 1) := by decide +kernel
theorem dX4_clear_3 : decode cX4_clear 3 = .ok (.iconst 4, 1) := by decide +kernel
theorem dX4_clear_4 : decode cX4_clear 4 = .ok (.if_icmp .ge 30, 3) := by decide +kernel
theorem dX4_clear_7 : decode cX4_clear 7 = .ok (.aload_n 0, 1) := by decide +kernel
theorem dX4_clear_8 : decode cX4_clear 8 = .ok (.getfield 9, 3) := by decide +kernel
theorem dX4_clear_11 : decode cX4_clear 11 = .ok (.iload_n 1, 1) := by decide +kernel
theorem dX4_clear_12 : decode cX4_clear 12 = .ok (.iconst 0, 1) := by decide +kernel
theorem dX4_clear_13 : decode cX4_clear 13 = .ok (.iastore, 1) := by decide +kernel
theorem dX4_clear_14 : decode cX4_clear 14 = .ok (.aload_n 0, 1) := by decide +kernel
theorem dX4_clear_15 : decode cX4_clear 15 = .ok (.getfield 15, 3) := by decide +kernel
theorem dX4_clear_18 : decode cX4_clear 18 = .ok (.iload_n 1, 1) := by decide +kernel
theorem dX4_clear_19 : decode cX4_clear 19 = .ok (.iconst 0, 1) := by decide +kernel
theorem dX4_clear_20 : decode cX4_clear 20 = .ok (.iastore, 1) := by decide +kernel
theorem dX4_clear_21 : decode cX4_clear 21 = .ok (.aload_n 0, 1) := by decide +kernel
theorem dX4_clear_22 : decode cX4_clear 22 = .ok (.getfield 18, 3) := by decide +kernel
theorem dX4_clear_25 : decode cX4_clear 25 = .ok (.iload_n 1, 1) := by decide +kernel
theorem dX4_clear_26 : decode cX4_clear 26 = .ok (.iconst 0, 1) := by decide +kernel
theorem dX4_clear_27 : decode cX4_clear 27 = .ok (.iastore, 1) := by decide +kernel
theorem dX4_clear_28 : decode cX4_clear 28 = .ok (.iinc 1 1, 3) := by decide +kernel
theorem dX4_clear_31 : decode cX4_clear 31 = .ok (.goto (-29), 3) := by decide +kernel
theorem dX4_clear_34 : decode cX4_clear 34 = .ok (.aload_n 0, 1) := by decide +kernel
theorem dX4_clear_35 : decode cX4_clear 35 = .ok (.iconst 0, 1) := by decide +kernel
theorem dX4_clear_36 : decode cX4_clear 36 = .ok (.putfield 46, 3) := by decide +kernel
theorem dX4_clear_39 : decode cX4_clear 39 = .ok (.aload_n 0, 1) := by decide +kernel
theorem dX4_clear_40 : decode cX4_clear 40 = .ok (.iconst 0, 1) := by decide +kernel
theorem dX4_clear_41 : decode cX4_clear 41 = .ok (.putfield 50, 3) := by decide +kernel
theorem dX4_clear_44 : decode cX4_clear 44 = .ok (.aload_n 0, 1) := by decide +kernel
theorem dX4_clear_45 : decode cX4_clear 45 = .ok (.iconst 0, 1) := by decide +kernel
theorem dX4_clear_46 : decode cX4_clear 46 = .ok (.putfield 53, 3) := by decide +kernel
theorem dX4_clear_49 : decode cX4_clear 49 = .ok (.aload_n 0, 1) := by decide +kernel
theorem dX4_clear_50 : decode cX4_clear 50 = .ok (.iconst 0, 1) := by decide +kernel
theorem dX4_clear_51 : decode cX4_clear 51 = .ok (.putfield 56, 3) := by decide +kernel
theorem dX4_clear_54 : decode cX4_clear 54 = .ok (.return_, 1) := by decide +kernel
set_option maxRecDepth 20000 in
theorem ggX4_measure_X3_size : GoodIn wsX4_measure wsX3_size := goodIn_r _ [9, 10, 50, 51, 52, 53] (by decide +kernel) (by decide +kernel)
set_option maxRecDepth 20000 in
theorem gX4_measure_X3_size : GoodIn wsX4_measure (wsV RX4 24 RX3 yX3_size wsX3_size) := goodIn_app (goodIn_of _ (by decide +kernel)) ggX4_measure_X3_size
set_option maxRecDepth 20000 in
theorem ggX4_measure_X8_has : GoodIn wsX4_measure wsX8_has := goodIn_r _ [13] (by decide +kernel) (by decide +kernel)
set_option maxRecDepth 20000 in
theorem gX4_measure_X8_has_n74 : GoodIn wsX4_measure (wsX8_has) := ggX4_measure_X8_has
set_option maxRecDepth 20000 in
theorem ggX4_measure_X3_valueOf : GoodIn wsX4_measure wsX3_valueOf := goodIn_r _ [17, 18, 50, 51, 52, 53] (by decide +kernel) (by decide +kernel)
set_option maxRecDepth 20000 in
theorem gX4_measure_X3_valueOf : GoodIn wsX4_measure (wsV RX4 30 RX3 yX3_valueOf wsX3_valueOf) := goodIn_app (goodIn_of _ (by decide +kernel)) ggX4_measure_X3_valueOf
set_option maxRecDepth 20000 in
theorem ggX4_measure_X3_linesOf : GoodIn wsX4_measure wsX3_linesOf := goodIn_r _ [22, 23, 24, 25, 8, 26, 27, 15, 16, 17, 18, 28, 29, 30, 31, 32, 33, 34, 35, 36, 37, 38, 39, 40, 12, 41, 50, 51, 52, 53] (by decide +kernel) (by decide +kernel)
set_option maxRecDepth 20000 in
theorem gX4_measure_X3_linesOf : GoodIn wsX4_measure (wsV RX4 78 RX3 yX3_linesOf wsX3_linesOf) := goodIn_app (goodIn_of _ (by decide +kernel)) ggX4_measure_X3_linesOf
theorem dX4_measure_0 : decode cX4_measure 0 = .ok (.iconst 0, 1) := by decide +kernel
theorem dX4_measure_1 : decode cX4_measure 1 = .ok (.istore_n 2, 1) := by decide +kernel
theorem dX4_measure_2 : decode cX4_measure 2 = .ok (.iload_n 2, 1) := by decide +kernel
theorem dX4_measure_3 : decode cX4_measure 3 = .ok (.aload_n 1, 1) := by decide +kernel
theorem dX4_measure_4 : decode cX4_measure 4 = .ok (.invokevirtual 24, 3) := by decide +kernel
theorem dX4_measure_7 : decode cX4_measure 7 = .ok (.if_icmp .ge 69, 3) := by decide +kernel
theorem dX4_measure_10 : decode cX4_measure 10 = .ok (.aload_n 0, 1) := by decide +kernel
theorem dX4_measure_11 : decode cX4_measure 11 = .ok (.getfield 46, 3) := by decide +kernel
theorem dX4_measure_14 : decode cX4_measure 14 = .ok (.iload_n 2, 1) := by decide +kernel
theorem dX4_measure_15 : decode cX4_measure 15 = .ok (.invokestatic 74, 3) := by decide +kernel
theorem dX4_measure_18 : decode cX4_measure 18 = .ok (.ifCond .eq 52, 3) := by decide +kernel
theorem dX4_measure_21 : decode cX4_measure 21 = .ok (.aload_n 1, 1) := by decide +kernel
theorem dX4_measure_22 : decode cX4_measure 22 = .ok (.iload_n 2, 1) := by decide +kernel
theorem dX4_measure_23 : decode cX4_measure 23 = .ok (.iconst 0, 1) := by decide +kernel
theorem dX4_measure_24 : decode cX4_measure 24 = .ok (.invokevirtual 30, 3) := by decide +kernel
theorem dX4_measure_27 : decode cX4_measure 27 = .ok (.istore_n 3, 1) := by decide +kernel
theorem dX4_measure_28 : decode cX4_measure 28 = .ok (.aload_n 1, 1) := by decide +kernel
theorem dX4_measure_29 : decode cX4_measure 29 = .ok (.iload_n 2, 1) := by decide +kernel
theorem dX4_measure_30 : decode cX4_measure 30 = .ok (.aload_n 0, 1) := by decide +kernel
theorem dX4_measure_31 : decode cX4_measure 31 = .ok (.getfield 67, 3) := by decide +kernel
theorem dX4_measure_34 : decode cX4_measure 34 = .ok (.invokevirtual 78, 3) := by decide +kernel
theorem dX4_measure_37 : decode cX4_measure 37 = .ok (.istore 4, 2) := by decide +kernel
theorem dX4_measure_39 : decode cX4_measure 39 = .ok (.aload_n 0, 1) := by decide +kernel
theorem dX4_measure_40 : decode cX4_measure 40 = .ok (.getfield 15, 3) := by decide +kernel
theorem dX4_measure_43 : decode cX4_measure 43 = .ok (.iload_n 3, 1) := by decide +kernel
theorem dX4_measure_44 : decode cX4_measure 44 = .ok (.dup2, 1) := by decide +kernel
theorem dX4_measure_45 : decode cX4_measure 45 = .ok (.iaload, 1) := by decide +kernel
theorem dX4_measure_46 : decode cX4_measure 46 = .ok (.iload 4, 2) := by decide +kernel
theorem dX4_measure_48 : decode cX4_measure 48 = .ok (.iadd, 1) := by decide +kernel
theorem dX4_measure_49 : decode cX4_measure 49 = .ok (.iastore, 1) := by decide +kernel
theorem dX4_measure_50 : decode cX4_measure 50 = .ok (.aload_n 0, 1) := by decide +kernel
theorem dX4_measure_51 : decode cX4_measure 51 = .ok (.getfield 18, 3) := by decide +kernel
theorem dX4_measure_54 : decode cX4_measure 54 = .ok (.iload_n 3, 1) := by decide +kernel
theorem dX4_measure_55 : decode cX4_measure 55 = .ok (.dup2, 1) := by decide +kernel
theorem dX4_measure_56 : decode cX4_measure 56 = .ok (.iaload, 1) := by decide +kernel
theorem dX4_measure_57 : decode cX4_measure 57 = .ok (.aload_n 1, 1) := by decide +kernel
theorem dX4_measure_58 : decode cX4_measure 58 = .ok (.iload_n 2, 1) := by decide +kernel
theorem dX4_measure_59 : decode cX4_measure 59 = .ok (.iconst 5, 1) := by decide +kernel
theorem dX4_measure_60 : decode cX4_measure 60 = .ok (.invokevirtual 30, 3) := by decide +kernel
theorem dX4_measure_63 : decode cX4_measure 63 = .ok (.iload 4, 2) := by decide +kernel
theorem dX4_measure_65 : decode cX4_measure 65 = .ok (.imul, 1) := by decide +kernel
theorem dX4_measure_66 : decode cX4_measure 66 = .ok (.iconst 2, 1) := by decide +kernel
theorem dX4_measure_67 : decode cX4_measure 67 = .ok (.iadd, 1) := by decide +kernel
theorem dX4_measure_68 : decode cX4_measure 68 = .ok (.iadd, 1) := by decide +kernel
theorem dX4_measure_69 : decode cX4_measure 69 = .ok (.iastore, 1) := by decide +kernel
theorem dX4_measure_70 : decode cX4_measure 70 = .ok (.iinc 2 1, 3) := by decide +kernel
theorem dX4_measure_73 : decode cX4_measure 73 = .ok (.goto (-71), 3) := by decide +kernel
theorem dX4_measure_76 : decode cX4_measure 76 = .ok (.return_, 1) := by decide +kernel
