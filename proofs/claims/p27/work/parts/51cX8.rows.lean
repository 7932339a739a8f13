set_option maxRecDepth 20000 in
theorem ggX8_init_X7_init : GoodIn wsX8_init wsX7_init := goodIn_r _ [38, 39, 2, 3, 40, 13, 14, 41, 42, 43, 44, 45, 46, 47, 48, 49, 50, 51, 105, 106, 107, 108, 91, 92, 93] (by decide +kernel) (by decide +kernel)
set_option maxRecDepth 20000 in
theorem gX8_init_X7_init_n9 : GoodIn wsX8_init (wsX7_init) := ggX8_init_X7_init
set_option maxRecDepth 20000 in
theorem ggX8_init_X2_init : GoodIn wsX8_init wsX2_init := goodIn_r _ [53, 54, 2, 3, 55, 5, 6, 56, 57, 37, 38, 39, 40, 13, 14, 41, 42, 43, 44, 45, 46, 47, 48, 49, 50, 51, 91, 92, 93, 103, 104, 105, 106, 107, 108] (by decide +kernel) (by decide +kernel)
set_option maxRecDepth 20000 in
theorem gX8_init_X2_init_n18 : GoodIn wsX8_init (wsX2_init) := ggX8_init_X2_init
set_option maxRecDepth 20000 in
theorem ggX8_init_X3_init : GoodIn wsX8_init wsX3_init := goodIn_r _ [45, 46, 2, 3, 47, 48, 49, 50, 51, 105, 106, 107, 108] (by decide +kernel) (by decide +kernel)
set_option maxRecDepth 20000 in
theorem gX8_init_X3_init_n25 : GoodIn wsX8_init (wsX3_init) := ggX8_init_X3_init
set_option maxRecDepth 20000 in
theorem ggX8_init_X5_init : GoodIn wsX8_init wsX5_init := goodIn_r _ [59, 60, 2, 3, 47, 61, 62, 63, 109, 110, 111, 112, 113] (by decide +kernel) (by decide +kernel)
set_option maxRecDepth 20000 in
theorem gX8_init_X5_init_n32 : GoodIn wsX8_init (wsX5_init) := ggX8_init_X5_init
set_option maxRecDepth 20000 in
theorem ggX8_init_X4_init : GoodIn wsX8_init wsX4_init := goodIn_r _ [65, 66, 2, 3, 47, 67, 68, 69, 114, 115, 116, 117, 118, 119, 120, 121] (by decide +kernel) (by decide +kernel)
set_option maxRecDepth 20000 in
theorem gX8_init_X4_init_n39 : GoodIn wsX8_init (wsX4_init) := ggX8_init_X4_init
set_option maxRecDepth 20000 in
theorem ggX8_init_X1_init : GoodIn wsX8_init wsX1_init := goodIn_r _ [71, 72, 2, 3, 73, 47, 74, 75, 76, 122, 123, 124, 125, 126] (by decide +kernel) (by decide +kernel)
set_option maxRecDepth 20000 in
theorem gX8_init_X1_init_n46 : GoodIn wsX8_init (wsX1_init) := ggX8_init_X1_init
set_option maxRecDepth 20000 in
theorem ggX8_init_X0_init : GoodIn wsX8_init wsX0_init := goodIn_r _ [78, 79, 2, 3, 47, 80, 81, 82, 83, 127, 128, 129, 130, 131, 132, 133] (by decide +kernel) (by decide +kernel)
set_option maxRecDepth 20000 in
theorem gX8_init_X0_init_n56 : GoodIn wsX8_init (wsX0_init) := ggX8_init_X0_init
set_option maxRecDepth 20000 in
theorem ggX8_init_X6_init : GoodIn wsX8_init wsX6_init := goodIn_r _ [85, 86, 2, 3, 87, 88, 89, 47, 90, 134, 135, 136, 137, 138] (by decide +kernel) (by decide +kernel)
set_option maxRecDepth 20000 in
theorem gX8_init_X6_init_n63 : GoodIn wsX8_init (wsX6_init) := ggX8_init_X6_init
theorem dX8_init_0 : decode cX8_init 0 = .ok (.aload_n 0, 1) := by decide +kernel
theorem dX8_init_1 : decode cX8_init 1 = .ok (.invokespecial 1, 3) := by decide +kernel
theorem dX8_init_4 : decode cX8_init 4 = .ok (.aload_n 0, 1) := by decide +kernel
theorem dX8_init_5 : decode cX8_init 5 = .ok (.new 7, 3) := by decide +kernel
theorem dX8_init_8 : decode cX8_init 8 = .ok (.dup, 1) := by decide +kernel
theorem dX8_init_9 : decode cX8_init 9 = .ok (.invokespecial 9, 3) := by decide +kernel
theorem dX8_init_12 : decode cX8_init 12 = .ok (.putfield 10, 3) := by decide +kernel
theorem dX8_init_15 : decode cX8_init 15 = .ok (.aload_n 0, 1) := by decide +kernel
theorem dX8_init_16 : decode cX8_init 16 = .ok (.new 16, 3) := by decide +kernel
theorem dX8_init_19 : decode cX8_init 19 = .ok (.dup, 1) := by decide +kernel
theorem dX8_init_20 : decode cX8_init 20 = .ok (.invokespecial 18, 3) := by decide +kernel
theorem dX8_init_23 : decode cX8_init 23 = .ok (.putfield 19, 3) := by decide +kernel
theorem dX8_init_26 : decode cX8_init 26 = .ok (.aload_n 0, 1) := by decide +kernel
theorem dX8_init_27 : decode cX8_init 27 = .ok (.new 23, 3) := by decide +kernel
theorem dX8_init_30 : decode cX8_init 30 = .ok (.dup, 1) := by decide +kernel
theorem dX8_init_31 : decode cX8_init 31 = .ok (.invokespecial 25, 3) := by decide +kernel
theorem dX8_init_34 : decode cX8_init 34 = .ok (.putfield 26, 3) := by decide +kernel
theorem dX8_init_37 : decode cX8_init 37 = .ok (.aload_n 0, 1) := by decide +kernel
theorem dX8_init_38 : decode cX8_init 38 = .ok (.new 30, 3) := by decide +kernel
theorem dX8_init_41 : decode cX8_init 41 = .ok (.dup, 1) := by decide +kernel
theorem dX8_init_42 : decode cX8_init 42 = .ok (.invokespecial 32, 3) := by decide +kernel
theorem dX8_init_45 : decode cX8_init 45 = .ok (.putfield 33, 3) := by decide +kernel
theorem dX8_init_48 : decode cX8_init 48 = .ok (.aload_n 0, 1) := by decide +kernel
theorem dX8_init_49 : decode cX8_init 49 = .ok (.new 37, 3) := by decide +kernel
theorem dX8_init_52 : decode cX8_init 52 = .ok (.dup, 1) := by decide +kernel
theorem dX8_init_53 : decode cX8_init 53 = .ok (.invokespecial 39, 3) := by decide +kernel
theorem dX8_init_56 : decode cX8_init 56 = .ok (.putfield 40, 3) := by decide +kernel
theorem dX8_init_59 : decode cX8_init 59 = .ok (.aload_n 0, 1) := by decide +kernel
theorem dX8_init_60 : decode cX8_init 60 = .ok (.new 44, 3) := by decide +kernel
theorem dX8_init_63 : decode cX8_init 63 = .ok (.dup, 1) := by decide +kernel
theorem dX8_init_64 : decode cX8_init 64 = .ok (.invokespecial 46, 3) := by decide +kernel
theorem dX8_init_67 : decode cX8_init 67 = .ok (.putfield 47, 3) := by decide +kernel
theorem dX8_init_70 : decode cX8_init 70 = .ok (.aload_n 0, 1) := by decide +kernel
theorem dX8_init_71 : decode cX8_init 71 = .ok (.new 44, 3) := by decide +kernel
theorem dX8_init_74 : decode cX8_init 74 = .ok (.dup, 1) := by decide +kernel
theorem dX8_init_75 : decode cX8_init 75 = .ok (.invokespecial 46, 3) := by decide +kernel
theorem dX8_init_78 : decode cX8_init 78 = .ok (.putfield 51, 3) := by decide +kernel
theorem dX8_init_81 : decode cX8_init 81 = .ok (.aload_n 0, 1) := by decide +kernel
theorem dX8_init_82 : decode cX8_init 82 = .ok (.new 54, 3) := by decide +kernel
theorem dX8_init_85 : decode cX8_init 85 = .ok (.dup, 1) := by decide +kernel
theorem dX8_init_86 : decode cX8_init 86 = .ok (.invokespecial 56, 3) := by decide +kernel
theorem dX8_init_89 : decode cX8_init 89 = .ok (.putfield 57, 3) := by decide +kernel
theorem dX8_init_92 : decode cX8_init 92 = .ok (.aload_n 0, 1) := by decide +kernel
theorem dX8_init_93 : decode cX8_init 93 = .ok (.new 61, 3) := by decide +kernel
theorem dX8_init_96 : decode cX8_init 96 = .ok (.dup, 1) := by decide +kernel
theorem dX8_init_97 : decode cX8_init 97 = .ok (.invokespecial 63, 3) := by decide +kernel
theorem dX8_init_100 : decode cX8_init 100 = .ok (.putfield 64, 3) := by decide +kernel
theorem dX8_init_103 : decode cX8_init 103 = .ok (.return_, 1) := by decide +kernel
set_option maxRecDepth 20000 in
theorem ggX8_addDish_X8_isDishValue : GoodIn wsX8_addDish wsX8_isDishValue := goodIn_r _ [6, 7, 8, 9, 10, 5, 11] (by decide +kernel) (by decide +kernel)
set_option maxRecDepth 20000 in
theorem gX8_addDish_X8_isDishValue : GoodIn wsX8_addDish (va_wsS RX8 68 yX8_isDishValue wsX8_isDishValue) := goodIn_app (goodIn_of _ (by decide +kernel)) ggX8_addDish_X8_isDishValue
set_option maxRecDepth 20000 in
theorem ggX8_addDish_X3_isFull : GoodIn wsX8_addDish wsX3_isFull := goodIn_r _ [16, 17, 73, 74, 75, 76] (by decide +kernel) (by decide +kernel)
set_option maxRecDepth 20000 in
theorem gX8_addDish_X3_isFull : GoodIn wsX8_addDish (wsV RX8 75 RX3 yX3_isFull wsX3_isFull) := goodIn_app (goodIn_of _ (by decide +kernel)) ggX8_addDish_X3_isFull
set_option maxRecDepth 20000 in
theorem ggX8_addDish_X2_record : GoodIn wsX8_addDish wsX2_record := goodIn_r _ [22, 23, 24, 25, 26, 27, 21, 28, 29, 30, 31, 32, 33, 34, 35, 36, 37, 38, 39, 15, 40, 41, 42, 43, 44, 45, 46, 17, 47, 77, 78, 70, 71, 72, 73, 74, 75, 76] (by decide +kernel) (by decide +kernel)
set_option maxRecDepth 20000 in
theorem gX8_addDish_X2_record : GoodIn wsX8_addDish (wsV RX8 79 RX2 yX2_record wsX2_record) := goodIn_app (goodIn_of _ (by decide +kernel)) ggX8_addDish_X2_record
set_option maxRecDepth 20000 in
theorem ggX8_addDish_X3_addOffered : GoodIn wsX8_addDish wsX3_addOffered := goodIn_r _ [51, 41, 17, 52, 13, 14, 15, 16, 73, 74, 75, 76] (by decide +kernel) (by decide +kernel)
set_option maxRecDepth 20000 in
theorem gX8_addDish_X3_addOffered : GoodIn wsX8_addDish (wsV RX8 83 RX3 yX3_addOffered wsX3_addOffered) := goodIn_app (goodIn_of _ (by decide +kernel)) ggX8_addDish_X3_addOffered
set_option maxRecDepth 20000 in
theorem ggX8_addDish_X3_change : GoodIn wsX8_addDish wsX3_change := goodIn_r _ [56, 41, 57, 58, 59, 15, 60, 17, 10, 5, 11, 4, 6, 7, 8, 9, 73, 74, 75, 76] (by decide +kernel) (by decide +kernel)
set_option maxRecDepth 20000 in
theorem gX8_addDish_X3_change : GoodIn wsX8_addDish (wsV RX8 87 RX3 yX3_change wsX3_change) := goodIn_app (goodIn_of _ (by decide +kernel)) ggX8_addDish_X3_change
theorem dX8_addDish_0 : decode cX8_addDish 0 = .ok (.iconst 0, 1) := by decide +kernel
theorem dX8_addDish_1 : decode cX8_addDish 1 = .ok (.iload_n 1, 1) := by decide +kernel
theorem dX8_addDish_2 : decode cX8_addDish 2 = .ok (.invokestatic 68, 3) := by decide +kernel
theorem dX8_addDish_5 : decode cX8_addDish 5 = .ok (.ifCond .eq 46, 3) := by decide +kernel
theorem dX8_addDish_8 : decode cX8_addDish 8 = .ok (.iconst 1, 1) := by decide +kernel
theorem dX8_addDish_9 : decode cX8_addDish 9 = .ok (.iload_n 2, 1) := by decide +kernel
theorem dX8_addDish_10 : decode cX8_addDish 10 = .ok (.invokestatic 68, 3) := by decide +kernel
theorem dX8_addDish_13 : decode cX8_addDish 13 = .ok (.ifCond .eq 38, 3) := by decide +kernel
theorem dX8_addDish_16 : decode cX8_addDish 16 = .ok (.iconst 2, 1) := by decide +kernel
theorem dX8_addDish_17 : decode cX8_addDish 17 = .ok (.iload_n 3, 1) := by decide +kernel
theorem dX8_addDish_18 : decode cX8_addDish 18 = .ok (.invokestatic 68, 3) := by decide +kernel
theorem dX8_addDish_21 : decode cX8_addDish 21 = .ok (.ifCond .eq 30, 3) := by decide +kernel
theorem dX8_addDish_24 : decode cX8_addDish 24 = .ok (.iconst 3, 1) := by decide +kernel
theorem dX8_addDish_25 : decode cX8_addDish 25 = .ok (.iload 4, 2) := by decide +kernel
theorem dX8_addDish_27 : decode cX8_addDish 27 = .ok (.invokestatic 68, 3) := by decide +kernel
theorem dX8_addDish_30 : decode cX8_addDish 30 = .ok (.ifCond .eq 21, 3) := by decide +kernel
theorem dX8_addDish_33 : decode cX8_addDish 33 = .ok (.iconst 4, 1) := by decide +kernel
theorem dX8_addDish_34 : decode cX8_addDish 34 = .ok (.iload 5, 2) := by decide +kernel
theorem dX8_addDish_36 : decode cX8_addDish 36 = .ok (.invokestatic 68, 3) := by decide +kernel
theorem dX8_addDish_39 : decode cX8_addDish 39 = .ok (.ifCond .eq 12, 3) := by decide +kernel
theorem dX8_addDish_42 : decode cX8_addDish 42 = .ok (.iconst 5, 1) := by decide +kernel
theorem dX8_addDish_43 : decode cX8_addDish 43 = .ok (.iload 6, 2) := by decide +kernel
theorem dX8_addDish_45 : decode cX8_addDish 45 = .ok (.invokestatic 68, 3) := by decide +kernel
theorem dX8_addDish_48 : decode cX8_addDish 48 = .ok (.ifCond .ne 5, 3) := by decide +kernel
theorem dX8_addDish_51 : decode cX8_addDish 51 = .ok (.iconst (-1), 1) := by decide +kernel
theorem dX8_addDish_52 : decode cX8_addDish 52 = .ok (.ireturn, 1) := by decide +kernel
theorem dX8_addDish_53 : decode cX8_addDish 53 = .ok (.aload_n 0, 1) := by decide +kernel
theorem dX8_addDish_54 : decode cX8_addDish 54 = .ok (.getfield 10, 3) := by decide +kernel
theorem dX8_addDish_57 : decode cX8_addDish 57 = .ok (.getfield 72, 3) := by decide +kernel
theorem dX8_addDish_60 : decode cX8_addDish 60 = .ok (.invokevirtual 75, 3) := by decide +kernel
theorem dX8_addDish_63 : decode cX8_addDish 63 = .ok (.ifCond .eq 6, 3) := by decide +kernel
theorem dX8_addDish_66 : decode cX8_addDish 66 = .ok (.bipush (-3), 2) := by decide +kernel
theorem dX8_addDish_68 : decode cX8_addDish 68 = .ok (.ireturn, 1) := by decide +kernel
theorem dX8_addDish_69 : decode cX8_addDish 69 = .ok (.aload_n 0, 1) := by decide +kernel
theorem dX8_addDish_70 : decode cX8_addDish 70 = .ok (.getfield 19, 3) := by decide +kernel
theorem dX8_addDish_73 : decode cX8_addDish 73 = .ok (.aload_n 0, 1) := by decide +kernel
theorem dX8_addDish_74 : decode cX8_addDish 74 = .ok (.getfield 10, 3) := by decide +kernel
theorem dX8_addDish_77 : decode cX8_addDish 77 = .ok (.invokevirtual 79, 3) := by decide +kernel
theorem dX8_addDish_80 : decode cX8_addDish 80 = .ok (.aload_n 0, 1) := by decide +kernel
theorem dX8_addDish_81 : decode cX8_addDish 81 = .ok (.getfield 10, 3) := by decide +kernel
theorem dX8_addDish_84 : decode cX8_addDish 84 = .ok (.getfield 72, 3) := by decide +kernel
theorem dX8_addDish_87 : decode cX8_addDish 87 = .ok (.invokevirtual 83, 3) := by decide +kernel
theorem dX8_addDish_90 : decode cX8_addDish 90 = .ok (.istore 7, 2) := by decide +kernel
theorem dX8_addDish_92 : decode cX8_addDish 92 = .ok (.aload_n 0, 1) := by decide +kernel
theorem dX8_addDish_93 : decode cX8_addDish 93 = .ok (.getfield 10, 3) := by decide +kernel
theorem dX8_addDish_96 : decode cX8_addDish 96 = .ok (.getfield 72, 3) := by decide +kernel
theorem dX8_addDish_99 : decode cX8_addDish 99 = .ok (.iload 7, 2) := by decide +kernel
theorem dX8_addDish_101 : decode cX8_addDish 101 = .ok (.iconst 0, 1) := by decide +kernel
theorem dX8_addDish_102 : decode cX8_addDish 102 = .ok (.iload_n 1, 1) := by decide +kernel
theorem dX8_addDish_103 : decode cX8_addDish 103 = .ok (.invokevirtual 87, 3) := by decide +kernel
theorem dX8_addDish_106 : decode cX8_addDish 106 = .ok (.aload_n 0, 1) := by decide +kernel
theorem dX8_addDish_107 : decode cX8_addDish 107 = .ok (.getfield 10, 3) := by decide +kernel
theorem dX8_addDish_110 : decode cX8_addDish 110 = .ok (.getfield 72, 3) := by decide +kernel
theorem dX8_addDish_113 : decode cX8_addDish 113 = .ok (.iload 7, 2) := by decide +kernel
theorem dX8_addDish_115 : decode cX8_addDish 115 = .ok (.iconst 1, 1) := by decide +kernel
theorem dX8_addDish_116 : decode cX8_addDish 116 = .ok (.iload_n 2, 1) := by decide +kernel
theorem dX8_addDish_117 : decode cX8_addDish 117 = .ok (.invokevirtual 87, 3) := by decide +kernel
theorem dX8_addDish_120 : decode cX8_addDish 120 = .ok (.aload_n 0, 1) := by decide +kernel
theorem dX8_addDish_121 : decode cX8_addDish 121 = .ok (.getfield 10, 3) := by decide +kernel
theorem dX8_addDish_124 : decode cX8_addDish 124 = .ok (.getfield 72, 3) := by decide +kernel
theorem dX8_addDish_127 : decode cX8_addDish 127 = .ok (.iload 7, 2) := by decide +kernel
theorem dX8_addDish_129 : decode cX8_addDish 129 = .ok (.iconst 2, 1) := by decide +kernel
theorem dX8_addDish_130 : decode cX8_addDish 130 = .ok (.iload_n 3, 1) := by decide +kernel
theorem dX8_addDish_131 : decode cX8_addDish 131 = .ok (.invokevirtual 87, 3) := by decide +kernel
theorem dX8_addDish_134 : decode cX8_addDish 134 = .ok (.aload_n 0, 1) := by decide +kernel
theorem dX8_addDish_135 : decode cX8_addDish 135 = .ok (.getfield 10, 3) := by decide +kernel
theorem dX8_addDish_138 : decode cX8_addDish 138 = .ok (.getfield 72, 3) := by decide +kernel
theorem dX8_addDish_141 : decode cX8_addDish 141 = .ok (.iload 7, 2) := by decide +kernel
theorem dX8_addDish_143 : decode cX8_addDish 143 = .ok (.iconst 3, 1) := by decide +kernel
theorem dX8_addDish_144 : decode cX8_addDish 144 = .ok (.iload 4, 2) := by decide +kernel
theorem dX8_addDish_146 : decode cX8_addDish 146 = .ok (.invokevirtual 87, 3) := by decide +kernel
theorem dX8_addDish_149 : decode cX8_addDish 149 = .ok (.aload_n 0, 1) := by decide +kernel
theorem dX8_addDish_150 : decode cX8_addDish 150 = .ok (.getfield 10, 3) := by decide +kernel
theorem dX8_addDish_153 : decode cX8_addDish 153 = .ok (.getfield 72, 3) := by decide +kernel
theorem dX8_addDish_156 : decode cX8_addDish 156 = .ok (.iload 7, 2) := by decide +kernel
theorem dX8_addDish_158 : decode cX8_addDish 158 = .ok (.iconst 4, 1) := by decide +kernel
theorem dX8_addDish_159 : decode cX8_addDish 159 = .ok (.iload 5, 2) := by decide +kernel
theorem dX8_addDish_161 : decode cX8_addDish 161 = .ok (.invokevirtual 87, 3) := by decide +kernel
theorem dX8_addDish_164 : decode cX8_addDish 164 = .ok (.aload_n 0, 1) := by decide +kernel
theorem dX8_addDish_165 : decode cX8_addDish 165 = .ok (.getfield 10, 3) := by decide +kernel
theorem dX8_addDish_168 : decode cX8_addDish 168 = .ok (.getfield 72, 3) := by decide +kernel
theorem dX8_addDish_171 : decode cX8_addDish 171 = .ok (.iload 7, 2) := by decide +kernel
theorem dX8_addDish_173 : decode cX8_addDish 173 = .ok (.iconst 5, 1) := by decide +kernel
theorem dX8_addDish_174 : decode cX8_addDish 174 = .ok (.iload 6, 2) := by decide +kernel
theorem dX8_addDish_176 : decode cX8_addDish 176 = .ok (.invokevirtual 87, 3) := by decide +kernel
theorem dX8_addDish_179 : decode cX8_addDish 179 = .ok (.iload 7, 2) := by decide +kernel
theorem dX8_addDish_181 : decode cX8_addDish 181 = .ok (.ireturn, 1) := by decide +kernel
set_option maxRecDepth 20000 in
theorem ggX8_removeDish_X3_hasDish : GoodIn wsX8_removeDish wsX3_hasDish := goodIn_r _ [7, 8, 9, 10, 11, 63, 64, 65, 66] (by decide +kernel) (by decide +kernel)
set_option maxRecDepth 20000 in
theorem gX8_removeDish_X3_hasDish : GoodIn wsX8_removeDish (wsV RX8 91 RX3 yX3_hasDish wsX3_hasDish) := goodIn_app (goodIn_of _ (by decide +kernel)) ggX8_removeDish_X3_hasDish
set_option maxRecDepth 20000 in
theorem ggX8_removeDish_X2_record : GoodIn wsX8_removeDish wsX2_record := goodIn_r _ [16, 17, 18, 19, 20, 21, 15, 22, 23, 24, 25, 26, 27, 28, 29, 30, 31, 32, 33, 6, 34, 35, 36, 37, 38, 39, 40, 8, 41, 67, 68, 60, 61, 62, 63, 64, 65, 66] (by decide +kernel) (by decide +kernel)
set_option maxRecDepth 20000 in
theorem gX8_removeDish_X2_record : GoodIn wsX8_removeDish (wsV RX8 79 RX2 yX2_record wsX2_record) := goodIn_app (goodIn_of _ (by decide +kernel)) ggX8_removeDish_X2_record
set_option maxRecDepth 20000 in
theorem ggX8_removeDish_X3_drop : GoodIn wsX8_removeDish wsX3_drop := goodIn_r _ [45, 35, 8, 36, 37, 38, 39, 46, 4, 5, 6, 7, 9, 10, 11, 63, 64, 65, 66] (by decide +kernel) (by decide +kernel)
set_option maxRecDepth 20000 in
theorem gX8_removeDish_X3_drop : GoodIn wsX8_removeDish (wsV RX8 95 RX3 yX3_drop wsX3_drop) := goodIn_app (goodIn_of _ (by decide +kernel)) ggX8_removeDish_X3_drop
set_option maxRecDepth 20000 in
theorem ggX8_removeDish_X3_size : GoodIn wsX8_removeDish wsX3_size := goodIn_r _ [50, 8, 63, 64, 65, 66] (by decide +kernel) (by decide +kernel)
set_option maxRecDepth 20000 in
theorem gX8_removeDish_X3_size : GoodIn wsX8_removeDish (wsV RX8 99 RX3 yX3_size wsX3_size) := goodIn_app (goodIn_of _ (by decide +kernel)) ggX8_removeDish_X3_size
theorem dX8_removeDish_0 : decode cX8_removeDish 0 = .ok (.aload_n 0, 1) := by decide +kernel
theorem dX8_removeDish_1 : decode cX8_removeDish 1 = .ok (.getfield 10, 3) := by decide +kernel
theorem dX8_removeDish_4 : decode cX8_removeDish 4 = .ok (.getfield 72, 3) := by decide +kernel
theorem dX8_removeDish_7 : decode cX8_removeDish 7 = .ok (.iload_n 1, 1) := by decide +kernel
theorem dX8_removeDish_8 : decode cX8_removeDish 8 = .ok (.invokevirtual 91, 3) := by decide +kernel
theorem dX8_removeDish_11 : decode cX8_removeDish 11 = .ok (.ifCond .ne 5, 3) := by decide +kernel
theorem dX8_removeDish_14 : decode cX8_removeDish 14 = .ok (.iconst (-1), 1) := by decide +kernel
theorem dX8_removeDish_15 : decode cX8_removeDish 15 = .ok (.ireturn, 1) := by decide +kernel
theorem dX8_removeDish_16 : decode cX8_removeDish 16 = .ok (.aload_n 0, 1) := by decide +kernel
theorem dX8_removeDish_17 : decode cX8_removeDish 17 = .ok (.getfield 19, 3) := by decide +kernel
theorem dX8_removeDish_20 : decode cX8_removeDish 20 = .ok (.aload_n 0, 1) := by decide +kernel
theorem dX8_removeDish_21 : decode cX8_removeDish 21 = .ok (.getfield 10, 3) := by decide +kernel
theorem dX8_removeDish_24 : decode cX8_removeDish 24 = .ok (.invokevirtual 79, 3) := by decide +kernel
theorem dX8_removeDish_27 : decode cX8_removeDish 27 = .ok (.aload_n 0, 1) := by decide +kernel
theorem dX8_removeDish_28 : decode cX8_removeDish 28 = .ok (.getfield 10, 3) := by decide +kernel
theorem dX8_removeDish_31 : decode cX8_removeDish 31 = .ok (.getfield 72, 3) := by decide +kernel
theorem dX8_removeDish_34 : decode cX8_removeDish 34 = .ok (.iload_n 1, 1) := by decide +kernel
theorem dX8_removeDish_35 : decode cX8_removeDish 35 = .ok (.invokevirtual 95, 3) := by decide +kernel
theorem dX8_removeDish_38 : decode cX8_removeDish 38 = .ok (.aload_n 0, 1) := by decide +kernel
theorem dX8_removeDish_39 : decode cX8_removeDish 39 = .ok (.getfield 10, 3) := by decide +kernel
theorem dX8_removeDish_42 : decode cX8_removeDish 42 = .ok (.getfield 72, 3) := by decide +kernel
theorem dX8_removeDish_45 : decode cX8_removeDish 45 = .ok (.invokevirtual 99, 3) := by decide +kernel
theorem dX8_removeDish_48 : decode cX8_removeDish 48 = .ok (.ireturn, 1) := by decide +kernel
set_option maxRecDepth 20000 in
theorem ggX8_setDish_X3_hasDish : GoodIn wsX8_setDish wsX3_hasDish := goodIn_r _ [7, 8, 9, 10, 11, 69, 70, 71, 72] (by decide +kernel) (by decide +kernel)
set_option maxRecDepth 20000 in
theorem gX8_setDish_X3_hasDish : GoodIn wsX8_setDish (wsV RX8 91 RX3 yX3_hasDish wsX3_hasDish) := goodIn_app (goodIn_of _ (by decide +kernel)) ggX8_setDish_X3_hasDish
set_option maxRecDepth 20000 in
theorem ggX8_setDish_X8_isDishValue : GoodIn wsX8_setDish wsX8_isDishValue := goodIn_r _ [14, 15, 16, 17, 9, 10, 11] (by decide +kernel) (by decide +kernel)
set_option maxRecDepth 20000 in
theorem gX8_setDish_X8_isDishValue : GoodIn wsX8_setDish (va_wsS RX8 68 yX8_isDishValue wsX8_isDishValue) := goodIn_app (goodIn_of _ (by decide +kernel)) ggX8_setDish_X8_isDishValue
set_option maxRecDepth 20000 in
theorem ggX8_setDish_X2_record : GoodIn wsX8_setDish wsX2_record := goodIn_r _ [22, 23, 24, 25, 26, 27, 21, 28, 29, 30, 31, 32, 33, 34, 35, 36, 37, 38, 39, 6, 40, 41, 42, 43, 44, 45, 46, 8, 47, 73, 74, 66, 67, 68, 69, 70, 71, 72] (by decide +kernel) (by decide +kernel)
set_option maxRecDepth 20000 in
theorem gX8_setDish_X2_record : GoodIn wsX8_setDish (wsV RX8 79 RX2 yX2_record wsX2_record) := goodIn_app (goodIn_of _ (by decide +kernel)) ggX8_setDish_X2_record
set_option maxRecDepth 20000 in
theorem ggX8_setDish_X3_valueOf : GoodIn wsX8_setDish wsX3_valueOf := goodIn_r _ [51, 41, 69, 70, 71, 72] (by decide +kernel) (by decide +kernel)
set_option maxRecDepth 20000 in
theorem gX8_setDish_X3_valueOf : GoodIn wsX8_setDish (wsV RX8 102 RX3 yX3_valueOf wsX3_valueOf) := goodIn_app (goodIn_of _ (by decide +kernel)) ggX8_setDish_X3_valueOf
set_option maxRecDepth 20000 in
theorem ggX8_setDish_X3_change : GoodIn wsX8_setDish wsX3_change := goodIn_r _ [55, 41, 56, 4, 5, 6, 7, 8, 9, 10, 11, 13, 14, 15, 16, 17, 69, 70, 71, 72] (by decide +kernel) (by decide +kernel)
set_option maxRecDepth 20000 in
theorem gX8_setDish_X3_change : GoodIn wsX8_setDish (wsV RX8 87 RX3 yX3_change wsX3_change) := goodIn_app (goodIn_of _ (by decide +kernel)) ggX8_setDish_X3_change
theorem dX8_setDish_0 : decode cX8_setDish 0 = .ok (.aload_n 0, 1) := by decide +kernel
theorem dX8_setDish_1 : decode cX8_setDish 1 = .ok (.getfield 10, 3) := by decide +kernel
theorem dX8_setDish_4 : decode cX8_setDish 4 = .ok (.getfield 72, 3) := by decide +kernel
theorem dX8_setDish_7 : decode cX8_setDish 7 = .ok (.iload_n 1, 1) := by decide +kernel
theorem dX8_setDish_8 : decode cX8_setDish 8 = .ok (.invokevirtual 91, 3) := by decide +kernel
theorem dX8_setDish_11 : decode cX8_setDish 11 = .ok (.ifCond .eq 11, 3) := by decide +kernel
theorem dX8_setDish_14 : decode cX8_setDish 14 = .ok (.iload_n 2, 1) := by decide +kernel
theorem dX8_setDish_15 : decode cX8_setDish 15 = .ok (.iload_n 3, 1) := by decide +kernel
theorem dX8_setDish_16 : decode cX8_setDish 16 = .ok (.invokestatic 68, 3) := by decide +kernel
theorem dX8_setDish_19 : decode cX8_setDish 19 = .ok (.ifCond .ne 5, 3) := by decide +kernel
theorem dX8_setDish_22 : decode cX8_setDish 22 = .ok (.iconst (-1), 1) := by decide +kernel
theorem dX8_setDish_23 : decode cX8_setDish 23 = .ok (.ireturn, 1) := by decide +kernel
theorem dX8_setDish_24 : decode cX8_setDish 24 = .ok (.aload_n 0, 1) := by decide +kernel
theorem dX8_setDish_25 : decode cX8_setDish 25 = .ok (.getfield 19, 3) := by decide +kernel
theorem dX8_setDish_28 : decode cX8_setDish 28 = .ok (.aload_n 0, 1) := by decide +kernel
theorem dX8_setDish_29 : decode cX8_setDish 29 = .ok (.getfield 10, 3) := by decide +kernel
theorem dX8_setDish_32 : decode cX8_setDish 32 = .ok (.invokevirtual 79, 3) := by decide +kernel
theorem dX8_setDish_35 : decode cX8_setDish 35 = .ok (.aload_n 0, 1) := by decide +kernel
theorem dX8_setDish_36 : decode cX8_setDish 36 = .ok (.getfield 10, 3) := by decide +kernel
theorem dX8_setDish_39 : decode cX8_setDish 39 = .ok (.getfield 72, 3) := by decide +kernel
theorem dX8_setDish_42 : decode cX8_setDish 42 = .ok (.iload_n 1, 1) := by decide +kernel
theorem dX8_setDish_43 : decode cX8_setDish 43 = .ok (.iload_n 2, 1) := by decide +kernel
theorem dX8_setDish_44 : decode cX8_setDish 44 = .ok (.invokevirtual 102, 3) := by decide +kernel
theorem dX8_setDish_47 : decode cX8_setDish 47 = .ok (.istore 4, 2) := by decide +kernel
theorem dX8_setDish_49 : decode cX8_setDish 49 = .ok (.aload_n 0, 1) := by decide +kernel
theorem dX8_setDish_50 : decode cX8_setDish 50 = .ok (.getfield 10, 3) := by decide +kernel
theorem dX8_setDish_53 : decode cX8_setDish 53 = .ok (.getfield 72, 3) := by decide +kernel
theorem dX8_setDish_56 : decode cX8_setDish 56 = .ok (.iload_n 1, 1) := by decide +kernel
theorem dX8_setDish_57 : decode cX8_setDish 57 = .ok (.iload_n 2, 1) := by decide +kernel
theorem dX8_setDish_58 : decode cX8_setDish 58 = .ok (.iload_n 3, 1) := by decide +kernel
theorem dX8_setDish_59 : decode cX8_setDish 59 = .ok (.invokevirtual 87, 3) := by decide +kernel
theorem dX8_setDish_62 : decode cX8_setDish 62 = .ok (.iload 4, 2) := by decide +kernel
theorem dX8_setDish_64 : decode cX8_setDish 64 = .ok (.ireturn, 1) := by decide +kernel
set_option maxRecDepth 20000 in
theorem ggX8_setCard_X8_isCardValue : GoodIn wsX8_setCard wsX8_isCardValue := goodIn_r _ [6, 7, 8, 9, 10, 5, 11] (by decide +kernel) (by decide +kernel)
set_option maxRecDepth 20000 in
theorem gX8_setCard_X8_isCardValue : GoodIn wsX8_setCard (va_wsS RX8 106 yX8_isCardValue wsX8_isCardValue) := goodIn_app (goodIn_of _ (by decide +kernel)) ggX8_setCard_X8_isCardValue
set_option maxRecDepth 20000 in
theorem ggX8_setCard_X2_record : GoodIn wsX8_setCard wsX2_record := goodIn_r _ [16, 17, 18, 19, 20, 21, 15, 22, 23, 24, 25, 26, 27, 28, 29, 30, 31, 32, 33, 34, 35, 36, 37, 38, 39, 40, 41, 42, 43, 64, 65, 61, 62, 63, 66, 67, 68, 69] (by decide +kernel) (by decide +kernel)
set_option maxRecDepth 20000 in
theorem gX8_setCard_X2_record : GoodIn wsX8_setCard (wsV RX8 79 RX2 yX2_record wsX2_record) := goodIn_app (goodIn_of _ (by decide +kernel)) ggX8_setCard_X2_record
set_option maxRecDepth 20000 in
theorem ggX8_setCard_X3_setting : GoodIn wsX8_setCard wsX3_setting := goodIn_r _ [47, 41, 66, 67, 68, 69] (by decide +kernel) (by decide +kernel)
set_option maxRecDepth 20000 in
theorem gX8_setCard_X3_setting : GoodIn wsX8_setCard (wsV RX8 109 RX3 yX3_setting wsX3_setting) := goodIn_app (goodIn_of _ (by decide +kernel)) ggX8_setCard_X3_setting
set_option maxRecDepth 20000 in
theorem ggX8_setCard_X3_changeSetting : GoodIn wsX8_setCard wsX3_changeSetting := goodIn_r _ [51, 41, 4, 5, 6, 7, 8, 9, 10, 11, 66, 67, 68, 69] (by decide +kernel) (by decide +kernel)
set_option maxRecDepth 20000 in
theorem gX8_setCard_X3_changeSetting : GoodIn wsX8_setCard (wsV RX8 113 RX3 yX3_changeSetting wsX3_changeSetting) := goodIn_app (goodIn_of _ (by decide +kernel)) ggX8_setCard_X3_changeSetting
theorem dX8_setCard_0 : decode cX8_setCard 0 = .ok (.iload_n 1, 1) := by decide +kernel
theorem dX8_setCard_1 : decode cX8_setCard 1 = .ok (.iload_n 2, 1) := by decide +kernel
theorem dX8_setCard_2 : decode cX8_setCard 2 = .ok (.invokestatic 106, 3) := by decide +kernel
theorem dX8_setCard_5 : decode cX8_setCard 5 = .ok (.ifCond .ne 5, 3) := by decide +kernel
theorem dX8_setCard_8 : decode cX8_setCard 8 = .ok (.iconst (-1), 1) := by decide +kernel
theorem dX8_setCard_9 : decode cX8_setCard 9 = .ok (.ireturn, 1) := by decide +kernel
theorem dX8_setCard_10 : decode cX8_setCard 10 = .ok (.aload_n 0, 1) := by decide +kernel
theorem dX8_setCard_11 : decode cX8_setCard 11 = .ok (.getfield 19, 3) := by decide +kernel
theorem dX8_setCard_14 : decode cX8_setCard 14 = .ok (.aload_n 0, 1) := by decide +kernel
theorem dX8_setCard_15 : decode cX8_setCard 15 = .ok (.getfield 10, 3) := by decide +kernel
theorem dX8_setCard_18 : decode cX8_setCard 18 = .ok (.invokevirtual 79, 3) := by decide +kernel
theorem dX8_setCard_21 : decode cX8_setCard 21 = .ok (.aload_n 0, 1) := by decide +kernel
theorem dX8_setCard_22 : decode cX8_setCard 22 = .ok (.getfield 10, 3) := by decide +kernel
theorem dX8_setCard_25 : decode cX8_setCard 25 = .ok (.getfield 72, 3) := by decide +kernel
theorem dX8_setCard_28 : decode cX8_setCard 28 = .ok (.iload_n 1, 1) := by decide +kernel
theorem dX8_setCard_29 : decode cX8_setCard 29 = .ok (.invokevirtual 109, 3) := by decide +kernel
theorem dX8_setCard_32 : decode cX8_setCard 32 = .ok (.istore_n 3, 1) := by decide +kernel
theorem dX8_setCard_33 : decode cX8_setCard 33 = .ok (.aload_n 0, 1) := by decide +kernel
theorem dX8_setCard_34 : decode cX8_setCard 34 = .ok (.getfield 10, 3) := by decide +kernel
theorem dX8_setCard_37 : decode cX8_setCard 37 = .ok (.getfield 72, 3) := by decide +kernel
theorem dX8_setCard_40 : decode cX8_setCard 40 = .ok (.iload_n 1, 1) := by decide +kernel
theorem dX8_setCard_41 : decode cX8_setCard 41 = .ok (.iload_n 2, 1) := by decide +kernel
theorem dX8_setCard_42 : decode cX8_setCard 42 = .ok (.invokevirtual 113, 3) := by decide +kernel
theorem dX8_setCard_45 : decode cX8_setCard 45 = .ok (.iload_n 3, 1) := by decide +kernel
theorem dX8_setCard_46 : decode cX8_setCard 46 = .ok (.ireturn, 1) := by decide +kernel
set_option maxRecDepth 20000 in
theorem ggX8_setSide_X8_inRange : GoodIn wsX8_setSide wsX8_inRange := goodIn_r _ [6] (by decide +kernel) (by decide +kernel)
set_option maxRecDepth 20000 in
theorem gX8_setSide_X8_inRange : GoodIn wsX8_setSide (va_wsS RX8 117 yX8_inRange wsX8_inRange) := goodIn_app (goodIn_of _ (by decide +kernel)) ggX8_setSide_X8_inRange
set_option maxRecDepth 20000 in
theorem ggX8_setSide_X8_isSide : GoodIn wsX8_setSide wsX8_isSide := goodIn_r _ [9, 3, 4, 5, 6] (by decide +kernel) (by decide +kernel)
set_option maxRecDepth 20000 in
theorem gX8_setSide_X8_isSide : GoodIn wsX8_setSide (va_wsS RX8 121 yX8_isSide wsX8_isSide) := goodIn_app (goodIn_of _ (by decide +kernel)) ggX8_setSide_X8_isSide
set_option maxRecDepth 20000 in
theorem ggX8_setSide_X2_record : GoodIn wsX8_setSide wsX2_record := goodIn_r _ [14, 15, 16, 17, 18, 19, 13, 20, 21, 22, 23, 24, 25, 26, 27, 28, 29, 30, 31, 32, 33, 34, 35, 36, 37, 38, 39, 40, 41, 65, 66, 58, 59, 60, 61, 62, 63, 64] (by decide +kernel) (by decide +kernel)
set_option maxRecDepth 20000 in
theorem gX8_setSide_X2_record : GoodIn wsX8_setSide (wsV RX8 79 RX2 yX2_record wsX2_record) := goodIn_app (goodIn_of _ (by decide +kernel)) ggX8_setSide_X2_record
set_option maxRecDepth 20000 in
theorem ggX8_setSide_X8_sideIn : GoodIn wsX8_setSide wsX8_sideIn := goodIn_r _ [44] (by decide +kernel) (by decide +kernel)
set_option maxRecDepth 20000 in
theorem gX8_setSide_X8_sideIn : GoodIn wsX8_setSide (va_wsS RX8 128 yX8_sideIn wsX8_sideIn) := goodIn_app (goodIn_of _ (by decide +kernel)) ggX8_setSide_X8_sideIn
set_option maxRecDepth 20000 in
theorem ggX8_setSide_X3_putCourse : GoodIn wsX8_setSide wsX3_putCourse := goodIn_r _ [48, 41, 61, 62, 63, 64] (by decide +kernel) (by decide +kernel)
set_option maxRecDepth 20000 in
theorem gX8_setSide_X3_putCourse : GoodIn wsX8_setSide (wsV RX8 131 RX3 yX3_putCourse wsX3_putCourse) := goodIn_app (goodIn_of _ (by decide +kernel)) ggX8_setSide_X3_putCourse
theorem dX8_setSide_0 : decode cX8_setSide 0 = .ok (.iload_n 1, 1) := by decide +kernel
theorem dX8_setSide_1 : decode cX8_setSide 1 = .ok (.iconst 0, 1) := by decide +kernel
theorem dX8_setSide_2 : decode cX8_setSide 2 = .ok (.iconst 3, 1) := by decide +kernel
theorem dX8_setSide_3 : decode cX8_setSide 3 = .ok (.invokestatic 117, 3) := by decide +kernel
theorem dX8_setSide_6 : decode cX8_setSide 6 = .ok (.ifCond .eq 10, 3) := by decide +kernel
theorem dX8_setSide_9 : decode cX8_setSide 9 = .ok (.iload_n 2, 1) := by decide +kernel
theorem dX8_setSide_10 : decode cX8_setSide 10 = .ok (.invokestatic 121, 3) := by decide +kernel
theorem dX8_setSide_13 : decode cX8_setSide 13 = .ok (.ifCond .ne 5, 3) := by decide +kernel
theorem dX8_setSide_16 : decode cX8_setSide 16 = .ok (.iconst (-1), 1) := by decide +kernel
theorem dX8_setSide_17 : decode cX8_setSide 17 = .ok (.ireturn, 1) := by decide +kernel
theorem dX8_setSide_18 : decode cX8_setSide 18 = .ok (.aload_n 0, 1) := by decide +kernel
theorem dX8_setSide_19 : decode cX8_setSide 19 = .ok (.getfield 19, 3) := by decide +kernel
theorem dX8_setSide_22 : decode cX8_setSide 22 = .ok (.aload_n 0, 1) := by decide +kernel
theorem dX8_setSide_23 : decode cX8_setSide 23 = .ok (.getfield 10, 3) := by decide +kernel
theorem dX8_setSide_26 : decode cX8_setSide 26 = .ok (.invokevirtual 79, 3) := by decide +kernel
theorem dX8_setSide_29 : decode cX8_setSide 29 = .ok (.aload_n 0, 1) := by decide +kernel
theorem dX8_setSide_30 : decode cX8_setSide 30 = .ok (.getfield 10, 3) := by decide +kernel
theorem dX8_setSide_33 : decode cX8_setSide 33 = .ok (.getfield 72, 3) := by decide +kernel
theorem dX8_setSide_36 : decode cX8_setSide 36 = .ok (.getfield 124, 3) := by decide +kernel
theorem dX8_setSide_39 : decode cX8_setSide 39 = .ok (.iload_n 1, 1) := by decide +kernel
theorem dX8_setSide_40 : decode cX8_setSide 40 = .ok (.invokestatic 128, 3) := by decide +kernel
theorem dX8_setSide_43 : decode cX8_setSide 43 = .ok (.istore_n 3, 1) := by decide +kernel
theorem dX8_setSide_44 : decode cX8_setSide 44 = .ok (.aload_n 0, 1) := by decide +kernel
theorem dX8_setSide_45 : decode cX8_setSide 45 = .ok (.getfield 10, 3) := by decide +kernel
theorem dX8_setSide_48 : decode cX8_setSide 48 = .ok (.getfield 72, 3) := by decide +kernel
theorem dX8_setSide_51 : decode cX8_setSide 51 = .ok (.iload_n 1, 1) := by decide +kernel
theorem dX8_setSide_52 : decode cX8_setSide 52 = .ok (.iload_n 2, 1) := by decide +kernel
theorem dX8_setSide_53 : decode cX8_setSide 53 = .ok (.invokevirtual 131, 3) := by decide +kernel
theorem dX8_setSide_56 : decode cX8_setSide 56 = .ok (.iload_n 3, 1) := by decide +kernel
theorem dX8_setSide_57 : decode cX8_setSide 57 = .ok (.ireturn, 1) := by decide +kernel
set_option maxRecDepth 20000 in
theorem ggX8_arrange_X2_record : GoodIn wsX8_arrange wsX2_record := goodIn_r _ [8, 9, 10, 11, 12, 13, 7, 14, 15, 16, 17, 18, 19, 20, 21, 22, 23, 24, 25, 26, 27, 28, 29, 30, 31, 32, 33, 34, 35, 199, 200, 192, 193, 194, 195, 196, 197, 198] (by decide +kernel) (by decide +kernel)
set_option maxRecDepth 20000 in
theorem gX8_arrange_X2_record : GoodIn wsX8_arrange (wsV RX8 79 RX2 yX2_record wsX2_record) := goodIn_app (goodIn_of _ (by decide +kernel)) ggX8_arrange_X2_record
set_option maxRecDepth 20000 in
theorem ggX8_arrange_X8_findPrinted : GoodIn wsX8_arrange wsX8_findPrinted := goodIn_r _ [40, 41, 42, 43, 44, 26, 45, 33, 46, 47, 48, 49, 50, 51, 52, 53, 54, 55, 56, 57, 58, 59, 60, 61, 62, 63, 64, 65, 66, 67, 68, 69, 70, 34, 71, 72, 73, 74, 28, 75, 76, 77, 78, 79, 80, 81, 82, 83, 84, 85, 86, 87, 88, 39, 89, 90, 91, 92, 93, 94, 95, 96, 97, 98, 99, 100, 101, 102, 103, 104, 105, 106, 107, 108, 109, 110, 111, 112, 113, 114, 115, 116, 117, 118, 183, 184, 185, 186, 187, 188, 189, 190, 191, 195, 196, 197, 198, 201, 202, 203, 204, 205, 206, 207, 208] (by decide +kernel) (by decide +kernel)
set_option maxRecDepth 20000 in
theorem gX8_arrange_X8_findPrinted : GoodIn wsX8_arrange (wsV RX8 134 RX8 yX8_findPrinted wsX8_findPrinted) := goodIn_app (goodIn_of _ (by decide +kernel)) ggX8_arrange_X8_findPrinted
set_option maxRecDepth 20000 in
theorem ggX8_arrange_X8_foldBestWay : GoodIn wsX8_arrange wsX8_foldBestWay := goodIn_r _ [122, 3, 41, 2, 123, 124, 125, 126, 127, 128, 129, 130, 58, 131, 132, 133, 134, 135, 136, 137, 138, 139, 140, 141, 39, 142, 143, 43, 44, 26, 45, 33, 144, 145, 146, 147, 148, 110, 111, 112, 113, 114, 115, 149, 150, 151, 152, 153, 154, 155, 156, 157, 158, 159, 160, 117, 118, 161, 162, 163, 164, 165, 166, 167, 168, 169, 170, 171, 172, 173, 174, 175, 176, 177, 178, 179, 180, 181, 57, 59, 183, 184, 185, 186, 187, 188, 189, 190, 191, 192, 193, 194, 201, 202, 203, 204, 205, 206, 207, 208, 209, 210, 211, 212, 213, 195, 196, 197, 198] (by decide +kernel) (by decide +kernel)
set_option maxRecDepth 20000 in
theorem gX8_arrange_X8_foldBestWay : GoodIn wsX8_arrange (wsV RX8 138 RX8 yX8_foldBestWay wsX8_foldBestWay) := goodIn_app (goodIn_of _ (by decide +kernel)) ggX8_arrange_X8_foldBestWay
set_option maxRecDepth 20000 in
theorem ggX8_arrange_X1_difference : GoodIn wsX8_arrange wsX1_difference := goodIn_r _ [176, 138, 129, 130, 58, 131, 209, 210, 211, 212, 213] (by decide +kernel) (by decide +kernel)
set_option maxRecDepth 20000 in
theorem gX8_arrange_X1_difference : GoodIn wsX8_arrange (wsV RX8 141 RX1 yX1_difference wsX1_difference) := goodIn_app (goodIn_of _ (by decide +kernel)) ggX8_arrange_X1_difference
theorem dX8_arrange_0 : decode cX8_arrange 0 = .ok (.aload_n 0, 1) := by decide +kernel
theorem dX8_arrange_1 : decode cX8_arrange 1 = .ok (.getfield 19, 3) := by decide +kernel
theorem dX8_arrange_4 : decode cX8_arrange 4 = .ok (.aload_n 0, 1) := by decide +kernel
theorem dX8_arrange_5 : decode cX8_arrange 5 = .ok (.getfield 10, 3) := by decide +kernel
theorem dX8_arrange_8 : decode cX8_arrange 8 = .ok (.invokevirtual 79, 3) := by decide +kernel
theorem dX8_arrange_11 : decode cX8_arrange 11 = .ok (.aload_n 0, 1) := by decide +kernel
theorem dX8_arrange_12 : decode cX8_arrange 12 = .ok (.aload_n 0, 1) := by decide +kernel
theorem dX8_arrange_13 : decode cX8_arrange 13 = .ok (.getfield 10, 3) := by decide +kernel
theorem dX8_arrange_16 : decode cX8_arrange 16 = .ok (.getfield 72, 3) := by decide +kernel
theorem dX8_arrange_19 : decode cX8_arrange 19 = .ok (.invokevirtual 134, 3) := by decide +kernel
theorem dX8_arrange_22 : decode cX8_arrange 22 = .ok (.aload_n 0, 1) := by decide +kernel
theorem dX8_arrange_23 : decode cX8_arrange 23 = .ok (.getfield 10, 3) := by decide +kernel
theorem dX8_arrange_26 : decode cX8_arrange 26 = .ok (.getfield 72, 3) := by decide +kernel
theorem dX8_arrange_29 : decode cX8_arrange 29 = .ok (.aload_n 0, 1) := by decide +kernel
theorem dX8_arrange_30 : decode cX8_arrange 30 = .ok (.invokevirtual 138, 3) := by decide +kernel
theorem dX8_arrange_33 : decode cX8_arrange 33 = .ok (.putfield 124, 3) := by decide +kernel
theorem dX8_arrange_36 : decode cX8_arrange 36 = .ok (.aload_n 0, 1) := by decide +kernel
theorem dX8_arrange_37 : decode cX8_arrange 37 = .ok (.getfield 47, 3) := by decide +kernel
theorem dX8_arrange_40 : decode cX8_arrange 40 = .ok (.invokevirtual 141, 3) := by decide +kernel
theorem dX8_arrange_43 : decode cX8_arrange 43 = .ok (.ireturn, 1) := by decide +kernel
set_option maxRecDepth 20000 in
theorem ggX8_choose_X8_areSetArguments : GoodIn wsX8_choose wsX8_areSetArguments := goodIn_r _ [7, 8, 9, 6, 10, 11, 12, 13] (by decide +kernel) (by decide +kernel)
set_option maxRecDepth 20000 in
theorem gX8_choose_X8_areSetArguments : GoodIn wsX8_choose (va_wsS RX8 144 yX8_areSetArguments wsX8_areSetArguments) := goodIn_app (goodIn_of _ (by decide +kernel)) ggX8_choose_X8_areSetArguments
set_option maxRecDepth 20000 in
theorem ggX8_choose_X6_find : GoodIn wsX8_choose wsX6_find := goodIn_r _ [18, 19, 20, 21, 22, 23, 24, 25, 26, 27, 28, 29, 30, 31, 17, 32, 33, 6, 34, 35, 36, 37, 38, 39, 40, 41, 42, 43, 44, 45, 46, 47, 48, 49, 50, 51, 52, 53, 54, 55, 56, 57, 58, 59, 60, 61, 62, 63, 64, 65, 66, 67, 68, 69, 70, 71, 72, 73, 74, 75, 76, 77, 78, 79, 80, 81, 82, 83, 84, 85, 86, 87, 88, 89, 90, 91, 92, 93, 94, 95, 96, 97, 98, 99, 100, 101, 102, 103, 104, 105, 106, 107, 108, 177, 178, 179, 180, 181, 182, 183, 184, 185] (by decide +kernel) (by decide +kernel)
set_option maxRecDepth 20000 in
theorem gX8_choose_X6_find : GoodIn wsX8_choose (wsV RX8 147 RX6 yX6_find wsX6_find) := goodIn_app (goodIn_of _ (by decide +kernel)) ggX8_choose_X6_find
set_option maxRecDepth 20000 in
theorem ggX8_choose_X6_hasFound : GoodIn wsX8_choose wsX6_hasFound := goodIn_r _ [112, 28, 177, 178, 179, 180, 181] (by decide +kernel) (by decide +kernel)
set_option maxRecDepth 20000 in
theorem gX8_choose_X6_hasFound : GoodIn wsX8_choose (wsV RX8 151 RX6 yX6_hasFound wsX6_hasFound) := goodIn_app (goodIn_of _ (by decide +kernel)) ggX8_choose_X6_hasFound
set_option maxRecDepth 20000 in
theorem ggX8_choose_X2_record : GoodIn wsX8_choose wsX2_record := goodIn_r _ [117, 118, 119, 120, 121, 122, 116, 123, 124, 125, 126, 127, 128, 129, 130, 131, 132, 133, 134, 42, 135, 54, 136, 137, 138, 139, 44, 49, 140, 186, 187, 174, 175, 176, 182, 183, 184, 185] (by decide +kernel) (by decide +kernel)
set_option maxRecDepth 20000 in
theorem gX8_choose_X2_record : GoodIn wsX8_choose (wsV RX8 79 RX2 yX2_record wsX2_record) := goodIn_app (goodIn_of _ (by decide +kernel)) ggX8_choose_X2_record
set_option maxRecDepth 20000 in
theorem ggX8_choose_X6_offerFound : GoodIn wsX8_choose wsX6_offerFound := goodIn_r _ [144, 19, 104, 145, 146, 147, 17, 148, 28, 149, 150, 151, 42, 152, 54, 153, 154, 155, 156, 49, 12, 6, 13, 157, 158, 159, 160, 11, 177, 178, 179, 180, 181, 182, 183, 184, 185] (by decide +kernel) (by decide +kernel)
set_option maxRecDepth 20000 in
theorem gX8_choose_X6_offerFound : GoodIn wsX8_choose (wsV RX8 154 RX6 yX6_offerFound wsX6_offerFound) := goodIn_app (goodIn_of _ (by decide +kernel)) ggX8_choose_X6_offerFound
set_option maxRecDepth 20000 in
theorem ggX8_choose_X6_prices : GoodIn wsX8_choose wsX6_prices := goodIn_r _ [164, 28, 177, 178, 179, 180, 181] (by decide +kernel) (by decide +kernel)
set_option maxRecDepth 20000 in
theorem gX8_choose_X6_prices : GoodIn wsX8_choose (wsV RX8 157 RX6 yX6_prices wsX6_prices) := goodIn_app (goodIn_of _ (by decide +kernel)) ggX8_choose_X6_prices
theorem dX8_choose_0 : decode cX8_choose 0 = .ok (.iload_n 1, 1) := by decide +kernel
theorem dX8_choose_1 : decode cX8_choose 1 = .ok (.iload_n 2, 1) := by decide +kernel
theorem dX8_choose_2 : decode cX8_choose 2 = .ok (.iload_n 3, 1) := by decide +kernel
theorem dX8_choose_3 : decode cX8_choose 3 = .ok (.invokestatic 144, 3) := by decide +kernel
theorem dX8_choose_6 : decode cX8_choose 6 = .ok (.ifCond .ne 5, 3) := by decide +kernel
theorem dX8_choose_9 : decode cX8_choose 9 = .ok (.iconst (-1), 1) := by decide +kernel
theorem dX8_choose_10 : decode cX8_choose 10 = .ok (.ireturn, 1) := by decide +kernel
theorem dX8_choose_11 : decode cX8_choose 11 = .ok (.aload_n 0, 1) := by decide +kernel
theorem dX8_choose_12 : decode cX8_choose 12 = .ok (.getfield 64, 3) := by decide +kernel
theorem dX8_choose_15 : decode cX8_choose 15 = .ok (.aload_n 0, 1) := by decide +kernel
theorem dX8_choose_16 : decode cX8_choose 16 = .ok (.getfield 10, 3) := by decide +kernel
theorem dX8_choose_19 : decode cX8_choose 19 = .ok (.getfield 72, 3) := by decide +kernel
theorem dX8_choose_22 : decode cX8_choose 22 = .ok (.iload_n 1, 1) := by decide +kernel
theorem dX8_choose_23 : decode cX8_choose 23 = .ok (.iload_n 2, 1) := by decide +kernel
theorem dX8_choose_24 : decode cX8_choose 24 = .ok (.iload_n 3, 1) := by decide +kernel
theorem dX8_choose_25 : decode cX8_choose 25 = .ok (.invokevirtual 147, 3) := by decide +kernel
theorem dX8_choose_28 : decode cX8_choose 28 = .ok (.aload_n 0, 1) := by decide +kernel
theorem dX8_choose_29 : decode cX8_choose 29 = .ok (.getfield 64, 3) := by decide +kernel
theorem dX8_choose_32 : decode cX8_choose 32 = .ok (.invokevirtual 151, 3) := by decide +kernel
theorem dX8_choose_35 : decode cX8_choose 35 = .ok (.ifCond .ne 6, 3) := by decide +kernel
theorem dX8_choose_38 : decode cX8_choose 38 = .ok (.bipush (-2), 2) := by decide +kernel
theorem dX8_choose_40 : decode cX8_choose 40 = .ok (.ireturn, 1) := by decide +kernel
theorem dX8_choose_41 : decode cX8_choose 41 = .ok (.aload_n 0, 1) := by decide +kernel
theorem dX8_choose_42 : decode cX8_choose 42 = .ok (.getfield 19, 3) := by decide +kernel
theorem dX8_choose_45 : decode cX8_choose 45 = .ok (.aload_n 0, 1) := by decide +kernel
theorem dX8_choose_46 : decode cX8_choose 46 = .ok (.getfield 10, 3) := by decide +kernel
theorem dX8_choose_49 : decode cX8_choose 49 = .ok (.invokevirtual 79, 3) := by decide +kernel
theorem dX8_choose_52 : decode cX8_choose 52 = .ok (.aload_n 0, 1) := by decide +kernel
theorem dX8_choose_53 : decode cX8_choose 53 = .ok (.getfield 64, 3) := by decide +kernel
theorem dX8_choose_56 : decode cX8_choose 56 = .ok (.aload_n 0, 1) := by decide +kernel
theorem dX8_choose_57 : decode cX8_choose 57 = .ok (.getfield 10, 3) := by decide +kernel
theorem dX8_choose_60 : decode cX8_choose 60 = .ok (.getfield 72, 3) := by decide +kernel
theorem dX8_choose_63 : decode cX8_choose 63 = .ok (.invokevirtual 154, 3) := by decide +kernel
theorem dX8_choose_66 : decode cX8_choose 66 = .ok (.aload_n 0, 1) := by decide +kernel
theorem dX8_choose_67 : decode cX8_choose 67 = .ok (.getfield 64, 3) := by decide +kernel
theorem dX8_choose_70 : decode cX8_choose 70 = .ok (.invokevirtual 157, 3) := by decide +kernel
theorem dX8_choose_73 : decode cX8_choose 73 = .ok (.ireturn, 1) := by decide +kernel
set_option maxRecDepth 20000 in
theorem ggX8_take_X8_isSlot : GoodIn wsX8_take wsX8_isSlot := goodIn_r _ [7, 8, 9, 6, 10] (by decide +kernel) (by decide +kernel)
set_option maxRecDepth 20000 in
theorem gX8_take_X8_isSlot : GoodIn wsX8_take (va_wsS RX8 160 yX8_isSlot wsX8_isSlot) := goodIn_app (goodIn_of _ (by decide +kernel)) ggX8_take_X8_isSlot
set_option maxRecDepth 20000 in
theorem ggX8_take_X2_record : GoodIn wsX8_take wsX2_record := goodIn_r _ [15, 16, 17, 18, 19, 20, 14, 21, 22, 23, 24, 25, 26, 27, 28, 29, 30, 31, 32, 33, 34, 35, 36, 37, 38, 39, 40, 41, 42, 148, 149, 137, 138, 139, 150, 151, 152, 153] (by decide +kernel) (by decide +kernel)
set_option maxRecDepth 20000 in
theorem gX8_take_X2_record : GoodIn wsX8_take (wsV RX8 79 RX2 yX2_record wsX2_record) := goodIn_app (goodIn_of _ (by decide +kernel)) ggX8_take_X2_record
set_option maxRecDepth 20000 in
theorem ggX8_take_X7_keep : GoodIn wsX8_take wsX7_keep := goodIn_r _ [46, 28, 27, 29, 5, 6, 7, 8, 9, 10, 30, 31, 32, 33, 34, 35, 36, 37, 38, 39, 40, 41, 42, 137, 138, 139, 150, 151, 152, 153] (by decide +kernel) (by decide +kernel)
set_option maxRecDepth 20000 in
theorem gX8_take_X7_keep : GoodIn wsX8_take (wsV RX8 163 RX7 yX7_keep wsX7_keep) := goodIn_app (goodIn_of _ (by decide +kernel)) ggX8_take_X7_keep
set_option maxRecDepth 20000 in
theorem ggX8_take_X8_findPrinted : GoodIn wsX8_take wsX8_findPrinted := goodIn_r _ [50, 3, 51, 52, 53, 33, 54, 40, 55, 56, 57, 58, 59, 60, 61, 62, 63, 64, 65, 66, 67, 68, 69, 70, 71, 72, 73, 74, 75, 76, 77, 78, 79, 41, 80, 81, 82, 83, 35, 84, 85, 86, 87, 88, 89, 90, 91, 92, 93, 94, 95, 96, 97, 6, 98, 99, 100, 101, 102, 103, 104, 105, 106, 107, 108, 109, 110, 111, 112, 113, 114, 115, 116, 117, 118, 119, 120, 121, 122, 123, 124, 125, 126, 127, 128, 129, 130, 131, 132, 133, 134, 135, 136, 150, 151, 152, 153, 140, 141, 142, 143, 144, 145, 146, 147] (by decide +kernel) (by decide +kernel)
set_option maxRecDepth 20000 in
theorem gX8_take_X8_findPrinted : GoodIn wsX8_take (wsV RX8 134 RX8 yX8_findPrinted wsX8_findPrinted) := goodIn_app (goodIn_of _ (by decide +kernel)) ggX8_take_X8_findPrinted
theorem dX8_take_0 : decode cX8_take 0 = .ok (.iload_n 1, 1) := by decide +kernel
theorem dX8_take_1 : decode cX8_take 1 = .ok (.invokestatic 160, 3) := by decide +kernel
theorem dX8_take_4 : decode cX8_take 4 = .ok (.ifCond .ne 5, 3) := by decide +kernel
theorem dX8_take_7 : decode cX8_take 7 = .ok (.iconst (-1), 1) := by decide +kernel
theorem dX8_take_8 : decode cX8_take 8 = .ok (.ireturn, 1) := by decide +kernel
theorem dX8_take_9 : decode cX8_take 9 = .ok (.aload_n 0, 1) := by decide +kernel
theorem dX8_take_10 : decode cX8_take 10 = .ok (.getfield 19, 3) := by decide +kernel
theorem dX8_take_13 : decode cX8_take 13 = .ok (.aload_n 0, 1) := by decide +kernel
theorem dX8_take_14 : decode cX8_take 14 = .ok (.getfield 10, 3) := by decide +kernel
theorem dX8_take_17 : decode cX8_take 17 = .ok (.invokevirtual 79, 3) := by decide +kernel
theorem dX8_take_20 : decode cX8_take 20 = .ok (.aload_n 0, 1) := by decide +kernel
theorem dX8_take_21 : decode cX8_take 21 = .ok (.getfield 10, 3) := by decide +kernel
theorem dX8_take_24 : decode cX8_take 24 = .ok (.iload_n 1, 1) := by decide +kernel
theorem dX8_take_25 : decode cX8_take 25 = .ok (.invokevirtual 163, 3) := by decide +kernel
theorem dX8_take_28 : decode cX8_take 28 = .ok (.aload_n 0, 1) := by decide +kernel
theorem dX8_take_29 : decode cX8_take 29 = .ok (.aload_n 0, 1) := by decide +kernel
theorem dX8_take_30 : decode cX8_take 30 = .ok (.getfield 10, 3) := by decide +kernel
theorem dX8_take_33 : decode cX8_take 33 = .ok (.getfield 72, 3) := by decide +kernel
theorem dX8_take_36 : decode cX8_take 36 = .ok (.invokevirtual 134, 3) := by decide +kernel
theorem dX8_take_39 : decode cX8_take 39 = .ok (.aload_n 0, 1) := by decide +kernel
theorem dX8_take_40 : decode cX8_take 40 = .ok (.getfield 40, 3) := by decide +kernel
theorem dX8_take_43 : decode cX8_take 43 = .ok (.getfield 166, 3) := by decide +kernel
theorem dX8_take_46 : decode cX8_take 46 = .ok (.ireturn, 1) := by decide +kernel
set_option maxRecDepth 20000 in
theorem ggX8_restore_X8_isSlot : GoodIn wsX8_restore wsX8_isSlot := goodIn_r _ [7, 8, 9, 6, 10] (by decide +kernel) (by decide +kernel)
set_option maxRecDepth 20000 in
theorem gX8_restore_X8_isSlot : GoodIn wsX8_restore (va_wsS RX8 160 yX8_isSlot wsX8_isSlot) := goodIn_app (goodIn_of _ (by decide +kernel)) ggX8_restore_X8_isSlot
set_option maxRecDepth 20000 in
theorem ggX8_restore_X7_isKept : GoodIn wsX8_restore wsX7_isKept := goodIn_r _ [15, 16, 17, 6, 18, 142, 143, 144] (by decide +kernel) (by decide +kernel)
set_option maxRecDepth 20000 in
theorem gX8_restore_X7_isKept : GoodIn wsX8_restore (wsV RX8 169 RX7 yX7_isKept wsX7_isKept) := goodIn_app (goodIn_of _ (by decide +kernel)) ggX8_restore_X7_isKept
set_option maxRecDepth 20000 in
theorem ggX8_restore_X2_record : GoodIn wsX8_restore wsX2_record := goodIn_r _ [23, 24, 25, 26, 27, 28, 22, 29, 30, 31, 32, 14, 33, 34, 35, 16, 36, 37, 38, 39, 40, 41, 42, 43, 44, 45, 46, 47, 48, 153, 154, 142, 143, 144, 155, 156, 157, 158] (by decide +kernel) (by decide +kernel)
set_option maxRecDepth 20000 in
theorem gX8_restore_X2_record : GoodIn wsX8_restore (wsV RX8 79 RX2 yX2_record wsX2_record) := goodIn_app (goodIn_of _ (by decide +kernel)) ggX8_restore_X2_record
set_option maxRecDepth 20000 in
theorem ggX8_restore_X7_bringBack : GoodIn wsX8_restore wsX7_bringBack := goodIn_r _ [52, 34, 35, 5, 6, 7, 8, 9, 10, 53, 12, 13, 14, 15, 16, 17, 18, 36, 37, 38, 39, 40, 41, 42, 43, 44, 45, 46, 47, 48, 142, 143, 144, 155, 156, 157, 158] (by decide +kernel) (by decide +kernel)
set_option maxRecDepth 20000 in
theorem gX8_restore_X7_bringBack : GoodIn wsX8_restore (wsV RX8 172 RX7 yX7_bringBack wsX7_bringBack) := goodIn_app (goodIn_of _ (by decide +kernel)) ggX8_restore_X7_bringBack
set_option maxRecDepth 20000 in
theorem ggX8_restore_X8_findPrinted : GoodIn wsX8_restore wsX8_findPrinted := goodIn_r _ [57, 3, 58, 59, 60, 39, 61, 46, 62, 63, 64, 65, 66, 67, 68, 69, 70, 71, 72, 73, 74, 75, 76, 77, 78, 79, 80, 81, 82, 83, 84, 85, 86, 47, 87, 88, 89, 90, 41, 91, 92, 93, 94, 95, 96, 97, 98, 99, 100, 101, 102, 103, 17, 6, 18, 104, 105, 106, 107, 108, 109, 110, 111, 112, 113, 114, 115, 116, 117, 118, 119, 120, 121, 122, 123, 124, 125, 126, 127, 128, 129, 130, 131, 132, 133, 134, 135, 136, 137, 138, 139, 140, 141, 155, 156, 157, 158, 145, 146, 147, 148, 149, 150, 151, 152] (by decide +kernel) (by decide +kernel)
set_option maxRecDepth 20000 in
theorem gX8_restore_X8_findPrinted : GoodIn wsX8_restore (wsV RX8 134 RX8 yX8_findPrinted wsX8_findPrinted) := goodIn_app (goodIn_of _ (by decide +kernel)) ggX8_restore_X8_findPrinted
theorem dX8_restore_0 : decode cX8_restore 0 = .ok (.iload_n 1, 1) := by decide +kernel
theorem dX8_restore_1 : decode cX8_restore 1 = .ok (.invokestatic 160, 3) := by decide +kernel
theorem dX8_restore_4 : decode cX8_restore 4 = .ok (.ifCond .ne 5, 3) := by decide +kernel
theorem dX8_restore_7 : decode cX8_restore 7 = .ok (.iconst (-1), 1) := by decide +kernel
theorem dX8_restore_8 : decode cX8_restore 8 = .ok (.ireturn, 1) := by decide +kernel
theorem dX8_restore_9 : decode cX8_restore 9 = .ok (.aload_n 0, 1) := by decide +kernel
theorem dX8_restore_10 : decode cX8_restore 10 = .ok (.getfield 10, 3) := by decide +kernel
theorem dX8_restore_13 : decode cX8_restore 13 = .ok (.iload_n 1, 1) := by decide +kernel
theorem dX8_restore_14 : decode cX8_restore 14 = .ok (.invokevirtual 169, 3) := by decide +kernel
theorem dX8_restore_17 : decode cX8_restore 17 = .ok (.ifCond .ne 6, 3) := by decide +kernel
theorem dX8_restore_20 : decode cX8_restore 20 = .ok (.bipush (-2), 2) := by decide +kernel
theorem dX8_restore_22 : decode cX8_restore 22 = .ok (.ireturn, 1) := by decide +kernel
theorem dX8_restore_23 : decode cX8_restore 23 = .ok (.aload_n 0, 1) := by decide +kernel
theorem dX8_restore_24 : decode cX8_restore 24 = .ok (.getfield 19, 3) := by decide +kernel
theorem dX8_restore_27 : decode cX8_restore 27 = .ok (.aload_n 0, 1) := by decide +kernel
theorem dX8_restore_28 : decode cX8_restore 28 = .ok (.getfield 10, 3) := by decide +kernel
theorem dX8_restore_31 : decode cX8_restore 31 = .ok (.invokevirtual 79, 3) := by decide +kernel
theorem dX8_restore_34 : decode cX8_restore 34 = .ok (.aload_n 0, 1) := by decide +kernel
theorem dX8_restore_35 : decode cX8_restore 35 = .ok (.getfield 10, 3) := by decide +kernel
theorem dX8_restore_38 : decode cX8_restore 38 = .ok (.iload_n 1, 1) := by decide +kernel
theorem dX8_restore_39 : decode cX8_restore 39 = .ok (.invokevirtual 172, 3) := by decide +kernel
theorem dX8_restore_42 : decode cX8_restore 42 = .ok (.aload_n 0, 1) := by decide +kernel
theorem dX8_restore_43 : decode cX8_restore 43 = .ok (.aload_n 0, 1) := by decide +kernel
theorem dX8_restore_44 : decode cX8_restore 44 = .ok (.getfield 10, 3) := by decide +kernel
theorem dX8_restore_47 : decode cX8_restore 47 = .ok (.getfield 72, 3) := by decide +kernel
theorem dX8_restore_50 : decode cX8_restore 50 = .ok (.invokevirtual 134, 3) := by decide +kernel
theorem dX8_restore_53 : decode cX8_restore 53 = .ok (.aload_n 0, 1) := by decide +kernel
theorem dX8_restore_54 : decode cX8_restore 54 = .ok (.getfield 40, 3) := by decide +kernel
theorem dX8_restore_57 : decode cX8_restore 57 = .ok (.getfield 166, 3) := by decide +kernel
theorem dX8_restore_60 : decode cX8_restore 60 = .ok (.ireturn, 1) := by decide +kernel
set_option maxRecDepth 20000 in
theorem ggX8_undo_X2_giveBack : GoodIn wsX8_undo wsX2_giveBack := goodIn_r _ [7, 8, 9, 10, 11, 12, 13, 14, 15, 16, 17, 18, 19, 20, 21, 22, 23, 24, 25, 26, 27, 28, 29, 30, 40, 41, 42, 43, 44, 45, 46, 47, 48] (by decide +kernel) (by decide +kernel)
set_option maxRecDepth 20000 in
theorem gX8_undo_X2_giveBack : GoodIn wsX8_undo (wsV RX8 177 RX2 yX2_giveBack wsX2_giveBack) := goodIn_app (goodIn_of _ (by decide +kernel)) ggX8_undo_X2_giveBack
theorem dX8_undo_0 : decode cX8_undo 0 = .ok (.aload_n 0, 1) := by decide +kernel
theorem dX8_undo_1 : decode cX8_undo 1 = .ok (.getfield 19, 3) := by decide +kernel
theorem dX8_undo_4 : decode cX8_undo 4 = .ok (.getfield 175, 3) := by decide +kernel
theorem dX8_undo_7 : decode cX8_undo 7 = .ok (.ifCond .ne 6, 3) := by decide +kernel
theorem dX8_undo_10 : decode cX8_undo 10 = .ok (.bipush (-2), 2) := by decide +kernel
theorem dX8_undo_12 : decode cX8_undo 12 = .ok (.ireturn, 1) := by decide +kernel
theorem dX8_undo_13 : decode cX8_undo 13 = .ok (.aload_n 0, 1) := by decide +kernel
theorem dX8_undo_14 : decode cX8_undo 14 = .ok (.getfield 19, 3) := by decide +kernel
theorem dX8_undo_17 : decode cX8_undo 17 = .ok (.aload_n 0, 1) := by decide +kernel
theorem dX8_undo_18 : decode cX8_undo 18 = .ok (.getfield 10, 3) := by decide +kernel
theorem dX8_undo_21 : decode cX8_undo 21 = .ok (.invokevirtual 177, 3) := by decide +kernel
theorem dX8_undo_24 : decode cX8_undo 24 = .ok (.aload_n 0, 1) := by decide +kernel
theorem dX8_undo_25 : decode cX8_undo 25 = .ok (.getfield 19, 3) := by decide +kernel
theorem dX8_undo_28 : decode cX8_undo 28 = .ok (.getfield 175, 3) := by decide +kernel
theorem dX8_undo_31 : decode cX8_undo 31 = .ok (.ireturn, 1) := by decide +kernel
set_option maxRecDepth 20000 in
theorem ggX8_append_X8_inRange : GoodIn wsX8_append wsX8_inRange := goodIn_r _ [5] (by decide +kernel) (by decide +kernel)
set_option maxRecDepth 20000 in
theorem gX8_append_X8_inRange : GoodIn wsX8_append (va_wsS RX8 117 yX8_inRange wsX8_inRange) := goodIn_app (goodIn_of _ (by decide +kernel)) ggX8_append_X8_inRange
set_option maxRecDepth 20000 in
theorem ggX8_append_X5_write : GoodIn wsX8_append wsX5_write := goodIn_r _ [10, 11, 12, 22, 23, 24, 25, 26] (by decide +kernel) (by decide +kernel)
set_option maxRecDepth 20000 in
theorem gX8_append_X5_write : GoodIn wsX8_append (wsV RX8 183 RX5 yX5_write wsX5_write) := goodIn_app (goodIn_of _ (by decide +kernel)) ggX8_append_X5_write
theorem dX8_append_0 : decode cX8_append 0 = .ok (.iload_n 1, 1) := by decide +kernel
theorem dX8_append_1 : decode cX8_append 1 = .ok (.iconst 1, 1) := by decide +kernel
theorem dX8_append_2 : decode cX8_append 2 = .ok (.sipush 255, 3) := by decide +kernel
theorem dX8_append_5 : decode cX8_append 5 = .ok (.invokestatic 117, 3) := by decide +kernel
theorem dX8_append_8 : decode cX8_append 8 = .ok (.ifCond .ne 5, 3) := by decide +kernel
theorem dX8_append_11 : decode cX8_append 11 = .ok (.iconst (-1), 1) := by decide +kernel
theorem dX8_append_12 : decode cX8_append 12 = .ok (.ireturn, 1) := by decide +kernel
theorem dX8_append_13 : decode cX8_append 13 = .ok (.aload_n 0, 1) := by decide +kernel
theorem dX8_append_14 : decode cX8_append 14 = .ok (.getfield 33, 3) := by decide +kernel
theorem dX8_append_17 : decode cX8_append 17 = .ok (.getfield 180, 3) := by decide +kernel
theorem dX8_append_20 : decode cX8_append 20 = .ok (.sipush 140, 3) := by decide +kernel
theorem dX8_append_23 : decode cX8_append 23 = .ok (.if_icmp .lt 6, 3) := by decide +kernel
theorem dX8_append_26 : decode cX8_append 26 = .ok (.bipush (-3), 2) := by decide +kernel
theorem dX8_append_28 : decode cX8_append 28 = .ok (.ireturn, 1) := by decide +kernel
theorem dX8_append_29 : decode cX8_append 29 = .ok (.aload_n 0, 1) := by decide +kernel
theorem dX8_append_30 : decode cX8_append 30 = .ok (.getfield 33, 3) := by decide +kernel
theorem dX8_append_33 : decode cX8_append 33 = .ok (.iload_n 1, 1) := by decide +kernel
theorem dX8_append_34 : decode cX8_append 34 = .ok (.invokevirtual 183, 3) := by decide +kernel
theorem dX8_append_37 : decode cX8_append 37 = .ok (.aload_n 0, 1) := by decide +kernel
theorem dX8_append_38 : decode cX8_append 38 = .ok (.getfield 33, 3) := by decide +kernel
theorem dX8_append_41 : decode cX8_append 41 = .ok (.getfield 180, 3) := by decide +kernel
theorem dX8_append_44 : decode cX8_append 44 = .ok (.ireturn, 1) := by decide +kernel
set_option maxRecDepth 20000 in
theorem ggX8_load_X3_copyFrom : GoodIn wsX8_load wsX3_copyFrom := goodIn_r _ [9, 10, 11, 12, 13, 14, 15, 16, 17, 223, 224, 225, 226] (by decide +kernel) (by decide +kernel)
set_option maxRecDepth 20000 in
theorem gX8_load_X3_copyFrom : GoodIn wsX8_load (wsV RX8 186 RX3 yX3_copyFrom wsX3_copyFrom) := goodIn_app (goodIn_of _ (by decide +kernel)) ggX8_load_X3_copyFrom
set_option maxRecDepth 20000 in
theorem ggX8_load_X5_readInto : GoodIn wsX8_load wsX5_readInto := goodIn_r _ [22, 23, 24, 25, 26, 27, 21, 28, 29, 30, 31, 32, 33, 34, 35, 36, 37, 8, 38, 16, 39, 40, 41, 42, 43, 44, 45, 46, 47, 48, 49, 50, 51, 52, 53, 54, 55, 56, 57, 58, 59, 60, 61, 62, 63, 64, 65, 66, 67, 68, 69, 70, 71, 72, 73, 74, 75, 76, 77, 78, 79, 80, 81, 82, 83, 84, 85, 86, 87, 88, 89, 90, 91, 92, 93, 94, 95, 96, 97, 98, 99, 100, 101, 102, 103, 104, 105, 106, 107, 108, 109, 110, 111, 112, 113, 114, 115, 116, 117, 118, 119, 120, 121, 122, 123, 124, 125, 126, 127, 128, 129, 130, 131, 132, 133, 134, 135, 136, 137, 138, 139, 140, 141, 142, 143, 144, 145, 146, 147, 148, 149, 150, 151, 152, 153, 154, 155, 156, 157, 158, 159, 160, 161, 162, 163, 164, 165, 166, 167, 168, 169, 170, 171, 172, 173, 174, 175, 176, 10, 177, 178, 179, 180, 181, 182, 183, 184, 185, 218, 219, 220, 221, 222, 223, 224, 225, 226] (by decide +kernel) (by decide +kernel)
set_option maxRecDepth 20000 in
theorem gX8_load_X5_readInto : GoodIn wsX8_load (wsV RX8 189 RX5 yX5_readInto wsX5_readInto) := goodIn_app (goodIn_of _ (by decide +kernel)) ggX8_load_X5_readInto
set_option maxRecDepth 20000 in
theorem ggX8_load_X2_record : GoodIn wsX8_load wsX2_record := goodIn_r _ [190, 191, 192, 193, 194, 195, 189, 196, 197, 198, 199, 200, 201, 202, 203, 204, 205, 6, 7, 8, 9, 10, 11, 12, 13, 14, 15, 16, 17, 227, 228, 215, 216, 217, 223, 224, 225, 226] (by decide +kernel) (by decide +kernel)
set_option maxRecDepth 20000 in
theorem gX8_load_X2_record : GoodIn wsX8_load (wsV RX8 79 RX2 yX2_record wsX2_record) := goodIn_app (goodIn_of _ (by decide +kernel)) ggX8_load_X2_record
theorem dX8_load_0 : decode cX8_load 0 = .ok (.aload_n 0, 1) := by decide +kernel
theorem dX8_load_1 : decode cX8_load 1 = .ok (.getfield 26, 3) := by decide +kernel
theorem dX8_load_4 : decode cX8_load 4 = .ok (.aload_n 0, 1) := by decide +kernel
theorem dX8_load_5 : decode cX8_load 5 = .ok (.getfield 10, 3) := by decide +kernel
theorem dX8_load_8 : decode cX8_load 8 = .ok (.getfield 72, 3) := by decide +kernel
theorem dX8_load_11 : decode cX8_load 11 = .ok (.invokevirtual 186, 3) := by decide +kernel
theorem dX8_load_14 : decode cX8_load 14 = .ok (.aload_n 0, 1) := by decide +kernel
theorem dX8_load_15 : decode cX8_load 15 = .ok (.getfield 33, 3) := by decide +kernel
theorem dX8_load_18 : decode cX8_load 18 = .ok (.aload_n 0, 1) := by decide +kernel
theorem dX8_load_19 : decode cX8_load 19 = .ok (.getfield 26, 3) := by decide +kernel
theorem dX8_load_22 : decode cX8_load 22 = .ok (.invokevirtual 189, 3) := by decide +kernel
theorem dX8_load_25 : decode cX8_load 25 = .ok (.istore_n 1, 1) := by decide +kernel
theorem dX8_load_26 : decode cX8_load 26 = .ok (.iload_n 1, 1) := by decide +kernel
theorem dX8_load_27 : decode cX8_load 27 = .ok (.ifCond .ge 5, 3) := by decide +kernel
theorem dX8_load_30 : decode cX8_load 30 = .ok (.iload_n 1, 1) := by decide +kernel
theorem dX8_load_31 : decode cX8_load 31 = .ok (.ireturn, 1) := by decide +kernel
theorem dX8_load_32 : decode cX8_load 32 = .ok (.aload_n 0, 1) := by decide +kernel
theorem dX8_load_33 : decode cX8_load 33 = .ok (.getfield 19, 3) := by decide +kernel
theorem dX8_load_36 : decode cX8_load 36 = .ok (.aload_n 0, 1) := by decide +kernel
theorem dX8_load_37 : decode cX8_load 37 = .ok (.getfield 10, 3) := by decide +kernel
theorem dX8_load_40 : decode cX8_load 40 = .ok (.invokevirtual 79, 3) := by decide +kernel
theorem dX8_load_43 : decode cX8_load 43 = .ok (.aload_n 0, 1) := by decide +kernel
theorem dX8_load_44 : decode cX8_load 44 = .ok (.getfield 10, 3) := by decide +kernel
theorem dX8_load_47 : decode cX8_load 47 = .ok (.getfield 72, 3) := by decide +kernel
theorem dX8_load_50 : decode cX8_load 50 = .ok (.aload_n 0, 1) := by decide +kernel
theorem dX8_load_51 : decode cX8_load 51 = .ok (.getfield 26, 3) := by decide +kernel
theorem dX8_load_54 : decode cX8_load 54 = .ok (.invokevirtual 186, 3) := by decide +kernel
theorem dX8_load_57 : decode cX8_load 57 = .ok (.aload_n 0, 1) := by decide +kernel
theorem dX8_load_58 : decode cX8_load 58 = .ok (.getfield 33, 3) := by decide +kernel
theorem dX8_load_61 : decode cX8_load 61 = .ok (.iconst 0, 1) := by decide +kernel
theorem dX8_load_62 : decode cX8_load 62 = .ok (.putfield 180, 3) := by decide +kernel
theorem dX8_load_65 : decode cX8_load 65 = .ok (.iload_n 1, 1) := by decide +kernel
theorem dX8_load_66 : decode cX8_load 66 = .ok (.ireturn, 1) := by decide +kernel
set_option maxRecDepth 20000 in
theorem ggX8_count_X8_layCard : GoodIn wsX8_count wsX8_layCard := goodIn_r _ [10, 2, 1, 3, 11, 12, 13, 14, 15, 16, 17, 18, 19, 20, 21, 22, 23, 24, 25, 26, 27, 28, 29, 30, 31, 32, 33, 34, 35, 36, 37, 38, 39, 40, 41, 42, 43, 44, 45, 46, 47, 48, 49, 50, 51, 52, 53, 54, 55, 56, 57, 58, 59, 60, 61, 9, 62, 63, 64, 65, 66, 67, 68, 69, 70, 71, 72, 73, 74, 75, 76, 77, 78, 79, 80, 81, 82, 83, 84, 85, 86, 87, 88, 89, 90, 91, 92, 93, 94, 95, 96, 97, 98, 99, 100, 101, 102, 103, 104, 105, 106, 107, 108, 109, 110, 111, 112, 113, 114, 115, 116, 117, 118, 119, 120, 121, 122, 123, 124, 125, 126, 127, 128, 129, 130, 131, 132, 153, 154, 155, 156, 157, 158, 159, 160, 161, 162, 163, 164, 185, 186, 187, 188, 165, 166, 167, 168, 169, 170, 171, 172, 173, 174, 175, 176, 177] (by decide +kernel) (by decide +kernel)
set_option maxRecDepth 20000 in
theorem gX8_count_X8_layCard : GoodIn wsX8_count (wsV RX8 193 RX8 yX8_layCard wsX8_layCard) := goodIn_app (goodIn_of _ (by decide +kernel)) ggX8_count_X8_layCard
set_option maxRecDepth 20000 in
theorem ggX8_count_X3_size : GoodIn wsX8_count wsX3_size := goodIn_r _ [41, 42, 185, 186, 187, 188] (by decide +kernel) (by decide +kernel)
set_option maxRecDepth 20000 in
theorem gX8_count_X3_size : GoodIn wsX8_count (wsV RX8 99 RX3 yX3_size wsX3_size) := goodIn_app (goodIn_of _ (by decide +kernel)) ggX8_count_X3_size
set_option maxRecDepth 20000 in
theorem ggX8_count_X1_linesOf : GoodIn wsX8_count wsX1_linesOf := goodIn_r _ [124, 125, 126, 127, 95, 128, 105, 173, 174, 175, 176, 177] (by decide +kernel) (by decide +kernel)
set_option maxRecDepth 20000 in
theorem gX8_count_X1_linesOf : GoodIn wsX8_count (wsV RX8 196 RX1 yX1_linesOf wsX1_linesOf) := goodIn_app (goodIn_of _ (by decide +kernel)) ggX8_count_X1_linesOf
set_option maxRecDepth 20000 in
theorem ggX8_count_X1_weightOf : GoodIn wsX8_count wsX1_weightOf := goodIn_r _ [138, 106, 139, 9, 140, 141, 142, 143, 173, 174, 175, 176, 177] (by decide +kernel) (by decide +kernel)
set_option maxRecDepth 20000 in
theorem gX8_count_X1_weightOf : GoodIn wsX8_count (wsV RX8 199 RX1 yX1_weightOf wsX1_weightOf) := goodIn_app (goodIn_of _ (by decide +kernel)) ggX8_count_X1_weightOf
set_option maxRecDepth 20000 in
theorem ggX8_count_J6_bitCount_0f7a4 : GoodIn wsX8_count wsJ6_bitCount_0f7a4 := goodIn_r _ [85, 86, 87, 88] (by decide +kernel) (by decide +kernel)
set_option maxRecDepth 20000 in
theorem gX8_count_J6_bitCount_0f7a4 : GoodIn wsX8_count (va_wsS RX8 208 yJ6_bitCount_0f7a4 wsJ6_bitCount_0f7a4) := goodIn_app (goodIn_of _ (by decide +kernel)) ggX8_count_J6_bitCount_0f7a4
set_option maxRecDepth 20000 in
theorem ggX8_count_X1_fill : GoodIn wsX8_count wsX1_fill := goodIn_r _ [148, 125, 126, 127, 95, 128, 105, 173, 174, 175, 176, 177] (by decide +kernel) (by decide +kernel)
set_option maxRecDepth 20000 in
theorem gX8_count_X1_fill : GoodIn wsX8_count (wsV RX8 219 RX1 yX1_fill wsX1_fill) := goodIn_app (goodIn_of _ (by decide +kernel)) ggX8_count_X1_fill
set_option maxRecDepth 20000 in
theorem ggX8_count_X1_isEven : GoodIn wsX8_count wsX1_isEven := goodIn_r _ [152, 121, 122, 123, 95, 124, 125, 126, 127, 128, 105, 173, 174, 175, 176, 177] (by decide +kernel) (by decide +kernel)
set_option maxRecDepth 20000 in
theorem gX8_count_X1_isEven : GoodIn wsX8_count (wsV RX8 222 RX1 yX1_isEven wsX1_isEven) := goodIn_app (goodIn_of _ (by decide +kernel)) ggX8_count_X1_isEven
theorem dX8_count_0 : decode cX8_count 0 = .ok (.aload_n 0, 1) := by decide +kernel
theorem dX8_count_1 : decode cX8_count 1 = .ok (.invokevirtual 193, 3) := by decide +kernel
theorem dX8_count_4 : decode cX8_count 4 = .ok (.iload_n 1, 1) := by decide +kernel
theorem dX8_count_5 : decode cX8_count 5 = .ok (.tableswitch 228 0 15 #[79, 90, 98, 107, 116, 125, 134, 142, 153, 161, 169, 177, 193, 201, 212, 220], 79) := by decide +kernel
theorem dX8_count_84 : decode cX8_count 84 = .ok (.aload_n 0, 1) := by decide +kernel
theorem dX8_count_85 : decode cX8_count 85 = .ok (.getfield 10, 3) := by decide +kernel
theorem dX8_count_88 : decode cX8_count 88 = .ok (.getfield 72, 3) := by decide +kernel
theorem dX8_count_91 : decode cX8_count 91 = .ok (.invokevirtual 99, 3) := by decide +kernel
theorem dX8_count_94 : decode cX8_count 94 = .ok (.ireturn, 1) := by decide +kernel
theorem dX8_count_95 : decode cX8_count 95 = .ok (.aload_n 0, 1) := by decide +kernel
theorem dX8_count_96 : decode cX8_count 96 = .ok (.getfield 40, 3) := by decide +kernel
theorem dX8_count_99 : decode cX8_count 99 = .ok (.getfield 166, 3) := by decide +kernel
theorem dX8_count_102 : decode cX8_count 102 = .ok (.ireturn, 1) := by decide +kernel
theorem dX8_count_103 : decode cX8_count 103 = .ok (.aload_n 0, 1) := by decide +kernel
theorem dX8_count_104 : decode cX8_count 104 = .ok (.getfield 47, 3) := by decide +kernel
theorem dX8_count_107 : decode cX8_count 107 = .ok (.iconst 0, 1) := by decide +kernel
theorem dX8_count_108 : decode cX8_count 108 = .ok (.invokevirtual 196, 3) := by decide +kernel
theorem dX8_count_111 : decode cX8_count 111 = .ok (.ireturn, 1) := by decide +kernel
theorem dX8_count_112 : decode cX8_count 112 = .ok (.aload_n 0, 1) := by decide +kernel
theorem dX8_count_113 : decode cX8_count 113 = .ok (.getfield 47, 3) := by decide +kernel
theorem dX8_count_116 : decode cX8_count 116 = .ok (.iconst 1, 1) := by decide +kernel
theorem dX8_count_117 : decode cX8_count 117 = .ok (.invokevirtual 196, 3) := by decide +kernel
theorem dX8_count_120 : decode cX8_count 120 = .ok (.ireturn, 1) := by decide +kernel
theorem dX8_count_121 : decode cX8_count 121 = .ok (.aload_n 0, 1) := by decide +kernel
theorem dX8_count_122 : decode cX8_count 122 = .ok (.getfield 47, 3) := by decide +kernel
theorem dX8_count_125 : decode cX8_count 125 = .ok (.iconst 0, 1) := by decide +kernel
theorem dX8_count_126 : decode cX8_count 126 = .ok (.invokevirtual 199, 3) := by decide +kernel
theorem dX8_count_129 : decode cX8_count 129 = .ok (.ireturn, 1) := by decide +kernel
theorem dX8_count_130 : decode cX8_count 130 = .ok (.aload_n 0, 1) := by decide +kernel
theorem dX8_count_131 : decode cX8_count 131 = .ok (.getfield 47, 3) := by decide +kernel
theorem dX8_count_134 : decode cX8_count 134 = .ok (.iconst 1, 1) := by decide +kernel
theorem dX8_count_135 : decode cX8_count 135 = .ok (.invokevirtual 199, 3) := by decide +kernel
theorem dX8_count_138 : decode cX8_count 138 = .ok (.ireturn, 1) := by decide +kernel
theorem dX8_count_139 : decode cX8_count 139 = .ok (.aload_n 0, 1) := by decide +kernel
theorem dX8_count_140 : decode cX8_count 140 = .ok (.getfield 40, 3) := by decide +kernel
theorem dX8_count_143 : decode cX8_count 143 = .ok (.getfield 202, 3) := by decide +kernel
theorem dX8_count_146 : decode cX8_count 146 = .ok (.ireturn, 1) := by decide +kernel
theorem dX8_count_147 : decode cX8_count 147 = .ok (.aload_n 0, 1) := by decide +kernel
theorem dX8_count_148 : decode cX8_count 148 = .ok (.getfield 40, 3) := by decide +kernel
theorem dX8_count_151 : decode cX8_count 151 = .ok (.getfield 205, 3) := by decide +kernel
theorem dX8_count_154 : decode cX8_count 154 = .ok (.invokestatic 208, 3) := by decide +kernel
theorem dX8_count_157 : decode cX8_count 157 = .ok (.ireturn, 1) := by decide +kernel
theorem dX8_count_158 : decode cX8_count 158 = .ok (.aload_n 0, 1) := by decide +kernel
theorem dX8_count_159 : decode cX8_count 159 = .ok (.getfield 47, 3) := by decide +kernel
theorem dX8_count_162 : decode cX8_count 162 = .ok (.getfield 213, 3) := by decide +kernel
theorem dX8_count_165 : decode cX8_count 165 = .ok (.ireturn, 1) := by decide +kernel
theorem dX8_count_166 : decode cX8_count 166 = .ok (.aload_n 0, 1) := by decide +kernel
theorem dX8_count_167 : decode cX8_count 167 = .ok (.getfield 47, 3) := by decide +kernel
theorem dX8_count_170 : decode cX8_count 170 = .ok (.getfield 216, 3) := by decide +kernel
theorem dX8_count_173 : decode cX8_count 173 = .ok (.ireturn, 1) := by decide +kernel
theorem dX8_count_174 : decode cX8_count 174 = .ok (.aload_n 0, 1) := by decide +kernel
theorem dX8_count_175 : decode cX8_count 175 = .ok (.getfield 47, 3) := by decide +kernel
theorem dX8_count_178 : decode cX8_count 178 = .ok (.invokevirtual 219, 3) := by decide +kernel
theorem dX8_count_181 : decode cX8_count 181 = .ok (.ireturn, 1) := by decide +kernel
theorem dX8_count_182 : decode cX8_count 182 = .ok (.aload_n 0, 1) := by decide +kernel
theorem dX8_count_183 : decode cX8_count 183 = .ok (.getfield 47, 3) := by decide +kernel
theorem dX8_count_186 : decode cX8_count 186 = .ok (.invokevirtual 222, 3) := by decide +kernel
theorem dX8_count_189 : decode cX8_count 189 = .ok (.ifCond .eq 7, 3) := by decide +kernel
theorem dX8_count_192 : decode cX8_count 192 = .ok (.iconst 1, 1) := by decide +kernel
theorem dX8_count_193 : decode cX8_count 193 = .ok (.goto 4, 3) := by decide +kernel
theorem dX8_count_196 : decode cX8_count 196 = .ok (.iconst 0, 1) := by decide +kernel
theorem dX8_count_197 : decode cX8_count 197 = .ok (.ireturn, 1) := by decide +kernel
theorem dX8_count_198 : decode cX8_count 198 = .ok (.aload_n 0, 1) := by decide +kernel
theorem dX8_count_199 : decode cX8_count 199 = .ok (.getfield 40, 3) := by decide +kernel
theorem dX8_count_202 : decode cX8_count 202 = .ok (.getfield 225, 3) := by decide +kernel
theorem dX8_count_205 : decode cX8_count 205 = .ok (.ireturn, 1) := by decide +kernel
theorem dX8_count_206 : decode cX8_count 206 = .ok (.aload_n 0, 1) := by decide +kernel
theorem dX8_count_207 : decode cX8_count 207 = .ok (.getfield 10, 3) := by decide +kernel
theorem dX8_count_210 : decode cX8_count 210 = .ok (.getfield 227, 3) := by decide +kernel
theorem dX8_count_213 : decode cX8_count 213 = .ok (.invokestatic 208, 3) := by decide +kernel
theorem dX8_count_216 : decode cX8_count 216 = .ok (.ireturn, 1) := by decide +kernel
theorem dX8_count_217 : decode cX8_count 217 = .ok (.aload_n 0, 1) := by decide +kernel
theorem dX8_count_218 : decode cX8_count 218 = .ok (.getfield 19, 3) := by decide +kernel
theorem dX8_count_221 : decode cX8_count 221 = .ok (.getfield 175, 3) := by decide +kernel
theorem dX8_count_224 : decode cX8_count 224 = .ok (.ireturn, 1) := by decide +kernel
theorem dX8_count_225 : decode cX8_count 225 = .ok (.aload_n 0, 1) := by decide +kernel
theorem dX8_count_226 : decode cX8_count 226 = .ok (.getfield 33, 3) := by decide +kernel
theorem dX8_count_229 : decode cX8_count 229 = .ok (.getfield 180, 3) := by decide +kernel
theorem dX8_count_232 : decode cX8_count 232 = .ok (.ireturn, 1) := by decide +kernel
theorem dX8_count_233 : decode cX8_count 233 = .ok (.iconst (-1), 1) := by decide +kernel
theorem dX8_count_234 : decode cX8_count 234 = .ok (.ireturn, 1) := by decide +kernel
set_option maxRecDepth 20000 in
theorem ggX8_card_X8_inRange : GoodIn wsX8_card wsX8_inRange := goodIn_r _ [5] (by decide +kernel) (by decide +kernel)
set_option maxRecDepth 20000 in
theorem gX8_card_X8_inRange : GoodIn wsX8_card (va_wsS RX8 117 yX8_inRange wsX8_inRange) := goodIn_app (goodIn_of _ (by decide +kernel)) ggX8_card_X8_inRange
set_option maxRecDepth 20000 in
theorem ggX8_card_X3_setting : GoodIn wsX8_card wsX3_setting := goodIn_r _ [10, 11, 27, 28, 29, 30] (by decide +kernel) (by decide +kernel)
set_option maxRecDepth 20000 in
theorem gX8_card_X3_setting : GoodIn wsX8_card (wsV RX8 109 RX3 yX3_setting wsX3_setting) := goodIn_app (goodIn_of _ (by decide +kernel)) ggX8_card_X3_setting
set_option maxRecDepth 20000 in
theorem ggX8_card_X8_sideIn : GoodIn wsX8_card wsX8_sideIn := goodIn_r _ [14] (by decide +kernel) (by decide +kernel)
set_option maxRecDepth 20000 in
theorem gX8_card_X8_sideIn : GoodIn wsX8_card (va_wsS RX8 128 yX8_sideIn wsX8_sideIn) := goodIn_app (goodIn_of _ (by decide +kernel)) ggX8_card_X8_sideIn
theorem dX8_card_0 : decode cX8_card 0 = .ok (.iload_n 1, 1) := by decide +kernel
theorem dX8_card_1 : decode cX8_card 1 = .ok (.iconst 0, 1) := by decide +kernel
theorem dX8_card_2 : decode cX8_card 2 = .ok (.iconst 5, 1) := by decide +kernel
theorem dX8_card_3 : decode cX8_card 3 = .ok (.invokestatic 117, 3) := by decide +kernel
theorem dX8_card_6 : decode cX8_card 6 = .ok (.ifCond .eq 15, 3) := by decide +kernel
theorem dX8_card_9 : decode cX8_card 9 = .ok (.aload_n 0, 1) := by decide +kernel
theorem dX8_card_10 : decode cX8_card 10 = .ok (.getfield 10, 3) := by decide +kernel
theorem dX8_card_13 : decode cX8_card 13 = .ok (.getfield 72, 3) := by decide +kernel
theorem dX8_card_16 : decode cX8_card 16 = .ok (.iload_n 1, 1) := by decide +kernel
theorem dX8_card_17 : decode cX8_card 17 = .ok (.invokevirtual 109, 3) := by decide +kernel
theorem dX8_card_20 : decode cX8_card 20 = .ok (.ireturn, 1) := by decide +kernel
theorem dX8_card_21 : decode cX8_card 21 = .ok (.iload_n 1, 1) := by decide +kernel
theorem dX8_card_22 : decode cX8_card 22 = .ok (.bipush 6, 2) := by decide +kernel
theorem dX8_card_24 : decode cX8_card 24 = .ok (.bipush 9, 2) := by decide +kernel
theorem dX8_card_26 : decode cX8_card 26 = .ok (.invokestatic 117, 3) := by decide +kernel
theorem dX8_card_29 : decode cX8_card 29 = .ok (.ifCond .eq 21, 3) := by decide +kernel
theorem dX8_card_32 : decode cX8_card 32 = .ok (.aload_n 0, 1) := by decide +kernel
theorem dX8_card_33 : decode cX8_card 33 = .ok (.getfield 10, 3) := by decide +kernel
theorem dX8_card_36 : decode cX8_card 36 = .ok (.getfield 72, 3) := by decide +kernel
theorem dX8_card_39 : decode cX8_card 39 = .ok (.getfield 124, 3) := by decide +kernel
theorem dX8_card_42 : decode cX8_card 42 = .ok (.iload_n 1, 1) := by decide +kernel
theorem dX8_card_43 : decode cX8_card 43 = .ok (.bipush 6, 2) := by decide +kernel
theorem dX8_card_45 : decode cX8_card 45 = .ok (.isub, 1) := by decide +kernel
theorem dX8_card_46 : decode cX8_card 46 = .ok (.invokestatic 128, 3) := by decide +kernel
theorem dX8_card_49 : decode cX8_card 49 = .ok (.ireturn, 1) := by decide +kernel
theorem dX8_card_50 : decode cX8_card 50 = .ok (.iconst (-1), 1) := by decide +kernel
theorem dX8_card_51 : decode cX8_card 51 = .ok (.ireturn, 1) := by decide +kernel
set_option maxRecDepth 20000 in
theorem ggX8_dish_X3_hasDish : GoodIn wsX8_dish wsX3_hasDish := goodIn_r _ [7, 8, 9, 10, 11, 212, 213, 214, 215] (by decide +kernel) (by decide +kernel)
set_option maxRecDepth 20000 in
theorem gX8_dish_X3_hasDish : GoodIn wsX8_dish (wsV RX8 91 RX3 yX3_hasDish wsX3_hasDish) := goodIn_app (goodIn_of _ (by decide +kernel)) ggX8_dish_X3_hasDish
set_option maxRecDepth 20000 in
theorem ggX8_dish_X8_inRange : GoodIn wsX8_dish wsX8_inRange := goodIn_r _ [11] (by decide +kernel) (by decide +kernel)
set_option maxRecDepth 20000 in
theorem gX8_dish_X8_inRange : GoodIn wsX8_dish (va_wsS RX8 117 yX8_inRange wsX8_inRange) := goodIn_app (goodIn_of _ (by decide +kernel)) ggX8_dish_X8_inRange
set_option maxRecDepth 20000 in
theorem ggX8_dish_X3_valueOf : GoodIn wsX8_dish wsX3_valueOf := goodIn_r _ [16, 17, 212, 213, 214, 215] (by decide +kernel) (by decide +kernel)
set_option maxRecDepth 20000 in
theorem gX8_dish_X3_valueOf : GoodIn wsX8_dish (wsV RX8 102 RX3 yX3_valueOf wsX3_valueOf) := goodIn_app (goodIn_of _ (by decide +kernel)) ggX8_dish_X3_valueOf
set_option maxRecDepth 20000 in
theorem ggX8_dish_X8_layCard : GoodIn wsX8_dish wsX8_layCard := goodIn_r _ [21, 2, 1, 22, 23, 24, 25, 6, 26, 27, 28, 29, 30, 31, 32, 33, 34, 35, 36, 37, 38, 39, 40, 41, 42, 43, 44, 45, 46, 47, 48, 49, 50, 51, 52, 8, 53, 14, 15, 16, 17, 54, 55, 56, 57, 58, 59, 60, 61, 62, 63, 64, 65, 66, 67, 10, 68, 69, 70, 71, 72, 73, 74, 75, 76, 77, 78, 79, 80, 81, 82, 83, 84, 85, 86, 87, 88, 89, 90, 91, 92, 93, 94, 95, 96, 97, 98, 99, 100, 101, 102, 103, 104, 105, 106, 107, 108, 109, 110, 111, 112, 113, 114, 115, 116, 117, 118, 119, 120, 121, 122, 123, 124, 125, 126, 127, 128, 129, 130, 131, 132, 133, 134, 135, 136, 137, 138, 192, 193, 194, 195, 196, 197, 198, 199, 200, 201, 202, 203, 212, 213, 214, 215, 204, 205, 206, 207, 208, 209, 210, 211, 216, 217, 218, 219, 220] (by decide +kernel) (by decide +kernel)
set_option maxRecDepth 20000 in
theorem gX8_dish_X8_layCard : GoodIn wsX8_dish (wsV RX8 193 RX8 yX8_layCard wsX8_layCard) := goodIn_app (goodIn_of _ (by decide +kernel)) ggX8_dish_X8_layCard
set_option maxRecDepth 20000 in
theorem ggX8_dish_X8_has : GoodIn wsX8_dish wsX8_has := goodIn_r _ [68] (by decide +kernel) (by decide +kernel)
set_option maxRecDepth 20000 in
theorem gX8_dish_X8_has : GoodIn wsX8_dish (va_wsS RX8 233 yX8_has wsX8_has) := goodIn_app (goodIn_of _ (by decide +kernel)) ggX8_dish_X8_has
set_option maxRecDepth 20000 in
theorem ggX8_dish_X3_linesOf : GoodIn wsX8_dish wsX3_linesOf := goodIn_r _ [83, 84, 85, 86, 6, 87, 58, 14, 15, 16, 17, 88, 89, 90, 91, 92, 93, 94, 95, 24, 25, 26, 27, 96, 10, 97, 212, 213, 214, 215] (by decide +kernel) (by decide +kernel)
set_option maxRecDepth 20000 in
theorem gX8_dish_X3_linesOf : GoodIn wsX8_dish (wsV RX8 236 RX3 yX3_linesOf wsX3_linesOf) := goodIn_app (goodIn_of _ (by decide +kernel)) ggX8_dish_X3_linesOf
set_option maxRecDepth 20000 in
theorem ggX8_dish_X8_firstLineOf : GoodIn wsX8_dish wsX8_firstLineOf := goodIn_r _ [144, 1, 145, 2, 22, 13, 14, 15, 6, 16, 17, 146, 115, 10, 116, 147, 148, 149, 150, 151, 152, 153, 154, 155, 156, 157, 158, 159, 160, 161, 101, 162, 113, 131, 132, 133, 134, 111, 163, 164, 165, 166, 167, 168, 169, 170, 171, 172, 173, 174, 175, 50, 51, 52, 8, 67, 68, 176, 177, 24, 25, 26, 27, 178, 81, 82, 83, 84, 85, 86, 87, 58, 88, 89, 90, 91, 92, 93, 94, 95, 96, 97, 179, 180, 181, 182, 183, 184, 185, 186, 187, 188, 189, 190, 191, 9, 11, 192, 193, 194, 195, 196, 197, 198, 199, 200, 201, 202, 203, 212, 213, 214, 215, 221, 222, 223, 224, 225, 226, 227, 204, 205, 206, 207, 208, 209, 210, 211, 216, 217, 218, 219, 220] (by decide +kernel) (by decide +kernel)
set_option maxRecDepth 20000 in
theorem gX8_dish_X8_firstLineOf : GoodIn wsX8_dish (wsV RX8 238 RX8 yX8_firstLineOf wsX8_firstLineOf) := goodIn_app (goodIn_of _ (by decide +kernel)) ggX8_dish_X8_firstLineOf
theorem dX8_dish_0 : decode cX8_dish 0 = .ok (.aload_n 0, 1) := by decide +kernel
theorem dX8_dish_1 : decode cX8_dish 1 = .ok (.getfield 10, 3) := by decide +kernel
theorem dX8_dish_4 : decode cX8_dish 4 = .ok (.getfield 72, 3) := by decide +kernel
theorem dX8_dish_7 : decode cX8_dish 7 = .ok (.iload_n 1, 1) := by decide +kernel
theorem dX8_dish_8 : decode cX8_dish 8 = .ok (.invokevirtual 91, 3) := by decide +kernel
theorem dX8_dish_11 : decode cX8_dish 11 = .ok (.ifCond .eq 13, 3) := by decide +kernel
theorem dX8_dish_14 : decode cX8_dish 14 = .ok (.iload_n 2, 1) := by decide +kernel
theorem dX8_dish_15 : decode cX8_dish 15 = .ok (.iconst 0, 1) := by decide +kernel
theorem dX8_dish_16 : decode cX8_dish 16 = .ok (.bipush 8, 2) := by decide +kernel
theorem dX8_dish_18 : decode cX8_dish 18 = .ok (.invokestatic 117, 3) := by decide +kernel
theorem dX8_dish_21 : decode cX8_dish 21 = .ok (.ifCond .ne 5, 3) := by decide +kernel
theorem dX8_dish_24 : decode cX8_dish 24 = .ok (.iconst (-1), 1) := by decide +kernel
theorem dX8_dish_25 : decode cX8_dish 25 = .ok (.ireturn, 1) := by decide +kernel
theorem dX8_dish_26 : decode cX8_dish 26 = .ok (.iload_n 2, 1) := by decide +kernel
theorem dX8_dish_27 : decode cX8_dish 27 = .ok (.bipush 7, 2) := by decide +kernel
theorem dX8_dish_29 : decode cX8_dish 29 = .ok (.if_icmp .ge 16, 3) := by decide +kernel
theorem dX8_dish_32 : decode cX8_dish 32 = .ok (.aload_n 0, 1) := by decide +kernel
theorem dX8_dish_33 : decode cX8_dish 33 = .ok (.getfield 10, 3) := by decide +kernel
theorem dX8_dish_36 : decode cX8_dish 36 = .ok (.getfield 72, 3) := by decide +kernel
theorem dX8_dish_39 : decode cX8_dish 39 = .ok (.iload_n 1, 1) := by decide +kernel
theorem dX8_dish_40 : decode cX8_dish 40 = .ok (.iload_n 2, 1) := by decide +kernel
theorem dX8_dish_41 : decode cX8_dish 41 = .ok (.invokevirtual 102, 3) := by decide +kernel
theorem dX8_dish_44 : decode cX8_dish 44 = .ok (.ireturn, 1) := by decide +kernel
theorem dX8_dish_45 : decode cX8_dish 45 = .ok (.aload_n 0, 1) := by decide +kernel
theorem dX8_dish_46 : decode cX8_dish 46 = .ok (.invokevirtual 193, 3) := by decide +kernel
theorem dX8_dish_49 : decode cX8_dish 49 = .ok (.aload_n 0, 1) := by decide +kernel
theorem dX8_dish_50 : decode cX8_dish 50 = .ok (.getfield 40, 3) := by decide +kernel
theorem dX8_dish_53 : decode cX8_dish 53 = .ok (.getfield 230, 3) := by decide +kernel
theorem dX8_dish_56 : decode cX8_dish 56 = .ok (.iload_n 1, 1) := by decide +kernel
theorem dX8_dish_57 : decode cX8_dish 57 = .ok (.invokestatic 233, 3) := by decide +kernel
theorem dX8_dish_60 : decode cX8_dish 60 = .ok (.istore_n 3, 1) := by decide +kernel
theorem dX8_dish_61 : decode cX8_dish 61 = .ok (.iload_n 2, 1) := by decide +kernel
theorem dX8_dish_62 : decode cX8_dish 62 = .ok (.bipush 7, 2) := by decide +kernel
theorem dX8_dish_64 : decode cX8_dish 64 = .ok (.if_icmp .ne 30, 3) := by decide +kernel
theorem dX8_dish_67 : decode cX8_dish 67 = .ok (.iload_n 3, 1) := by decide +kernel
theorem dX8_dish_68 : decode cX8_dish 68 = .ok (.ifCond .eq 24, 3) := by decide +kernel
theorem dX8_dish_71 : decode cX8_dish 71 = .ok (.aload_n 0, 1) := by decide +kernel
theorem dX8_dish_72 : decode cX8_dish 72 = .ok (.getfield 10, 3) := by decide +kernel
theorem dX8_dish_75 : decode cX8_dish 75 = .ok (.getfield 72, 3) := by decide +kernel
theorem dX8_dish_78 : decode cX8_dish 78 = .ok (.iload_n 1, 1) := by decide +kernel
theorem dX8_dish_79 : decode cX8_dish 79 = .ok (.aload_n 0, 1) := by decide +kernel
theorem dX8_dish_80 : decode cX8_dish 80 = .ok (.getfield 40, 3) := by decide +kernel
theorem dX8_dish_83 : decode cX8_dish 83 = .ok (.getfield 202, 3) := by decide +kernel
theorem dX8_dish_86 : decode cX8_dish 86 = .ok (.invokevirtual 236, 3) := by decide +kernel
theorem dX8_dish_89 : decode cX8_dish 89 = .ok (.goto 4, 3) := by decide +kernel
theorem dX8_dish_92 : decode cX8_dish 92 = .ok (.iconst 0, 1) := by decide +kernel
theorem dX8_dish_93 : decode cX8_dish 93 = .ok (.ireturn, 1) := by decide +kernel
theorem dX8_dish_94 : decode cX8_dish 94 = .ok (.iload_n 3, 1) := by decide +kernel
theorem dX8_dish_95 : decode cX8_dish 95 = .ok (.ifCond .eq 11, 3) := by decide +kernel
theorem dX8_dish_98 : decode cX8_dish 98 = .ok (.aload_n 0, 1) := by decide +kernel
theorem dX8_dish_99 : decode cX8_dish 99 = .ok (.iload_n 1, 1) := by decide +kernel
theorem dX8_dish_100 : decode cX8_dish 100 = .ok (.invokevirtual 238, 3) := by decide +kernel
theorem dX8_dish_103 : decode cX8_dish 103 = .ok (.goto 5, 3) := by decide +kernel
theorem dX8_dish_106 : decode cX8_dish 106 = .ok (.bipush (-99), 2) := by decide +kernel
theorem dX8_dish_108 : decode cX8_dish 108 = .ok (.ireturn, 1) := by decide +kernel
set_option maxRecDepth 20000 in
theorem ggX8_line_X8_isSide : GoodIn wsX8_line wsX8_isSide := goodIn_r _ [8, 9, 10, 7, 11] (by decide +kernel) (by decide +kernel)
set_option maxRecDepth 20000 in
theorem gX8_line_X8_isSide : GoodIn wsX8_line (va_wsS RX8 121 yX8_isSide wsX8_isSide) := goodIn_app (goodIn_of _ (by decide +kernel)) ggX8_line_X8_isSide
set_option maxRecDepth 20000 in
theorem ggX8_line_X8_inRange : GoodIn wsX8_line wsX8_inRange := goodIn_r _ [11] (by decide +kernel) (by decide +kernel)
set_option maxRecDepth 20000 in
theorem gX8_line_X8_inRange : GoodIn wsX8_line (va_wsS RX8 117 yX8_inRange wsX8_inRange) := goodIn_app (goodIn_of _ (by decide +kernel)) ggX8_line_X8_inRange
set_option maxRecDepth 20000 in
theorem ggX8_line_X8_layCard : GoodIn wsX8_line wsX8_layCard := goodIn_r _ [15, 4, 3, 1, 16, 17, 18, 19, 20, 21, 22, 23, 24, 25, 26, 27, 28, 29, 30, 31, 32, 33, 34, 35, 36, 37, 38, 39, 40, 41, 42, 43, 44, 45, 46, 47, 48, 49, 50, 51, 52, 53, 54, 55, 56, 57, 58, 59, 60, 61, 62, 63, 64, 65, 66, 7, 67, 68, 69, 70, 71, 72, 73, 74, 75, 76, 77, 78, 79, 80, 81, 82, 83, 84, 85, 86, 87, 88, 89, 90, 91, 92, 93, 94, 95, 96, 97, 98, 99, 100, 101, 102, 103, 104, 105, 106, 107, 108, 109, 110, 111, 112, 113, 114, 115, 116, 117, 118, 119, 120, 121, 122, 123, 124, 125, 126, 127, 128, 129, 130, 131, 132, 133, 134, 135, 136, 137, 216, 217, 218, 219, 220, 221, 222, 223, 224, 225, 226, 227, 228, 229, 230, 231, 232, 233, 234, 235, 236, 237, 238, 239, 240, 241, 242, 243, 244] (by decide +kernel) (by decide +kernel)
set_option maxRecDepth 20000 in
theorem gX8_line_X8_layCard : GoodIn wsX8_line (wsV RX8 193 RX8 yX8_layCard wsX8_layCard) := goodIn_app (goodIn_of _ (by decide +kernel)) ggX8_line_X8_layCard
set_option maxRecDepth 20000 in
theorem ggX8_line_X1_linesOf : GoodIn wsX8_line wsX1_linesOf := goodIn_r _ [129, 130, 131, 132, 100, 133, 110, 240, 241, 242, 243, 244] (by decide +kernel) (by decide +kernel)
set_option maxRecDepth 20000 in
theorem gX8_line_X1_linesOf : GoodIn wsX8_line (wsV RX8 196 RX1 yX1_linesOf wsX1_linesOf) := goodIn_app (goodIn_of _ (by decide +kernel)) ggX8_line_X1_linesOf
set_option maxRecDepth 20000 in
theorem ggX8_line_X0_lay : GoodIn wsX8_line wsX0_lay := goodIn_r _ [143, 144, 145, 146, 114, 7, 115, 147, 148, 149, 142, 150, 151, 152, 153, 100, 154, 112, 130, 131, 132, 133, 110, 155, 156, 157, 158, 159, 160, 161, 162, 163, 164, 165, 166, 167, 44, 45, 19, 46, 47, 66, 67, 168, 49, 50, 51, 52, 169, 17, 18, 20, 21, 170, 80, 81, 82, 83, 84, 85, 86, 57, 87, 88, 89, 90, 91, 92, 93, 94, 95, 96, 171, 245, 246, 247, 248, 249, 250, 251, 228, 229, 230, 231, 232, 233, 234, 235, 236, 237, 238, 239, 240, 241, 242, 243, 244] (by decide +kernel) (by decide +kernel)
set_option maxRecDepth 20000 in
theorem gX8_line_X0_lay : GoodIn wsX8_line (wsV RX8 241 RX0 yX0_lay wsX0_lay) := goodIn_app (goodIn_of _ (by decide +kernel)) ggX8_line_X0_lay
set_option maxRecDepth 20000 in
theorem ggX8_line_X0_blockAt : GoodIn wsX8_line wsX0_blockAt := goodIn_r _ [175, 144, 161, 162, 10, 7, 11, 245, 246, 247, 248, 249, 250, 251] (by decide +kernel) (by decide +kernel)
set_option maxRecDepth 20000 in
theorem gX8_line_X0_blockAt : GoodIn wsX8_line (wsV RX8 245 RX0 yX0_blockAt wsX0_blockAt) := goodIn_app (goodIn_of _ (by decide +kernel)) ggX8_line_X0_blockAt
set_option maxRecDepth 20000 in
theorem ggX8_line_X0_kindOf : GoodIn wsX8_line wsX0_kindOf := goodIn_r _ [179, 159, 180, 181, 182, 142, 183, 144, 10, 7, 11, 245, 246, 247, 248, 249, 250, 251] (by decide +kernel) (by decide +kernel)
set_option maxRecDepth 20000 in
theorem gX8_line_X0_kindOf : GoodIn wsX8_line (wsV RX8 248 RX0 yX0_kindOf wsX0_kindOf) := goodIn_app (goodIn_of _ (by decide +kernel)) ggX8_line_X0_kindOf
set_option maxRecDepth 20000 in
theorem ggX8_line_X0_numberOf : GoodIn wsX8_line wsX0_numberOf := goodIn_r _ [187, 160, 180, 181, 182, 142, 183, 144, 10, 7, 11, 245, 246, 247, 248, 249, 250, 251] (by decide +kernel) (by decide +kernel)
set_option maxRecDepth 20000 in
theorem gX8_line_X0_numberOf : GoodIn wsX8_line (wsV RX8 251 RX0 yX0_numberOf wsX0_numberOf) := goodIn_app (goodIn_of _ (by decide +kernel)) ggX8_line_X0_numberOf
set_option maxRecDepth 20000 in
theorem ggX8_line_X0_startOf : GoodIn wsX8_line wsX0_startOf := goodIn_r _ [191, 161, 180, 181, 182, 142, 183, 144, 10, 7, 11, 245, 246, 247, 248, 249, 250, 251] (by decide +kernel) (by decide +kernel)
set_option maxRecDepth 20000 in
theorem gX8_line_X0_startOf : GoodIn wsX8_line (wsV RX8 254 RX0 yX0_startOf wsX0_startOf) := goodIn_app (goodIn_of _ (by decide +kernel)) ggX8_line_X0_startOf
set_option maxRecDepth 20000 in
theorem ggX8_line_X8_headingLine : GoodIn wsX8_line wsX8_headingLine := goodIn_r _ [195] (by decide +kernel) (by decide +kernel)
set_option maxRecDepth 20000 in
theorem gX8_line_X8_headingLine : GoodIn wsX8_line (wsV RX8 257 RX8 yX8_headingLine wsX8_headingLine) := goodIn_app (goodIn_of _ (by decide +kernel)) ggX8_line_X8_headingLine
set_option maxRecDepth 20000 in
theorem ggX8_line_X8_dishLine : GoodIn wsX8_line wsX8_dishLine := goodIn_r _ [199, 3, 200, 201, 34, 202, 203, 33, 35, 4, 16, 17, 18, 19, 20, 21, 204, 84, 85, 86, 57, 49, 50, 51, 52, 87, 88, 89, 90, 91, 92, 93, 205, 80, 81, 82, 83, 94, 95, 7, 96, 206, 216, 217, 218, 219, 220, 221, 222, 223, 224, 225, 226, 227, 232, 233, 234, 235, 236, 237, 238, 239, 228, 229, 230, 231] (by decide +kernel) (by decide +kernel)
set_option maxRecDepth 20000 in
theorem gX8_line_X8_dishLine : GoodIn wsX8_line (wsV RX8 261 RX8 yX8_dishLine wsX8_dishLine) := goodIn_app (goodIn_of _ (by decide +kernel)) ggX8_line_X8_dishLine
set_option maxRecDepth 20000 in
theorem ggX8_line_X8_keyLine : GoodIn wsX8_line wsX8_keyLine := goodIn_r _ [210, 4, 200, 201, 34, 202, 211, 212, 7, 213, 214, 66, 67, 215, 88, 89, 90, 91, 92, 93, 216, 217, 218, 219, 220, 221, 222, 223, 224, 232, 233, 234, 235, 236, 237, 238, 239] (by decide +kernel) (by decide +kernel)
set_option maxRecDepth 20000 in
theorem gX8_line_X8_keyLine : GoodIn wsX8_line (wsV RX8 264 RX8 yX8_keyLine wsX8_keyLine) := goodIn_app (goodIn_of _ (by decide +kernel)) ggX8_line_X8_keyLine
theorem dX8_line_0 : decode cX8_line 0 = .ok (.iload_n 1, 1) := by decide +kernel
theorem dX8_line_1 : decode cX8_line 1 = .ok (.invokestatic 121, 3) := by decide +kernel
theorem dX8_line_4 : decode cX8_line 4 = .ok (.ifCond .eq 16, 3) := by decide +kernel
theorem dX8_line_7 : decode cX8_line 7 = .ok (.iload_n 2, 1) := by decide +kernel
theorem dX8_line_8 : decode cX8_line 8 = .ok (.ifCond .lt 12, 3) := by decide +kernel
theorem dX8_line_11 : decode cX8_line 11 = .ok (.iload_n 3, 1) := by decide +kernel
theorem dX8_line_12 : decode cX8_line 12 = .ok (.iconst 0, 1) := by decide +kernel
theorem dX8_line_13 : decode cX8_line 13 = .ok (.iconst 5, 1) := by decide +kernel
theorem dX8_line_14 : decode cX8_line 14 = .ok (.invokestatic 117, 3) := by decide +kernel
theorem dX8_line_17 : decode cX8_line 17 = .ok (.ifCond .ne 5, 3) := by decide +kernel
theorem dX8_line_20 : decode cX8_line 20 = .ok (.iconst (-1), 1) := by decide +kernel
theorem dX8_line_21 : decode cX8_line 21 = .ok (.ireturn, 1) := by decide +kernel
theorem dX8_line_22 : decode cX8_line 22 = .ok (.aload_n 0, 1) := by decide +kernel
theorem dX8_line_23 : decode cX8_line 23 = .ok (.invokevirtual 193, 3) := by decide +kernel
theorem dX8_line_26 : decode cX8_line 26 = .ok (.iload_n 2, 1) := by decide +kernel
theorem dX8_line_27 : decode cX8_line 27 = .ok (.aload_n 0, 1) := by decide +kernel
theorem dX8_line_28 : decode cX8_line 28 = .ok (.getfield 47, 3) := by decide +kernel
theorem dX8_line_31 : decode cX8_line 31 = .ok (.iload_n 1, 1) := by decide +kernel
theorem dX8_line_32 : decode cX8_line 32 = .ok (.invokevirtual 196, 3) := by decide +kernel
theorem dX8_line_35 : decode cX8_line 35 = .ok (.if_icmp .lt 6, 3) := by decide +kernel
theorem dX8_line_38 : decode cX8_line 38 = .ok (.bipush (-99), 2) := by decide +kernel
theorem dX8_line_40 : decode cX8_line 40 = .ok (.ireturn, 1) := by decide +kernel
theorem dX8_line_41 : decode cX8_line 41 = .ok (.aload_n 0, 1) := by decide +kernel
theorem dX8_line_42 : decode cX8_line 42 = .ok (.getfield 57, 3) := by decide +kernel
theorem dX8_line_45 : decode cX8_line 45 = .ok (.aload_n 0, 1) := by decide +kernel
theorem dX8_line_46 : decode cX8_line 46 = .ok (.getfield 10, 3) := by decide +kernel
theorem dX8_line_49 : decode cX8_line 49 = .ok (.getfield 72, 3) := by decide +kernel
theorem dX8_line_52 : decode cX8_line 52 = .ok (.aload_n 0, 1) := by decide +kernel
theorem dX8_line_53 : decode cX8_line 53 = .ok (.getfield 40, 3) := by decide +kernel
theorem dX8_line_56 : decode cX8_line 56 = .ok (.aload_n 0, 1) := by decide +kernel
theorem dX8_line_57 : decode cX8_line 57 = .ok (.getfield 47, 3) := by decide +kernel
theorem dX8_line_60 : decode cX8_line 60 = .ok (.iload_n 1, 1) := by decide +kernel
theorem dX8_line_61 : decode cX8_line 61 = .ok (.invokevirtual 241, 3) := by decide +kernel
theorem dX8_line_64 : decode cX8_line 64 = .ok (.aload_n 0, 1) := by decide +kernel
theorem dX8_line_65 : decode cX8_line 65 = .ok (.getfield 57, 3) := by decide +kernel
theorem dX8_line_68 : decode cX8_line 68 = .ok (.iload_n 2, 1) := by decide +kernel
theorem dX8_line_69 : decode cX8_line 69 = .ok (.invokevirtual 245, 3) := by decide +kernel
theorem dX8_line_72 : decode cX8_line 72 = .ok (.istore 4, 2) := by decide +kernel
theorem dX8_line_74 : decode cX8_line 74 = .ok (.aload_n 0, 1) := by decide +kernel
theorem dX8_line_75 : decode cX8_line 75 = .ok (.getfield 57, 3) := by decide +kernel
theorem dX8_line_78 : decode cX8_line 78 = .ok (.iload 4, 2) := by decide +kernel
theorem dX8_line_80 : decode cX8_line 80 = .ok (.invokevirtual 248, 3) := by decide +kernel
theorem dX8_line_83 : decode cX8_line 83 = .ok (.istore 5, 2) := by decide +kernel
theorem dX8_line_85 : decode cX8_line 85 = .ok (.aload_n 0, 1) := by decide +kernel
theorem dX8_line_86 : decode cX8_line 86 = .ok (.getfield 57, 3) := by decide +kernel
theorem dX8_line_89 : decode cX8_line 89 = .ok (.iload 4, 2) := by decide +kernel
theorem dX8_line_91 : decode cX8_line 91 = .ok (.invokevirtual 251, 3) := by decide +kernel
theorem dX8_line_94 : decode cX8_line 94 = .ok (.istore 6, 2) := by decide +kernel
theorem dX8_line_96 : decode cX8_line 96 = .ok (.iload_n 2, 1) := by decide +kernel
theorem dX8_line_97 : decode cX8_line 97 = .ok (.aload_n 0, 1) := by decide +kernel
theorem dX8_line_98 : decode cX8_line 98 = .ok (.getfield 57, 3) := by decide +kernel
theorem dX8_line_101 : decode cX8_line 101 = .ok (.iload 4, 2) := by decide +kernel
theorem dX8_line_103 : decode cX8_line 103 = .ok (.invokevirtual 254, 3) := by decide +kernel
theorem dX8_line_106 : decode cX8_line 106 = .ok (.isub, 1) := by decide +kernel
theorem dX8_line_107 : decode cX8_line 107 = .ok (.istore 7, 2) := by decide +kernel
theorem dX8_line_109 : decode cX8_line 109 = .ok (.iload_n 3, 1) := by decide +kernel
theorem dX8_line_110 : decode cX8_line 110 = .ok (.ifCond .ne 6, 3) := by decide +kernel
theorem dX8_line_113 : decode cX8_line 113 = .ok (.iload 5, 2) := by decide +kernel
theorem dX8_line_115 : decode cX8_line 115 = .ok (.ireturn, 1) := by decide +kernel
theorem dX8_line_116 : decode cX8_line 116 = .ok (.iload 5, 2) := by decide +kernel
theorem dX8_line_118 : decode cX8_line 118 = .ok (.tableswitch 54 1 3 #[26, 36, 46], 26) := by decide +kernel
theorem dX8_line_144 : decode cX8_line 144 = .ok (.aload_n 0, 1) := by decide +kernel
theorem dX8_line_145 : decode cX8_line 145 = .ok (.iload 6, 2) := by decide +kernel
theorem dX8_line_147 : decode cX8_line 147 = .ok (.iload 7, 2) := by decide +kernel
theorem dX8_line_149 : decode cX8_line 149 = .ok (.iload_n 3, 1) := by decide +kernel
theorem dX8_line_150 : decode cX8_line 150 = .ok (.invokevirtual 257, 3) := by decide +kernel
theorem dX8_line_153 : decode cX8_line 153 = .ok (.ireturn, 1) := by decide +kernel
theorem dX8_line_154 : decode cX8_line 154 = .ok (.aload_n 0, 1) := by decide +kernel
theorem dX8_line_155 : decode cX8_line 155 = .ok (.iload 6, 2) := by decide +kernel
theorem dX8_line_157 : decode cX8_line 157 = .ok (.iload 7, 2) := by decide +kernel
theorem dX8_line_159 : decode cX8_line 159 = .ok (.iload_n 3, 1) := by decide +kernel
theorem dX8_line_160 : decode cX8_line 160 = .ok (.invokevirtual 261, 3) := by decide +kernel
theorem dX8_line_163 : decode cX8_line 163 = .ok (.ireturn, 1) := by decide +kernel
theorem dX8_line_164 : decode cX8_line 164 = .ok (.aload_n 0, 1) := by decide +kernel
theorem dX8_line_165 : decode cX8_line 165 = .ok (.iload 7, 2) := by decide +kernel
theorem dX8_line_167 : decode cX8_line 167 = .ok (.iload_n 3, 1) := by decide +kernel
theorem dX8_line_168 : decode cX8_line 168 = .ok (.invokevirtual 264, 3) := by decide +kernel
theorem dX8_line_171 : decode cX8_line 171 = .ok (.ireturn, 1) := by decide +kernel
theorem dX8_line_172 : decode cX8_line 172 = .ok (.iload_n 3, 1) := by decide +kernel
theorem dX8_line_173 : decode cX8_line 173 = .ok (.iconst 1, 1) := by decide +kernel
theorem dX8_line_174 : decode cX8_line 174 = .ok (.if_icmp .ne 8, 3) := by decide +kernel
theorem dX8_line_177 : decode cX8_line 177 = .ok (.bipush (-99), 2) := by decide +kernel
theorem dX8_line_179 : decode cX8_line 179 = .ok (.goto 4, 3) := by decide +kernel
theorem dX8_line_182 : decode cX8_line 182 = .ok (.iconst 0, 1) := by decide +kernel
theorem dX8_line_183 : decode cX8_line 183 = .ok (.ireturn, 1) := by decide +kernel
set_option maxRecDepth 20000 in
theorem ggX8_account_X8_isSide : GoodIn wsX8_account wsX8_isSide := goodIn_r _ [5, 6, 7, 4, 8] (by decide +kernel) (by decide +kernel)
set_option maxRecDepth 20000 in
theorem gX8_account_X8_isSide : GoodIn wsX8_account (va_wsS RX8 121 yX8_isSide wsX8_isSide) := goodIn_app (goodIn_of _ (by decide +kernel)) ggX8_account_X8_isSide
set_option maxRecDepth 20000 in
theorem ggX8_account_X8_inRange : GoodIn wsX8_account wsX8_inRange := goodIn_r _ [8] (by decide +kernel) (by decide +kernel)
set_option maxRecDepth 20000 in
theorem gX8_account_X8_inRange : GoodIn wsX8_account (va_wsS RX8 117 yX8_inRange wsX8_inRange) := goodIn_app (goodIn_of _ (by decide +kernel)) ggX8_account_X8_inRange
set_option maxRecDepth 20000 in
theorem ggX8_account_X8_layCard : GoodIn wsX8_account wsX8_layCard := goodIn_r _ [12, 13, 14, 1, 15, 16, 17, 18, 19, 20, 21, 22, 23, 24, 25, 26, 27, 28, 29, 30, 31, 32, 33, 34, 35, 36, 37, 38, 39, 40, 41, 42, 43, 44, 45, 46, 47, 48, 49, 50, 51, 52, 53, 54, 55, 56, 57, 58, 59, 60, 61, 62, 63, 64, 65, 4, 66, 67, 68, 69, 70, 71, 72, 73, 74, 75, 76, 77, 78, 79, 80, 81, 82, 83, 84, 85, 86, 87, 88, 89, 90, 91, 92, 93, 94, 95, 96, 97, 98, 99, 100, 101, 102, 103, 104, 105, 106, 107, 108, 109, 110, 111, 112, 113, 114, 115, 116, 117, 118, 119, 120, 121, 122, 123, 124, 125, 126, 127, 128, 129, 130, 131, 132, 133, 134, 135, 136, 138, 139, 140, 141, 142, 143, 144, 145, 146, 147, 148, 149, 150, 151, 152, 153, 154, 155, 156, 157, 158, 159, 160, 161, 162, 163, 164, 165, 166] (by decide +kernel) (by decide +kernel)
set_option maxRecDepth 20000 in
theorem gX8_account_X8_layCard : GoodIn wsX8_account (wsV RX8 193 RX8 yX8_layCard wsX8_layCard) := goodIn_app (goodIn_of _ (by decide +kernel)) ggX8_account_X8_layCard
set_option maxRecDepth 20000 in
theorem ggX8_account_X1_partOf : GoodIn wsX8_account wsX1_partOf := goodIn_r _ [132, 109, 162, 163, 164, 165, 166] (by decide +kernel) (by decide +kernel)
set_option maxRecDepth 20000 in
theorem gX8_account_X1_partOf : GoodIn wsX8_account (wsV RX8 267 RX1 yX1_partOf wsX1_partOf) := goodIn_app (goodIn_of _ (by decide +kernel)) ggX8_account_X1_partOf
theorem dX8_account_0 : decode cX8_account 0 = .ok (.iload_n 1, 1) := by decide +kernel
theorem dX8_account_1 : decode cX8_account 1 = .ok (.invokestatic 121, 3) := by decide +kernel
theorem dX8_account_4 : decode cX8_account 4 = .ok (.ifCond .eq 12, 3) := by decide +kernel
theorem dX8_account_7 : decode cX8_account 7 = .ok (.iload_n 2, 1) := by decide +kernel
theorem dX8_account_8 : decode cX8_account 8 = .ok (.iconst 0, 1) := by decide +kernel
theorem dX8_account_9 : decode cX8_account 9 = .ok (.iconst 4, 1) := by decide +kernel
theorem dX8_account_10 : decode cX8_account 10 = .ok (.invokestatic 117, 3) := by decide +kernel
theorem dX8_account_13 : decode cX8_account 13 = .ok (.ifCond .ne 5, 3) := by decide +kernel
theorem dX8_account_16 : decode cX8_account 16 = .ok (.iconst (-1), 1) := by decide +kernel
theorem dX8_account_17 : decode cX8_account 17 = .ok (.ireturn, 1) := by decide +kernel
theorem dX8_account_18 : decode cX8_account 18 = .ok (.aload_n 0, 1) := by decide +kernel
theorem dX8_account_19 : decode cX8_account 19 = .ok (.invokevirtual 193, 3) := by decide +kernel
theorem dX8_account_22 : decode cX8_account 22 = .ok (.aload_n 0, 1) := by decide +kernel
theorem dX8_account_23 : decode cX8_account 23 = .ok (.getfield 47, 3) := by decide +kernel
theorem dX8_account_26 : decode cX8_account 26 = .ok (.iload_n 1, 1) := by decide +kernel
theorem dX8_account_27 : decode cX8_account 27 = .ok (.iload_n 2, 1) := by decide +kernel
theorem dX8_account_28 : decode cX8_account 28 = .ok (.invokevirtual 267, 3) := by decide +kernel
theorem dX8_account_31 : decode cX8_account 31 = .ok (.ireturn, 1) := by decide +kernel
set_option maxRecDepth 20000 in
theorem ggX8_why_X3_hasDish : GoodIn wsX8_why wsX3_hasDish := goodIn_r _ [7, 8, 9, 10, 11, 119, 120, 121, 122] (by decide +kernel) (by decide +kernel)
set_option maxRecDepth 20000 in
theorem gX8_why_X3_hasDish : GoodIn wsX8_why (wsV RX8 91 RX3 yX3_hasDish wsX3_hasDish) := goodIn_app (goodIn_of _ (by decide +kernel)) ggX8_why_X3_hasDish
set_option maxRecDepth 20000 in
theorem ggX8_why_X3_isOffered : GoodIn wsX8_why wsX3_isOffered := goodIn_r _ [15, 16, 17, 18, 6, 19, 20, 119, 120, 121, 122] (by decide +kernel) (by decide +kernel)
set_option maxRecDepth 20000 in
theorem gX8_why_X3_isOffered : GoodIn wsX8_why (wsV RX8 270 RX3 yX3_isOffered wsX3_isOffered) := goodIn_app (goodIn_of _ (by decide +kernel)) ggX8_why_X3_isOffered
set_option maxRecDepth 20000 in
theorem ggX8_why_X3_setting : GoodIn wsX8_why wsX3_setting := goodIn_r _ [24, 25, 119, 120, 121, 122] (by decide +kernel) (by decide +kernel)
set_option maxRecDepth 20000 in
theorem gX8_why_X3_setting : GoodIn wsX8_why (wsV RX8 109 RX3 yX3_setting wsX3_setting) := goodIn_app (goodIn_of _ (by decide +kernel)) ggX8_why_X3_setting
set_option maxRecDepth 20000 in
theorem ggX8_why_X3_isInSeason : GoodIn wsX8_why wsX3_isInSeason := goodIn_r _ [29, 16, 17, 18, 6, 19, 20, 30, 10, 31, 119, 120, 121, 122] (by decide +kernel) (by decide +kernel)
set_option maxRecDepth 20000 in
theorem gX8_why_X3_isInSeason : GoodIn wsX8_why (wsV RX8 273 RX3 yX3_isInSeason wsX3_isInSeason) := goodIn_app (goodIn_of _ (by decide +kernel)) ggX8_why_X3_isInSeason
set_option maxRecDepth 20000 in
theorem ggX8_why_X3_suits : GoodIn wsX8_why wsX3_suits := goodIn_r _ [35, 16, 17, 18, 6, 19, 20, 119, 120, 121, 122] (by decide +kernel) (by decide +kernel)
set_option maxRecDepth 20000 in
theorem gX8_why_X3_suits : GoodIn wsX8_why (wsV RX8 276 RX3 yX3_suits wsX3_suits) := goodIn_app (goodIn_of _ (by decide +kernel)) ggX8_why_X3_suits
set_option maxRecDepth 20000 in
theorem ggX8_why_X8_findPrinted : GoodIn wsX8_why wsX8_findPrinted := goodIn_r _ [39, 2, 21, 22, 23, 6, 24, 25, 40, 41, 42, 43, 44, 45, 46, 47, 48, 49, 50, 51, 52, 53, 54, 55, 56, 57, 58, 59, 60, 61, 62, 63, 64, 8, 65, 17, 18, 19, 20, 66, 13, 14, 15, 16, 67, 68, 69, 70, 71, 27, 28, 29, 30, 10, 31, 72, 33, 34, 35, 73, 74, 75, 76, 77, 78, 79, 80, 81, 82, 83, 84, 85, 86, 87, 88, 89, 90, 91, 92, 93, 94, 95, 96, 97, 99, 100, 101, 102, 103, 104, 105, 106, 107, 119, 120, 121, 122, 111, 112, 113, 114, 115, 116, 117, 118] (by decide +kernel) (by decide +kernel)
set_option maxRecDepth 20000 in
theorem gX8_why_X8_findPrinted : GoodIn wsX8_why (wsV RX8 134 RX8 yX8_findPrinted wsX8_findPrinted) := goodIn_app (goodIn_of _ (by decide +kernel)) ggX8_why_X8_findPrinted
set_option maxRecDepth 20000 in
theorem ggX8_why_X8_has : GoodIn wsX8_why wsX8_has := goodIn_r _ [31] (by decide +kernel) (by decide +kernel)
set_option maxRecDepth 20000 in
theorem gX8_why_X8_has : GoodIn wsX8_why (va_wsS RX8 233 yX8_has wsX8_has) := goodIn_app (goodIn_of _ (by decide +kernel)) ggX8_why_X8_has
theorem dX8_why_0 : decode cX8_why 0 = .ok (.aload_n 0, 1) := by decide +kernel
theorem dX8_why_1 : decode cX8_why 1 = .ok (.getfield 10, 3) := by decide +kernel
theorem dX8_why_4 : decode cX8_why 4 = .ok (.getfield 72, 3) := by decide +kernel
theorem dX8_why_7 : decode cX8_why 7 = .ok (.iload_n 1, 1) := by decide +kernel
theorem dX8_why_8 : decode cX8_why 8 = .ok (.invokevirtual 91, 3) := by decide +kernel
theorem dX8_why_11 : decode cX8_why 11 = .ok (.ifCond .ne 5, 3) := by decide +kernel
theorem dX8_why_14 : decode cX8_why 14 = .ok (.iconst (-1), 1) := by decide +kernel
theorem dX8_why_15 : decode cX8_why 15 = .ok (.ireturn, 1) := by decide +kernel
theorem dX8_why_16 : decode cX8_why 16 = .ok (.aload_n 0, 1) := by decide +kernel
theorem dX8_why_17 : decode cX8_why 17 = .ok (.getfield 10, 3) := by decide +kernel
theorem dX8_why_20 : decode cX8_why 20 = .ok (.getfield 72, 3) := by decide +kernel
theorem dX8_why_23 : decode cX8_why 23 = .ok (.iload_n 1, 1) := by decide +kernel
theorem dX8_why_24 : decode cX8_why 24 = .ok (.invokevirtual 270, 3) := by decide +kernel
theorem dX8_why_27 : decode cX8_why 27 = .ok (.ifCond .ne 5, 3) := by decide +kernel
theorem dX8_why_30 : decode cX8_why 30 = .ok (.iconst 1, 1) := by decide +kernel
theorem dX8_why_31 : decode cX8_why 31 = .ok (.ireturn, 1) := by decide +kernel
theorem dX8_why_32 : decode cX8_why 32 = .ok (.aload_n 0, 1) := by decide +kernel
theorem dX8_why_33 : decode cX8_why 33 = .ok (.getfield 10, 3) := by decide +kernel
theorem dX8_why_36 : decode cX8_why 36 = .ok (.getfield 72, 3) := by decide +kernel
theorem dX8_why_39 : decode cX8_why 39 = .ok (.iload_n 1, 1) := by decide +kernel
theorem dX8_why_40 : decode cX8_why 40 = .ok (.aload_n 0, 1) := by decide +kernel
theorem dX8_why_41 : decode cX8_why 41 = .ok (.getfield 10, 3) := by decide +kernel
theorem dX8_why_44 : decode cX8_why 44 = .ok (.getfield 72, 3) := by decide +kernel
theorem dX8_why_47 : decode cX8_why 47 = .ok (.iconst 0, 1) := by decide +kernel
theorem dX8_why_48 : decode cX8_why 48 = .ok (.invokevirtual 109, 3) := by decide +kernel
theorem dX8_why_51 : decode cX8_why 51 = .ok (.invokevirtual 273, 3) := by decide +kernel
theorem dX8_why_54 : decode cX8_why 54 = .ok (.ifCond .ne 5, 3) := by decide +kernel
theorem dX8_why_57 : decode cX8_why 57 = .ok (.iconst 2, 1) := by decide +kernel
theorem dX8_why_58 : decode cX8_why 58 = .ok (.ireturn, 1) := by decide +kernel
theorem dX8_why_59 : decode cX8_why 59 = .ok (.aload_n 0, 1) := by decide +kernel
theorem dX8_why_60 : decode cX8_why 60 = .ok (.getfield 10, 3) := by decide +kernel
theorem dX8_why_63 : decode cX8_why 63 = .ok (.getfield 72, 3) := by decide +kernel
theorem dX8_why_66 : decode cX8_why 66 = .ok (.iload_n 1, 1) := by decide +kernel
theorem dX8_why_67 : decode cX8_why 67 = .ok (.aload_n 0, 1) := by decide +kernel
theorem dX8_why_68 : decode cX8_why 68 = .ok (.getfield 10, 3) := by decide +kernel
theorem dX8_why_71 : decode cX8_why 71 = .ok (.getfield 72, 3) := by decide +kernel
theorem dX8_why_74 : decode cX8_why 74 = .ok (.iconst 5, 1) := by decide +kernel
theorem dX8_why_75 : decode cX8_why 75 = .ok (.invokevirtual 109, 3) := by decide +kernel
theorem dX8_why_78 : decode cX8_why 78 = .ok (.invokevirtual 276, 3) := by decide +kernel
theorem dX8_why_81 : decode cX8_why 81 = .ok (.ifCond .ne 5, 3) := by decide +kernel
theorem dX8_why_84 : decode cX8_why 84 = .ok (.iconst 3, 1) := by decide +kernel
theorem dX8_why_85 : decode cX8_why 85 = .ok (.ireturn, 1) := by decide +kernel
theorem dX8_why_86 : decode cX8_why 86 = .ok (.aload_n 0, 1) := by decide +kernel
theorem dX8_why_87 : decode cX8_why 87 = .ok (.aload_n 0, 1) := by decide +kernel
theorem dX8_why_88 : decode cX8_why 88 = .ok (.getfield 10, 3) := by decide +kernel
theorem dX8_why_91 : decode cX8_why 91 = .ok (.getfield 72, 3) := by decide +kernel
theorem dX8_why_94 : decode cX8_why 94 = .ok (.invokevirtual 134, 3) := by decide +kernel
theorem dX8_why_97 : decode cX8_why 97 = .ok (.aload_n 0, 1) := by decide +kernel
theorem dX8_why_98 : decode cX8_why 98 = .ok (.getfield 40, 3) := by decide +kernel
theorem dX8_why_101 : decode cX8_why 101 = .ok (.getfield 230, 3) := by decide +kernel
theorem dX8_why_104 : decode cX8_why 104 = .ok (.iload_n 1, 1) := by decide +kernel
theorem dX8_why_105 : decode cX8_why 105 = .ok (.invokestatic 233, 3) := by decide +kernel
theorem dX8_why_108 : decode cX8_why 108 = .ok (.ifCond .eq 7, 3) := by decide +kernel
theorem dX8_why_111 : decode cX8_why 111 = .ok (.iconst 0, 1) := by decide +kernel
theorem dX8_why_112 : decode cX8_why 112 = .ok (.goto 4, 3) := by decide +kernel
theorem dX8_why_115 : decode cX8_why 115 = .ok (.iconst 4, 1) := by decide +kernel
theorem dX8_why_116 : decode cX8_why 116 = .ok (.ireturn, 1) := by decide +kernel
set_option maxRecDepth 20000 in
theorem ggX8_replacement_X3_hasDish : GoodIn wsX8_replacement wsX3_hasDish := goodIn_r _ [8, 9, 10, 11, 12, 142, 143, 144, 145] (by decide +kernel) (by decide +kernel)
set_option maxRecDepth 20000 in
theorem gX8_replacement_X3_hasDish : GoodIn wsX8_replacement (wsV RX8 91 RX3 yX3_hasDish wsX3_hasDish) := goodIn_app (goodIn_of _ (by decide +kernel)) ggX8_replacement_X3_hasDish
set_option maxRecDepth 20000 in
theorem ggX8_replacement_X8_findPrinted : GoodIn wsX8_replacement wsX8_findPrinted := goodIn_r _ [16, 2, 17, 18, 19, 7, 20, 21, 22, 23, 24, 25, 26, 27, 28, 29, 30, 31, 32, 33, 34, 35, 36, 37, 38, 39, 40, 41, 42, 43, 44, 45, 46, 9, 47, 48, 49, 50, 51, 52, 53, 54, 55, 56, 57, 58, 59, 60, 61, 62, 63, 64, 65, 11, 66, 67, 68, 69, 70, 71, 72, 73, 74, 75, 76, 77, 78, 79, 80, 81, 82, 83, 84, 85, 86, 87, 88, 89, 90, 91, 92, 93, 94, 95, 122, 123, 124, 125, 126, 127, 128, 129, 130, 142, 143, 144, 145, 134, 135, 136, 137, 138, 139, 140, 141] (by decide +kernel) (by decide +kernel)
set_option maxRecDepth 20000 in
theorem gX8_replacement_X8_findPrinted : GoodIn wsX8_replacement (wsV RX8 134 RX8 yX8_findPrinted wsX8_findPrinted) := goodIn_app (goodIn_of _ (by decide +kernel)) ggX8_replacement_X8_findPrinted
set_option maxRecDepth 20000 in
theorem ggX8_replacement_X8_has : GoodIn wsX8_replacement wsX8_has := goodIn_r _ [66] (by decide +kernel) (by decide +kernel)
set_option maxRecDepth 20000 in
theorem gX8_replacement_X8_has : GoodIn wsX8_replacement (va_wsS RX8 233 yX8_has wsX8_has) := goodIn_app (goodIn_of _ (by decide +kernel)) ggX8_replacement_X8_has
set_option maxRecDepth 20000 in
theorem ggX8_replacement_X3_copyFrom : GoodIn wsX8_replacement wsX3_copyFrom := goodIn_r _ [100, 51, 101, 102, 103, 104, 21, 9, 105, 142, 143, 144, 145] (by decide +kernel) (by decide +kernel)
set_option maxRecDepth 20000 in
theorem gX8_replacement_X3_copyFrom : GoodIn wsX8_replacement (wsV RX8 186 RX3 yX3_copyFrom wsX3_copyFrom) := goodIn_app (goodIn_of _ (by decide +kernel)) ggX8_replacement_X3_copyFrom
set_option maxRecDepth 20000 in
theorem ggX8_replacement_X3_change : GoodIn wsX8_replacement wsX3_change := goodIn_r _ [109, 51, 110, 5, 6, 7, 8, 9, 10, 11, 12, 111, 112, 113, 114, 115, 142, 143, 144, 145] (by decide +kernel) (by decide +kernel)
set_option maxRecDepth 20000 in
theorem gX8_replacement_X3_change : GoodIn wsX8_replacement (wsV RX8 87 RX3 yX3_change wsX3_change) := goodIn_app (goodIn_of _ (by decide +kernel)) ggX8_replacement_X3_change
set_option maxRecDepth 20000 in
theorem ggX8_replacement_X8_smallestIn : GoodIn wsX8_replacement wsX8_smallestIn := goodIn_r _ [118, 119, 120, 11, 121, 96, 65, 66] (by decide +kernel) (by decide +kernel)
set_option maxRecDepth 20000 in
theorem gX8_replacement_X8_smallestIn : GoodIn wsX8_replacement (va_wsS RX8 279 yX8_smallestIn wsX8_smallestIn) := goodIn_app (goodIn_of _ (by decide +kernel)) ggX8_replacement_X8_smallestIn
theorem dX8_replacement_0 : decode cX8_replacement 0 = .ok (.aload_n 0, 1) := by decide +kernel
theorem dX8_replacement_1 : decode cX8_replacement 1 = .ok (.getfield 10, 3) := by decide +kernel
theorem dX8_replacement_4 : decode cX8_replacement 4 = .ok (.getfield 72, 3) := by decide +kernel
theorem dX8_replacement_7 : decode cX8_replacement 7 = .ok (.iload_n 1, 1) := by decide +kernel
theorem dX8_replacement_8 : decode cX8_replacement 8 = .ok (.invokevirtual 91, 3) := by decide +kernel
theorem dX8_replacement_11 : decode cX8_replacement 11 = .ok (.ifCond .ne 5, 3) := by decide +kernel
theorem dX8_replacement_14 : decode cX8_replacement 14 = .ok (.iconst (-1), 1) := by decide +kernel
theorem dX8_replacement_15 : decode cX8_replacement 15 = .ok (.ireturn, 1) := by decide +kernel
theorem dX8_replacement_16 : decode cX8_replacement 16 = .ok (.aload_n 0, 1) := by decide +kernel
theorem dX8_replacement_17 : decode cX8_replacement 17 = .ok (.aload_n 0, 1) := by decide +kernel
theorem dX8_replacement_18 : decode cX8_replacement 18 = .ok (.getfield 10, 3) := by decide +kernel
theorem dX8_replacement_21 : decode cX8_replacement 21 = .ok (.getfield 72, 3) := by decide +kernel
theorem dX8_replacement_24 : decode cX8_replacement 24 = .ok (.invokevirtual 134, 3) := by decide +kernel
theorem dX8_replacement_27 : decode cX8_replacement 27 = .ok (.aload_n 0, 1) := by decide +kernel
theorem dX8_replacement_28 : decode cX8_replacement 28 = .ok (.getfield 40, 3) := by decide +kernel
theorem dX8_replacement_31 : decode cX8_replacement 31 = .ok (.getfield 230, 3) := by decide +kernel
theorem dX8_replacement_34 : decode cX8_replacement 34 = .ok (.iload_n 1, 1) := by decide +kernel
theorem dX8_replacement_35 : decode cX8_replacement 35 = .ok (.invokestatic 233, 3) := by decide +kernel
theorem dX8_replacement_38 : decode cX8_replacement 38 = .ok (.ifCond .ne 6, 3) := by decide +kernel
theorem dX8_replacement_41 : decode cX8_replacement 41 = .ok (.bipush (-2), 2) := by decide +kernel
theorem dX8_replacement_43 : decode cX8_replacement 43 = .ok (.ireturn, 1) := by decide +kernel
theorem dX8_replacement_44 : decode cX8_replacement 44 = .ok (.aload_n 0, 1) := by decide +kernel
theorem dX8_replacement_45 : decode cX8_replacement 45 = .ok (.getfield 40, 3) := by decide +kernel
theorem dX8_replacement_48 : decode cX8_replacement 48 = .ok (.getfield 230, 3) := by decide +kernel
theorem dX8_replacement_51 : decode cX8_replacement 51 = .ok (.istore_n 2, 1) := by decide +kernel
theorem dX8_replacement_52 : decode cX8_replacement 52 = .ok (.aload_n 0, 1) := by decide +kernel
theorem dX8_replacement_53 : decode cX8_replacement 53 = .ok (.getfield 26, 3) := by decide +kernel
theorem dX8_replacement_56 : decode cX8_replacement 56 = .ok (.aload_n 0, 1) := by decide +kernel
theorem dX8_replacement_57 : decode cX8_replacement 57 = .ok (.getfield 10, 3) := by decide +kernel
theorem dX8_replacement_60 : decode cX8_replacement 60 = .ok (.getfield 72, 3) := by decide +kernel
theorem dX8_replacement_63 : decode cX8_replacement 63 = .ok (.invokevirtual 186, 3) := by decide +kernel
theorem dX8_replacement_66 : decode cX8_replacement 66 = .ok (.aload_n 0, 1) := by decide +kernel
theorem dX8_replacement_67 : decode cX8_replacement 67 = .ok (.getfield 26, 3) := by decide +kernel
theorem dX8_replacement_70 : decode cX8_replacement 70 = .ok (.iload_n 1, 1) := by decide +kernel
theorem dX8_replacement_71 : decode cX8_replacement 71 = .ok (.bipush 6, 2) := by decide +kernel
theorem dX8_replacement_73 : decode cX8_replacement 73 = .ok (.iconst 0, 1) := by decide +kernel
theorem dX8_replacement_74 : decode cX8_replacement 74 = .ok (.invokevirtual 87, 3) := by decide +kernel
theorem dX8_replacement_77 : decode cX8_replacement 77 = .ok (.aload_n 0, 1) := by decide +kernel
theorem dX8_replacement_78 : decode cX8_replacement 78 = .ok (.aload_n 0, 1) := by decide +kernel
theorem dX8_replacement_79 : decode cX8_replacement 79 = .ok (.getfield 26, 3) := by decide +kernel
theorem dX8_replacement_82 : decode cX8_replacement 82 = .ok (.invokevirtual 134, 3) := by decide +kernel
theorem dX8_replacement_85 : decode cX8_replacement 85 = .ok (.aload_n 0, 1) := by decide +kernel
theorem dX8_replacement_86 : decode cX8_replacement 86 = .ok (.getfield 40, 3) := by decide +kernel
theorem dX8_replacement_89 : decode cX8_replacement 89 = .ok (.getfield 230, 3) := by decide +kernel
theorem dX8_replacement_92 : decode cX8_replacement 92 = .ok (.iload_n 2, 1) := by decide +kernel
theorem dX8_replacement_93 : decode cX8_replacement 93 = .ok (.iconst (-1), 1) := by decide +kernel
theorem dX8_replacement_94 : decode cX8_replacement 94 = .ok (.ixor, 1) := by decide +kernel
theorem dX8_replacement_95 : decode cX8_replacement 95 = .ok (.iand, 1) := by decide +kernel
theorem dX8_replacement_96 : decode cX8_replacement 96 = .ok (.invokestatic 279, 3) := by decide +kernel
theorem dX8_replacement_99 : decode cX8_replacement 99 = .ok (.ireturn, 1) := by decide +kernel
set_option maxRecDepth 20000 in
theorem ggX8_evenSeasons_X3_setting : GoodIn wsX8_evenSeasons wsX3_setting := goodIn_r _ [8, 9, 143, 144, 145, 146] (by decide +kernel) (by decide +kernel)
set_option maxRecDepth 20000 in
theorem gX8_evenSeasons_X3_setting : GoodIn wsX8_evenSeasons (wsV RX8 109 RX3 yX3_setting wsX3_setting) := goodIn_app (goodIn_of _ (by decide +kernel)) ggX8_evenSeasons_X3_setting
set_option maxRecDepth 20000 in
theorem ggX8_evenSeasons_X4_find : GoodIn wsX8_evenSeasons wsX4_find := goodIn_r _ [14, 15, 16, 17, 18, 19, 20, 21, 22, 23, 24, 25, 26, 27, 13, 28, 29, 30, 31, 32, 33, 7, 34, 35, 36, 37, 38, 39, 40, 41, 42, 43, 44, 45, 46, 47, 48, 49, 50, 51, 52, 53, 54, 55, 56, 57, 58, 59, 60, 61, 5, 6, 8, 9, 62, 63, 64, 65, 66, 67, 68, 69, 70, 71, 72, 73, 74, 75, 76, 77, 78, 79, 80, 81, 82, 83, 84, 85, 147, 148, 149, 150, 151, 152, 153, 154, 143, 144, 145, 146] (by decide +kernel) (by decide +kernel)
set_option maxRecDepth 20000 in
theorem gX8_evenSeasons_X4_find : GoodIn wsX8_evenSeasons (wsV RX8 282 RX4 yX4_find wsX4_find) := goodIn_app (goodIn_of _ (by decide +kernel)) ggX8_evenSeasons_X4_find
set_option maxRecDepth 20000 in
theorem ggX8_evenSeasons_X1_lay : GoodIn wsX8_evenSeasons wsX1_lay := goodIn_r _ [90, 91, 92, 22, 93, 94, 95, 96, 97, 89, 98, 99, 100, 101, 102, 103, 55, 104, 105, 5, 6, 7, 8, 9, 106, 107, 108, 109, 110, 77, 78, 79, 80, 81, 82, 111, 112, 113, 114, 115, 116, 117, 118, 119, 120, 121, 122, 84, 85, 123, 124, 125, 126, 147, 148, 149, 150, 151, 152, 153, 154, 155, 156, 157, 158, 159, 143, 144, 145, 146] (by decide +kernel) (by decide +kernel)
set_option maxRecDepth 20000 in
theorem gX8_evenSeasons_X1_lay : GoodIn wsX8_evenSeasons (wsV RX8 285 RX1 yX1_lay wsX1_lay) := goodIn_app (goodIn_of _ (by decide +kernel)) ggX8_evenSeasons_X1_lay
set_option maxRecDepth 20000 in
theorem ggX8_evenSeasons_X1_isEven : GoodIn wsX8_evenSeasons wsX1_isEven := goodIn_r _ [130, 115, 116, 117, 89, 118, 119, 120, 121, 122, 99, 155, 156, 157, 158, 159] (by decide +kernel) (by decide +kernel)
set_option maxRecDepth 20000 in
theorem gX8_evenSeasons_X1_isEven : GoodIn wsX8_evenSeasons (wsV RX8 222 RX1 yX1_isEven wsX1_isEven) := goodIn_app (goodIn_of _ (by decide +kernel)) ggX8_evenSeasons_X1_isEven
theorem dX8_evenSeasons_0 : decode cX8_evenSeasons 0 = .ok (.iconst 0, 1) := by decide +kernel
theorem dX8_evenSeasons_1 : decode cX8_evenSeasons 1 = .ok (.istore_n 1, 1) := by decide +kernel
theorem dX8_evenSeasons_2 : decode cX8_evenSeasons 2 = .ok (.iconst 0, 1) := by decide +kernel
theorem dX8_evenSeasons_3 : decode cX8_evenSeasons 3 = .ok (.istore_n 2, 1) := by decide +kernel
theorem dX8_evenSeasons_4 : decode cX8_evenSeasons 4 = .ok (.iload_n 2, 1) := by decide +kernel
theorem dX8_evenSeasons_5 : decode cX8_evenSeasons 5 = .ok (.iconst 4, 1) := by decide +kernel
theorem dX8_evenSeasons_6 : decode cX8_evenSeasons 6 = .ok (.if_icmp .ge 79, 3) := by decide +kernel
theorem dX8_evenSeasons_9 : decode cX8_evenSeasons 9 = .ok (.aload_n 0, 1) := by decide +kernel
theorem dX8_evenSeasons_10 : decode cX8_evenSeasons 10 = .ok (.getfield 40, 3) := by decide +kernel
theorem dX8_evenSeasons_13 : decode cX8_evenSeasons 13 = .ok (.aload_n 0, 1) := by decide +kernel
theorem dX8_evenSeasons_14 : decode cX8_evenSeasons 14 = .ok (.getfield 10, 3) := by decide +kernel
theorem dX8_evenSeasons_17 : decode cX8_evenSeasons 17 = .ok (.getfield 72, 3) := by decide +kernel
theorem dX8_evenSeasons_20 : decode cX8_evenSeasons 20 = .ok (.iload_n 2, 1) := by decide +kernel
theorem dX8_evenSeasons_21 : decode cX8_evenSeasons 21 = .ok (.aload_n 0, 1) := by decide +kernel
theorem dX8_evenSeasons_22 : decode cX8_evenSeasons 22 = .ok (.getfield 10, 3) := by decide +kernel
theorem dX8_evenSeasons_25 : decode cX8_evenSeasons 25 = .ok (.getfield 72, 3) := by decide +kernel
theorem dX8_evenSeasons_28 : decode cX8_evenSeasons 28 = .ok (.iconst 5, 1) := by decide +kernel
theorem dX8_evenSeasons_29 : decode cX8_evenSeasons 29 = .ok (.invokevirtual 109, 3) := by decide +kernel
theorem dX8_evenSeasons_32 : decode cX8_evenSeasons 32 = .ok (.invokevirtual 282, 3) := by decide +kernel
theorem dX8_evenSeasons_35 : decode cX8_evenSeasons 35 = .ok (.aload_n 0, 1) := by decide +kernel
theorem dX8_evenSeasons_36 : decode cX8_evenSeasons 36 = .ok (.getfield 47, 3) := by decide +kernel
theorem dX8_evenSeasons_39 : decode cX8_evenSeasons 39 = .ok (.aload_n 0, 1) := by decide +kernel
theorem dX8_evenSeasons_40 : decode cX8_evenSeasons 40 = .ok (.getfield 40, 3) := by decide +kernel
theorem dX8_evenSeasons_43 : decode cX8_evenSeasons 43 = .ok (.aload_n 0, 1) := by decide +kernel
theorem dX8_evenSeasons_44 : decode cX8_evenSeasons 44 = .ok (.getfield 10, 3) := by decide +kernel
theorem dX8_evenSeasons_47 : decode cX8_evenSeasons 47 = .ok (.getfield 72, 3) := by decide +kernel
theorem dX8_evenSeasons_50 : decode cX8_evenSeasons 50 = .ok (.aload_n 0, 1) := by decide +kernel
theorem dX8_evenSeasons_51 : decode cX8_evenSeasons 51 = .ok (.getfield 10, 3) := by decide +kernel
theorem dX8_evenSeasons_54 : decode cX8_evenSeasons 54 = .ok (.getfield 72, 3) := by decide +kernel
theorem dX8_evenSeasons_57 : decode cX8_evenSeasons 57 = .ok (.getfield 124, 3) := by decide +kernel
theorem dX8_evenSeasons_60 : decode cX8_evenSeasons 60 = .ok (.invokevirtual 285, 3) := by decide +kernel
theorem dX8_evenSeasons_63 : decode cX8_evenSeasons 63 = .ok (.aload_n 0, 1) := by decide +kernel
theorem dX8_evenSeasons_64 : decode cX8_evenSeasons 64 = .ok (.getfield 47, 3) := by decide +kernel
theorem dX8_evenSeasons_67 : decode cX8_evenSeasons 67 = .ok (.invokevirtual 222, 3) := by decide +kernel
theorem dX8_evenSeasons_70 : decode cX8_evenSeasons 70 = .ok (.ifCond .eq 9, 3) := by decide +kernel
theorem dX8_evenSeasons_73 : decode cX8_evenSeasons 73 = .ok (.iload_n 1, 1) := by decide +kernel
theorem dX8_evenSeasons_74 : decode cX8_evenSeasons 74 = .ok (.iconst 1, 1) := by decide +kernel
theorem dX8_evenSeasons_75 : decode cX8_evenSeasons 75 = .ok (.iload_n 2, 1) := by decide +kernel
theorem dX8_evenSeasons_76 : decode cX8_evenSeasons 76 = .ok (.ishl, 1) := by decide +kernel
theorem dX8_evenSeasons_77 : decode cX8_evenSeasons 77 = .ok (.ior, 1) := by decide +kernel
theorem dX8_evenSeasons_78 : decode cX8_evenSeasons 78 = .ok (.istore_n 1, 1) := by decide +kernel
theorem dX8_evenSeasons_79 : decode cX8_evenSeasons 79 = .ok (.iinc 2 1, 3) := by decide +kernel
theorem dX8_evenSeasons_82 : decode cX8_evenSeasons 82 = .ok (.goto (-78), 3) := by decide +kernel
theorem dX8_evenSeasons_85 : decode cX8_evenSeasons 85 = .ok (.iload_n 1, 1) := by decide +kernel
theorem dX8_evenSeasons_86 : decode cX8_evenSeasons 86 = .ok (.ireturn, 1) := by decide +kernel
set_option maxRecDepth 20000 in
theorem ggX8_printedFor_X8_isCardValue : GoodIn wsX8_printedFor wsX8_isCardValue := goodIn_r _ [6, 7, 8, 9, 10, 5, 11] (by decide +kernel) (by decide +kernel)
set_option maxRecDepth 20000 in
theorem gX8_printedFor_X8_isCardValue : GoodIn wsX8_printedFor (va_wsS RX8 106 yX8_isCardValue wsX8_isCardValue) := goodIn_app (goodIn_of _ (by decide +kernel)) ggX8_printedFor_X8_isCardValue
set_option maxRecDepth 20000 in
theorem ggX8_printedFor_X3_setting : GoodIn wsX8_printedFor wsX3_setting := goodIn_r _ [16, 17, 113, 114, 115, 116] (by decide +kernel) (by decide +kernel)
set_option maxRecDepth 20000 in
theorem gX8_printedFor_X3_setting : GoodIn wsX8_printedFor (wsV RX8 109 RX3 yX3_setting wsX3_setting) := goodIn_app (goodIn_of _ (by decide +kernel)) ggX8_printedFor_X3_setting
set_option maxRecDepth 20000 in
theorem ggX8_printedFor_X4_find : GoodIn wsX8_printedFor wsX4_find := goodIn_r _ [22, 23, 24, 25, 26, 27, 28, 29, 30, 31, 32, 33, 34, 35, 21, 36, 37, 38, 39, 40, 41, 15, 42, 43, 44, 45, 46, 47, 48, 49, 50, 51, 52, 53, 54, 55, 56, 57, 58, 59, 60, 61, 62, 5, 63, 64, 65, 66, 67, 68, 13, 14, 16, 17, 69, 70, 71, 72, 73, 74, 75, 76, 77, 78, 79, 80, 81, 82, 83, 84, 85, 86, 87, 88, 89, 90, 91, 92, 105, 106, 107, 108, 109, 110, 111, 112, 113, 114, 115, 116] (by decide +kernel) (by decide +kernel)
set_option maxRecDepth 20000 in
theorem gX8_printedFor_X4_find : GoodIn wsX8_printedFor (wsV RX8 282 RX4 yX4_find wsX4_find) := goodIn_app (goodIn_of _ (by decide +kernel)) ggX8_printedFor_X4_find
theorem dX8_printedFor_0 : decode cX8_printedFor 0 = .ok (.iconst 5, 1) := by decide +kernel
theorem dX8_printedFor_1 : decode cX8_printedFor 1 = .ok (.iload_n 1, 1) := by decide +kernel
theorem dX8_printedFor_2 : decode cX8_printedFor 2 = .ok (.invokestatic 106, 3) := by decide +kernel
theorem dX8_printedFor_5 : decode cX8_printedFor 5 = .ok (.ifCond .ne 5, 3) := by decide +kernel
theorem dX8_printedFor_8 : decode cX8_printedFor 8 = .ok (.iconst (-1), 1) := by decide +kernel
theorem dX8_printedFor_9 : decode cX8_printedFor 9 = .ok (.ireturn, 1) := by decide +kernel
theorem dX8_printedFor_10 : decode cX8_printedFor 10 = .ok (.aload_n 0, 1) := by decide +kernel
theorem dX8_printedFor_11 : decode cX8_printedFor 11 = .ok (.getfield 40, 3) := by decide +kernel
theorem dX8_printedFor_14 : decode cX8_printedFor 14 = .ok (.aload_n 0, 1) := by decide +kernel
theorem dX8_printedFor_15 : decode cX8_printedFor 15 = .ok (.getfield 10, 3) := by decide +kernel
theorem dX8_printedFor_18 : decode cX8_printedFor 18 = .ok (.getfield 72, 3) := by decide +kernel
theorem dX8_printedFor_21 : decode cX8_printedFor 21 = .ok (.aload_n 0, 1) := by decide +kernel
theorem dX8_printedFor_22 : decode cX8_printedFor 22 = .ok (.getfield 10, 3) := by decide +kernel
theorem dX8_printedFor_25 : decode cX8_printedFor 25 = .ok (.getfield 72, 3) := by decide +kernel
theorem dX8_printedFor_28 : decode cX8_printedFor 28 = .ok (.iconst 0, 1) := by decide +kernel
theorem dX8_printedFor_29 : decode cX8_printedFor 29 = .ok (.invokevirtual 109, 3) := by decide +kernel
theorem dX8_printedFor_32 : decode cX8_printedFor 32 = .ok (.iload_n 1, 1) := by decide +kernel
theorem dX8_printedFor_33 : decode cX8_printedFor 33 = .ok (.invokevirtual 282, 3) := by decide +kernel
theorem dX8_printedFor_36 : decode cX8_printedFor 36 = .ok (.aload_n 0, 1) := by decide +kernel
theorem dX8_printedFor_37 : decode cX8_printedFor 37 = .ok (.getfield 40, 3) := by decide +kernel
theorem dX8_printedFor_40 : decode cX8_printedFor 40 = .ok (.getfield 166, 3) := by decide +kernel
theorem dX8_printedFor_43 : decode cX8_printedFor 43 = .ok (.ireturn, 1) := by decide +kernel
set_option maxRecDepth 20000 in
theorem ggX8_bestSides_X8_inRange : GoodIn wsX8_bestSides wsX8_inRange := goodIn_r _ [6] (by decide +kernel) (by decide +kernel)
set_option maxRecDepth 20000 in
theorem gX8_bestSides_X8_inRange : GoodIn wsX8_bestSides (va_wsS RX8 117 yX8_inRange wsX8_inRange) := goodIn_app (goodIn_of _ (by decide +kernel)) ggX8_bestSides_X8_inRange
set_option maxRecDepth 20000 in
theorem ggX8_bestSides_X8_findPrinted : GoodIn wsX8_bestSides wsX8_findPrinted := goodIn_r _ [10, 11, 12, 13, 14, 15, 16, 17, 18, 19, 20, 21, 22, 23, 24, 25, 26, 27, 28, 29, 30, 31, 32, 33, 34, 35, 36, 37, 38, 39, 40, 41, 42, 43, 44, 45, 46, 47, 48, 49, 50, 51, 52, 53, 54, 55, 56, 57, 58, 59, 60, 61, 62, 5, 63, 64, 65, 66, 67, 68, 69, 70, 71, 72, 73, 74, 75, 76, 77, 78, 79, 80, 81, 82, 83, 84, 85, 86, 87, 88, 89, 90, 91, 92, 159, 160, 161, 162, 163, 164, 165, 166, 167, 171, 172, 173, 174, 175, 176, 177, 178, 179, 180, 181, 182] (by decide +kernel) (by decide +kernel)
set_option maxRecDepth 20000 in
theorem gX8_bestSides_X8_findPrinted : GoodIn wsX8_bestSides (wsV RX8 134 RX8 yX8_findPrinted wsX8_findPrinted) := goodIn_app (goodIn_of _ (by decide +kernel)) ggX8_bestSides_X8_findPrinted
set_option maxRecDepth 20000 in
theorem ggX8_bestSides_X8_foldBestWay : GoodIn wsX8_bestSides wsX8_foldBestWay := goodIn_r _ [96, 2, 11, 1, 97, 98, 99, 100, 101, 102, 103, 104, 30, 105, 106, 107, 108, 109, 110, 111, 112, 113, 114, 115, 5, 116, 117, 13, 14, 15, 16, 17, 118, 119, 120, 121, 122, 84, 85, 86, 87, 88, 89, 123, 124, 125, 126, 127, 128, 129, 130, 131, 132, 133, 134, 91, 92, 135, 136, 137, 138, 139, 140, 141, 142, 143, 144, 145, 146, 147, 148, 149, 150, 151, 152, 153, 154, 155, 29, 31, 159, 160, 161, 162, 163, 164, 165, 166, 167, 168, 169, 170, 175, 176, 177, 178, 179, 180, 181, 182, 183, 184, 185, 186, 187, 171, 172, 173, 174] (by decide +kernel) (by decide +kernel)
set_option maxRecDepth 20000 in
theorem gX8_bestSides_X8_foldBestWay : GoodIn wsX8_bestSides (wsV RX8 138 RX8 yX8_foldBestWay wsX8_foldBestWay) := goodIn_app (goodIn_of _ (by decide +kernel)) ggX8_bestSides_X8_foldBestWay
set_option maxRecDepth 20000 in
theorem ggX8_bestSides_X1_difference : GoodIn wsX8_bestSides wsX1_difference := goodIn_r _ [150, 112, 103, 104, 30, 105, 183, 184, 185, 186, 187] (by decide +kernel) (by decide +kernel)
set_option maxRecDepth 20000 in
theorem gX8_bestSides_X1_difference : GoodIn wsX8_bestSides (wsV RX8 141 RX1 yX1_difference wsX1_difference) := goodIn_app (goodIn_of _ (by decide +kernel)) ggX8_bestSides_X1_difference
set_option maxRecDepth 20000 in
theorem ggX8_bestSides_X1_longest : GoodIn wsX8_bestSides wsX1_longest := goodIn_r _ [154, 155, 29, 30, 31, 127, 128, 129, 101, 130, 131, 132, 133, 134, 111, 183, 184, 185, 186, 187] (by decide +kernel) (by decide +kernel)
set_option maxRecDepth 20000 in
theorem gX8_bestSides_X1_longest : GoodIn wsX8_bestSides (wsV RX8 288 RX1 yX1_longest wsX1_longest) := goodIn_app (goodIn_of _ (by decide +kernel)) ggX8_bestSides_X1_longest
set_option maxRecDepth 20000 in
theorem ggX8_bestSides_X1_isEven : GoodIn wsX8_bestSides wsX1_isEven := goodIn_r _ [146, 127, 128, 129, 101, 130, 131, 132, 133, 134, 111, 183, 184, 185, 186, 187] (by decide +kernel) (by decide +kernel)
set_option maxRecDepth 20000 in
theorem gX8_bestSides_X1_isEven : GoodIn wsX8_bestSides (wsV RX8 222 RX1 yX1_isEven wsX1_isEven) := goodIn_app (goodIn_of _ (by decide +kernel)) ggX8_bestSides_X1_isEven
theorem dX8_bestSides_0 : decode cX8_bestSides 0 = .ok (.iload_n 1, 1) := by decide +kernel
theorem dX8_bestSides_1 : decode cX8_bestSides 1 = .ok (.iconst 0, 1) := by decide +kernel
theorem dX8_bestSides_2 : decode cX8_bestSides 2 = .ok (.iconst 3, 1) := by decide +kernel
theorem dX8_bestSides_3 : decode cX8_bestSides 3 = .ok (.invokestatic 117, 3) := by decide +kernel
theorem dX8_bestSides_6 : decode cX8_bestSides 6 = .ok (.ifCond .ne 5, 3) := by decide +kernel
theorem dX8_bestSides_9 : decode cX8_bestSides 9 = .ok (.iconst (-1), 1) := by decide +kernel
theorem dX8_bestSides_10 : decode cX8_bestSides 10 = .ok (.ireturn, 1) := by decide +kernel
theorem dX8_bestSides_11 : decode cX8_bestSides 11 = .ok (.aload_n 0, 1) := by decide +kernel
theorem dX8_bestSides_12 : decode cX8_bestSides 12 = .ok (.aload_n 0, 1) := by decide +kernel
theorem dX8_bestSides_13 : decode cX8_bestSides 13 = .ok (.getfield 10, 3) := by decide +kernel
theorem dX8_bestSides_16 : decode cX8_bestSides 16 = .ok (.getfield 72, 3) := by decide +kernel
theorem dX8_bestSides_19 : decode cX8_bestSides 19 = .ok (.invokevirtual 134, 3) := by decide +kernel
theorem dX8_bestSides_22 : decode cX8_bestSides 22 = .ok (.aload_n 0, 1) := by decide +kernel
theorem dX8_bestSides_23 : decode cX8_bestSides 23 = .ok (.invokevirtual 138, 3) := by decide +kernel
theorem dX8_bestSides_26 : decode cX8_bestSides 26 = .ok (.istore_n 2, 1) := by decide +kernel
theorem dX8_bestSides_27 : decode cX8_bestSides 27 = .ok (.iload_n 1, 1) := by decide +kernel
theorem dX8_bestSides_28 : decode cX8_bestSides 28 = .ok (.tableswitch 46 0 2 #[28, 30, 38], 28) := by decide +kernel
theorem dX8_bestSides_56 : decode cX8_bestSides 56 = .ok (.iload_n 2, 1) := by decide +kernel
theorem dX8_bestSides_57 : decode cX8_bestSides 57 = .ok (.ireturn, 1) := by decide +kernel
theorem dX8_bestSides_58 : decode cX8_bestSides 58 = .ok (.aload_n 0, 1) := by decide +kernel
theorem dX8_bestSides_59 : decode cX8_bestSides 59 = .ok (.getfield 47, 3) := by decide +kernel
theorem dX8_bestSides_62 : decode cX8_bestSides 62 = .ok (.invokevirtual 141, 3) := by decide +kernel
theorem dX8_bestSides_65 : decode cX8_bestSides 65 = .ok (.ireturn, 1) := by decide +kernel
theorem dX8_bestSides_66 : decode cX8_bestSides 66 = .ok (.aload_n 0, 1) := by decide +kernel
theorem dX8_bestSides_67 : decode cX8_bestSides 67 = .ok (.getfield 47, 3) := by decide +kernel
theorem dX8_bestSides_70 : decode cX8_bestSides 70 = .ok (.invokevirtual 288, 3) := by decide +kernel
theorem dX8_bestSides_73 : decode cX8_bestSides 73 = .ok (.ireturn, 1) := by decide +kernel
theorem dX8_bestSides_74 : decode cX8_bestSides 74 = .ok (.aload_n 0, 1) := by decide +kernel
theorem dX8_bestSides_75 : decode cX8_bestSides 75 = .ok (.getfield 47, 3) := by decide +kernel
theorem dX8_bestSides_78 : decode cX8_bestSides 78 = .ok (.invokevirtual 222, 3) := by decide +kernel
theorem dX8_bestSides_81 : decode cX8_bestSides 81 = .ok (.ifCond .eq 7, 3) := by decide +kernel
theorem dX8_bestSides_84 : decode cX8_bestSides 84 = .ok (.iconst 1, 1) := by decide +kernel
theorem dX8_bestSides_85 : decode cX8_bestSides 85 = .ok (.goto 4, 3) := by decide +kernel
theorem dX8_bestSides_88 : decode cX8_bestSides 88 = .ok (.iconst 0, 1) := by decide +kernel
theorem dX8_bestSides_89 : decode cX8_bestSides 89 = .ok (.ireturn, 1) := by decide +kernel
set_option maxRecDepth 20000 in
theorem ggX8_bestSet_X8_areSetArguments : GoodIn wsX8_bestSet wsX8_areSetArguments := goodIn_r _ [6, 7, 8, 5, 9, 10, 11, 12] (by decide +kernel) (by decide +kernel)
set_option maxRecDepth 20000 in
theorem gX8_bestSet_X8_areSetArguments : GoodIn wsX8_bestSet (va_wsS RX8 144 yX8_areSetArguments wsX8_areSetArguments) := goodIn_app (goodIn_of _ (by decide +kernel)) ggX8_bestSet_X8_areSetArguments
set_option maxRecDepth 20000 in
theorem ggX8_bestSet_X8_inRange : GoodIn wsX8_bestSet wsX8_inRange := goodIn_r _ [12] (by decide +kernel) (by decide +kernel)
set_option maxRecDepth 20000 in
theorem gX8_bestSet_X8_inRange : GoodIn wsX8_bestSet (va_wsS RX8 117 yX8_inRange wsX8_inRange) := goodIn_app (goodIn_of _ (by decide +kernel)) ggX8_bestSet_X8_inRange
set_option maxRecDepth 20000 in
theorem ggX8_bestSet_X6_find : GoodIn wsX8_bestSet wsX6_find := goodIn_r _ [17, 18, 19, 20, 21, 22, 23, 24, 25, 26, 27, 28, 29, 30, 16, 31, 32, 5, 33, 34, 35, 36, 37, 38, 39, 40, 41, 42, 43, 44, 45, 46, 47, 48, 49, 50, 51, 52, 53, 54, 55, 56, 57, 58, 59, 60, 61, 62, 63, 64, 65, 66, 67, 68, 69, 70, 71, 72, 73, 74, 75, 76, 77, 78, 79, 80, 81, 82, 83, 84, 85, 86, 87, 88, 89, 90, 91, 92, 93, 94, 95, 96, 97, 98, 99, 100, 101, 102, 103, 104, 105, 106, 107, 136, 137, 138, 139, 140, 141, 142, 143, 144] (by decide +kernel) (by decide +kernel)
set_option maxRecDepth 20000 in
theorem gX8_bestSet_X6_find : GoodIn wsX8_bestSet (wsV RX8 147 RX6 yX6_find wsX6_find) := goodIn_app (goodIn_of _ (by decide +kernel)) ggX8_bestSet_X6_find
set_option maxRecDepth 20000 in
theorem ggX8_bestSet_X6_hasFound : GoodIn wsX8_bestSet wsX6_hasFound := goodIn_r _ [111, 27, 136, 137, 138, 139, 140] (by decide +kernel) (by decide +kernel)
set_option maxRecDepth 20000 in
theorem gX8_bestSet_X6_hasFound : GoodIn wsX8_bestSet (wsV RX8 151 RX6 yX6_hasFound wsX6_hasFound) := goodIn_app (goodIn_of _ (by decide +kernel)) ggX8_bestSet_X6_hasFound
set_option maxRecDepth 20000 in
theorem ggX8_bestSet_X6_foundSet : GoodIn wsX8_bestSet wsX6_foundSet := goodIn_r _ [115, 18, 103, 116, 117, 118, 16, 119, 27, 136, 137, 138, 139, 140] (by decide +kernel) (by decide +kernel)
set_option maxRecDepth 20000 in
theorem gX8_bestSet_X6_foundSet : GoodIn wsX8_bestSet (wsV RX8 291 RX6 yX6_foundSet wsX6_foundSet) := goodIn_app (goodIn_of _ (by decide +kernel)) ggX8_bestSet_X6_foundSet
set_option maxRecDepth 20000 in
theorem ggX8_bestSet_X6_prices : GoodIn wsX8_bestSet wsX6_prices := goodIn_r _ [123, 27, 136, 137, 138, 139, 140] (by decide +kernel) (by decide +kernel)
set_option maxRecDepth 20000 in
theorem gX8_bestSet_X6_prices : GoodIn wsX8_bestSet (wsV RX8 157 RX6 yX6_prices wsX6_prices) := goodIn_app (goodIn_of _ (by decide +kernel)) ggX8_bestSet_X6_prices
theorem dX8_bestSet_0 : decode cX8_bestSet 0 = .ok (.iload_n 1, 1) := by decide +kernel
theorem dX8_bestSet_1 : decode cX8_bestSet 1 = .ok (.iload_n 2, 1) := by decide +kernel
theorem dX8_bestSet_2 : decode cX8_bestSet 2 = .ok (.iload_n 3, 1) := by decide +kernel
theorem dX8_bestSet_3 : decode cX8_bestSet 3 = .ok (.invokestatic 144, 3) := by decide +kernel
theorem dX8_bestSet_6 : decode cX8_bestSet 6 = .ok (.ifCond .eq 13, 3) := by decide +kernel
theorem dX8_bestSet_9 : decode cX8_bestSet 9 = .ok (.iload 4, 2) := by decide +kernel
theorem dX8_bestSet_11 : decode cX8_bestSet 11 = .ok (.iconst 0, 1) := by decide +kernel
theorem dX8_bestSet_12 : decode cX8_bestSet 12 = .ok (.iconst 2, 1) := by decide +kernel
theorem dX8_bestSet_13 : decode cX8_bestSet 13 = .ok (.invokestatic 117, 3) := by decide +kernel
theorem dX8_bestSet_16 : decode cX8_bestSet 16 = .ok (.ifCond .ne 5, 3) := by decide +kernel
theorem dX8_bestSet_19 : decode cX8_bestSet 19 = .ok (.iconst (-1), 1) := by decide +kernel
theorem dX8_bestSet_20 : decode cX8_bestSet 20 = .ok (.ireturn, 1) := by decide +kernel
theorem dX8_bestSet_21 : decode cX8_bestSet 21 = .ok (.aload_n 0, 1) := by decide +kernel
theorem dX8_bestSet_22 : decode cX8_bestSet 22 = .ok (.getfield 64, 3) := by decide +kernel
theorem dX8_bestSet_25 : decode cX8_bestSet 25 = .ok (.aload_n 0, 1) := by decide +kernel
theorem dX8_bestSet_26 : decode cX8_bestSet 26 = .ok (.getfield 10, 3) := by decide +kernel
theorem dX8_bestSet_29 : decode cX8_bestSet 29 = .ok (.getfield 72, 3) := by decide +kernel
theorem dX8_bestSet_32 : decode cX8_bestSet 32 = .ok (.iload_n 1, 1) := by decide +kernel
theorem dX8_bestSet_33 : decode cX8_bestSet 33 = .ok (.iload_n 2, 1) := by decide +kernel
theorem dX8_bestSet_34 : decode cX8_bestSet 34 = .ok (.iload_n 3, 1) := by decide +kernel
theorem dX8_bestSet_35 : decode cX8_bestSet 35 = .ok (.invokevirtual 147, 3) := by decide +kernel
theorem dX8_bestSet_38 : decode cX8_bestSet 38 = .ok (.aload_n 0, 1) := by decide +kernel
theorem dX8_bestSet_39 : decode cX8_bestSet 39 = .ok (.getfield 64, 3) := by decide +kernel
theorem dX8_bestSet_42 : decode cX8_bestSet 42 = .ok (.invokevirtual 151, 3) := by decide +kernel
theorem dX8_bestSet_45 : decode cX8_bestSet 45 = .ok (.ifCond .ne 6, 3) := by decide +kernel
theorem dX8_bestSet_48 : decode cX8_bestSet 48 = .ok (.bipush (-99), 2) := by decide +kernel
theorem dX8_bestSet_50 : decode cX8_bestSet 50 = .ok (.ireturn, 1) := by decide +kernel
theorem dX8_bestSet_51 : decode cX8_bestSet 51 = .ok (.iload 4, 2) := by decide +kernel
theorem dX8_bestSet_53 : decode cX8_bestSet 53 = .ok (.iconst 2, 1) := by decide +kernel
theorem dX8_bestSet_54 : decode cX8_bestSet 54 = .ok (.if_icmp .ne 13, 3) := by decide +kernel
theorem dX8_bestSet_57 : decode cX8_bestSet 57 = .ok (.aload_n 0, 1) := by decide +kernel
theorem dX8_bestSet_58 : decode cX8_bestSet 58 = .ok (.getfield 64, 3) := by decide +kernel
theorem dX8_bestSet_61 : decode cX8_bestSet 61 = .ok (.invokevirtual 291, 3) := by decide +kernel
theorem dX8_bestSet_64 : decode cX8_bestSet 64 = .ok (.goto 10, 3) := by decide +kernel
theorem dX8_bestSet_67 : decode cX8_bestSet 67 = .ok (.aload_n 0, 1) := by decide +kernel
theorem dX8_bestSet_68 : decode cX8_bestSet 68 = .ok (.getfield 64, 3) := by decide +kernel
theorem dX8_bestSet_71 : decode cX8_bestSet 71 = .ok (.invokevirtual 157, 3) := by decide +kernel
theorem dX8_bestSet_74 : decode cX8_bestSet 74 = .ok (.ireturn, 1) := by decide +kernel
set_option maxRecDepth 20000 in
theorem ggX8_findPrinted_X3_setting : GoodIn wsX8_findPrinted wsX3_setting := goodIn_r _ [6, 7, 93, 94, 95, 96] (by decide +kernel) (by decide +kernel)
set_option maxRecDepth 20000 in
theorem gX8_findPrinted_X3_setting : GoodIn wsX8_findPrinted (wsV RX8 109 RX3 yX3_setting wsX3_setting) := goodIn_app (goodIn_of _ (by decide +kernel)) ggX8_findPrinted_X3_setting
set_option maxRecDepth 20000 in
theorem ggX8_findPrinted_X4_find : GoodIn wsX8_findPrinted wsX4_find := goodIn_r _ [12, 13, 14, 15, 16, 17, 18, 19, 20, 21, 22, 23, 24, 25, 11, 26, 27, 28, 29, 30, 31, 5, 32, 33, 34, 35, 36, 37, 38, 39, 40, 41, 42, 43, 44, 45, 46, 47, 48, 49, 50, 51, 52, 53, 54, 55, 56, 57, 58, 59, 3, 4, 6, 7, 60, 61, 62, 63, 64, 65, 66, 67, 68, 69, 70, 71, 72, 73, 74, 75, 76, 77, 78, 79, 80, 81, 82, 83, 97, 98, 99, 100, 101, 102, 103, 104, 93, 94, 95, 96] (by decide +kernel) (by decide +kernel)
set_option maxRecDepth 20000 in
theorem gX8_findPrinted_X4_find : GoodIn wsX8_findPrinted (wsV RX8 282 RX4 yX4_find wsX4_find) := goodIn_app (goodIn_of _ (by decide +kernel)) ggX8_findPrinted_X4_find
theorem dX8_findPrinted_0 : decode cX8_findPrinted 0 = .ok (.aload_n 0, 1) := by decide +kernel
theorem dX8_findPrinted_1 : decode cX8_findPrinted 1 = .ok (.getfield 40, 3) := by decide +kernel
theorem dX8_findPrinted_4 : decode cX8_findPrinted 4 = .ok (.aload_n 1, 1) := by decide +kernel
theorem dX8_findPrinted_5 : decode cX8_findPrinted 5 = .ok (.aload_n 1, 1) := by decide +kernel
theorem dX8_findPrinted_6 : decode cX8_findPrinted 6 = .ok (.iconst 0, 1) := by decide +kernel
theorem dX8_findPrinted_7 : decode cX8_findPrinted 7 = .ok (.invokevirtual 109, 3) := by decide +kernel
theorem dX8_findPrinted_10 : decode cX8_findPrinted 10 = .ok (.aload_n 1, 1) := by decide +kernel
theorem dX8_findPrinted_11 : decode cX8_findPrinted 11 = .ok (.iconst 5, 1) := by decide +kernel
theorem dX8_findPrinted_12 : decode cX8_findPrinted 12 = .ok (.invokevirtual 109, 3) := by decide +kernel
theorem dX8_findPrinted_15 : decode cX8_findPrinted 15 = .ok (.invokevirtual 282, 3) := by decide +kernel
theorem dX8_findPrinted_18 : decode cX8_findPrinted 18 = .ok (.return_, 1) := by decide +kernel
set_option maxRecDepth 20000 in
theorem ggX8_layCard_X3_setting : GoodIn wsX8_layCard wsX3_setting := goodIn_r _ [8, 9, 139, 140, 141, 142] (by decide +kernel) (by decide +kernel)
set_option maxRecDepth 20000 in
theorem gX8_layCard_X3_setting : GoodIn wsX8_layCard (wsV RX8 109 RX3 yX3_setting wsX3_setting) := goodIn_app (goodIn_of _ (by decide +kernel)) ggX8_layCard_X3_setting
set_option maxRecDepth 20000 in
theorem ggX8_layCard_X4_find : GoodIn wsX8_layCard wsX4_find := goodIn_r _ [14, 15, 16, 17, 18, 19, 20, 21, 22, 23, 24, 25, 26, 27, 13, 28, 29, 30, 31, 32, 33, 7, 34, 35, 36, 37, 38, 39, 40, 41, 42, 43, 44, 45, 46, 47, 48, 49, 50, 51, 52, 53, 54, 55, 56, 57, 58, 59, 60, 61, 5, 6, 8, 9, 62, 63, 64, 65, 66, 67, 68, 69, 70, 71, 72, 73, 74, 75, 76, 77, 78, 79, 80, 81, 82, 83, 84, 85, 143, 144, 145, 146, 147, 148, 149, 150, 139, 140, 141, 142] (by decide +kernel) (by decide +kernel)
set_option maxRecDepth 20000 in
theorem gX8_layCard_X4_find : GoodIn wsX8_layCard (wsV RX8 282 RX4 yX4_find wsX4_find) := goodIn_app (goodIn_of _ (by decide +kernel)) ggX8_layCard_X4_find
set_option maxRecDepth 20000 in
theorem ggX8_layCard_X1_lay : GoodIn wsX8_layCard wsX1_lay := goodIn_r _ [90, 91, 92, 22, 93, 94, 95, 96, 97, 89, 98, 99, 100, 101, 102, 103, 55, 104, 105, 5, 6, 7, 8, 9, 106, 107, 108, 109, 110, 77, 78, 79, 80, 81, 82, 111, 112, 113, 114, 115, 116, 117, 118, 119, 120, 121, 122, 84, 85, 123, 124, 125, 126, 143, 144, 145, 146, 147, 148, 149, 150, 151, 152, 153, 154, 155, 139, 140, 141, 142] (by decide +kernel) (by decide +kernel)
set_option maxRecDepth 20000 in
theorem gX8_layCard_X1_lay : GoodIn wsX8_layCard (wsV RX8 285 RX1 yX1_lay wsX1_lay) := goodIn_app (goodIn_of _ (by decide +kernel)) ggX8_layCard_X1_lay
theorem dX8_layCard_0 : decode cX8_layCard 0 = .ok (.aload_n 0, 1) := by decide +kernel
theorem dX8_layCard_1 : decode cX8_layCard 1 = .ok (.getfield 40, 3) := by decide +kernel
theorem dX8_layCard_4 : decode cX8_layCard 4 = .ok (.aload_n 0, 1) := by decide +kernel
theorem dX8_layCard_5 : decode cX8_layCard 5 = .ok (.getfield 10, 3) := by decide +kernel
theorem dX8_layCard_8 : decode cX8_layCard 8 = .ok (.getfield 72, 3) := by decide +kernel
theorem dX8_layCard_11 : decode cX8_layCard 11 = .ok (.aload_n 0, 1) := by decide +kernel
theorem dX8_layCard_12 : decode cX8_layCard 12 = .ok (.getfield 10, 3) := by decide +kernel
theorem dX8_layCard_15 : decode cX8_layCard 15 = .ok (.getfield 72, 3) := by decide +kernel
theorem dX8_layCard_18 : decode cX8_layCard 18 = .ok (.iconst 0, 1) := by decide +kernel
theorem dX8_layCard_19 : decode cX8_layCard 19 = .ok (.invokevirtual 109, 3) := by decide +kernel
theorem dX8_layCard_22 : decode cX8_layCard 22 = .ok (.aload_n 0, 1) := by decide +kernel
theorem dX8_layCard_23 : decode cX8_layCard 23 = .ok (.getfield 10, 3) := by decide +kernel
theorem dX8_layCard_26 : decode cX8_layCard 26 = .ok (.getfield 72, 3) := by decide +kernel
theorem dX8_layCard_29 : decode cX8_layCard 29 = .ok (.iconst 5, 1) := by decide +kernel
theorem dX8_layCard_30 : decode cX8_layCard 30 = .ok (.invokevirtual 109, 3) := by decide +kernel
theorem dX8_layCard_33 : decode cX8_layCard 33 = .ok (.invokevirtual 282, 3) := by decide +kernel
theorem dX8_layCard_36 : decode cX8_layCard 36 = .ok (.aload_n 0, 1) := by decide +kernel
theorem dX8_layCard_37 : decode cX8_layCard 37 = .ok (.getfield 47, 3) := by decide +kernel
theorem dX8_layCard_40 : decode cX8_layCard 40 = .ok (.aload_n 0, 1) := by decide +kernel
theorem dX8_layCard_41 : decode cX8_layCard 41 = .ok (.getfield 40, 3) := by decide +kernel
theorem dX8_layCard_44 : decode cX8_layCard 44 = .ok (.aload_n 0, 1) := by decide +kernel
theorem dX8_layCard_45 : decode cX8_layCard 45 = .ok (.getfield 10, 3) := by decide +kernel
theorem dX8_layCard_48 : decode cX8_layCard 48 = .ok (.getfield 72, 3) := by decide +kernel
theorem dX8_layCard_51 : decode cX8_layCard 51 = .ok (.aload_n 0, 1) := by decide +kernel
theorem dX8_layCard_52 : decode cX8_layCard 52 = .ok (.getfield 10, 3) := by decide +kernel
theorem dX8_layCard_55 : decode cX8_layCard 55 = .ok (.getfield 72, 3) := by decide +kernel
theorem dX8_layCard_58 : decode cX8_layCard 58 = .ok (.getfield 124, 3) := by decide +kernel
theorem dX8_layCard_61 : decode cX8_layCard 61 = .ok (.invokevirtual 285, 3) := by decide +kernel
theorem dX8_layCard_64 : decode cX8_layCard 64 = .ok (.return_, 1) := by decide +kernel
set_option maxRecDepth 20000 in
theorem ggX8_foldBestWay_X1_lay : GoodIn wsX8_foldBestWay wsX1_lay := goodIn_r _ [9, 10, 11, 12, 13, 14, 15, 16, 17, 8, 18, 19, 20, 21, 22, 23, 24, 25, 26, 27, 28, 29, 30, 31, 32, 33, 34, 35, 36, 37, 38, 39, 40, 41, 42, 43, 44, 45, 46, 47, 48, 49, 50, 51, 52, 53, 54, 55, 56, 57, 58, 59, 60, 92, 93, 94, 95, 96, 97, 98, 99, 100, 101, 102, 103, 104, 105, 106, 107, 108] (by decide +kernel) (by decide +kernel)
set_option maxRecDepth 20000 in
theorem gX8_foldBestWay_X1_lay : GoodIn wsX8_foldBestWay (wsV RX8 285 RX1 yX1_lay wsX1_lay) := goodIn_app (goodIn_of _ (by decide +kernel)) ggX8_foldBestWay_X1_lay
set_option maxRecDepth 20000 in
theorem ggX8_foldBestWay_X1_isBetterThan : GoodIn wsX8_foldBestWay wsX1_isBetterThan := goodIn_r _ [64, 65, 66, 67, 8, 68, 47, 48, 49, 50, 51, 52, 53, 54, 19, 69, 70, 71, 72, 20, 10, 11, 12, 13, 73, 74, 75, 76, 77, 78, 79, 100, 101, 102, 103, 104] (by decide +kernel) (by decide +kernel)
set_option maxRecDepth 20000 in
theorem gX8_foldBestWay_X1_isBetterThan : GoodIn wsX8_foldBestWay (wsV RX8 294 RX1 yX1_isBetterThan wsX1_isBetterThan) := goodIn_app (goodIn_of _ (by decide +kernel)) ggX8_foldBestWay_X1_isBetterThan
theorem dX8_foldBestWay_0 : decode cX8_foldBestWay 0 = .ok (.iconst 0, 1) := by decide +kernel
theorem dX8_foldBestWay_1 : decode cX8_foldBestWay 1 = .ok (.istore_n 1, 1) := by decide +kernel
theorem dX8_foldBestWay_2 : decode cX8_foldBestWay 2 = .ok (.aload_n 0, 1) := by decide +kernel
theorem dX8_foldBestWay_3 : decode cX8_foldBestWay 3 = .ok (.getfield 47, 3) := by decide +kernel
theorem dX8_foldBestWay_6 : decode cX8_foldBestWay 6 = .ok (.aload_n 0, 1) := by decide +kernel
theorem dX8_foldBestWay_7 : decode cX8_foldBestWay 7 = .ok (.getfield 40, 3) := by decide +kernel
theorem dX8_foldBestWay_10 : decode cX8_foldBestWay 10 = .ok (.aload_n 0, 1) := by decide +kernel
theorem dX8_foldBestWay_11 : decode cX8_foldBestWay 11 = .ok (.getfield 10, 3) := by decide +kernel
theorem dX8_foldBestWay_14 : decode cX8_foldBestWay 14 = .ok (.getfield 72, 3) := by decide +kernel
theorem dX8_foldBestWay_17 : decode cX8_foldBestWay 17 = .ok (.iload_n 1, 1) := by decide +kernel
theorem dX8_foldBestWay_18 : decode cX8_foldBestWay 18 = .ok (.invokevirtual 285, 3) := by decide +kernel
theorem dX8_foldBestWay_21 : decode cX8_foldBestWay 21 = .ok (.iconst 1, 1) := by decide +kernel
theorem dX8_foldBestWay_22 : decode cX8_foldBestWay 22 = .ok (.istore_n 2, 1) := by decide +kernel
theorem dX8_foldBestWay_23 : decode cX8_foldBestWay 23 = .ok (.iload_n 2, 1) := by decide +kernel
theorem dX8_foldBestWay_24 : decode cX8_foldBestWay 24 = .ok (.bipush 16, 2) := by decide +kernel
theorem dX8_foldBestWay_26 : decode cX8_foldBestWay 26 = .ok (.if_icmp .ge 63, 3) := by decide +kernel
theorem dX8_foldBestWay_29 : decode cX8_foldBestWay 29 = .ok (.aload_n 0, 1) := by decide +kernel
theorem dX8_foldBestWay_30 : decode cX8_foldBestWay 30 = .ok (.getfield 51, 3) := by decide +kernel
theorem dX8_foldBestWay_33 : decode cX8_foldBestWay 33 = .ok (.aload_n 0, 1) := by decide +kernel
theorem dX8_foldBestWay_34 : decode cX8_foldBestWay 34 = .ok (.getfield 40, 3) := by decide +kernel
theorem dX8_foldBestWay_37 : decode cX8_foldBestWay 37 = .ok (.aload_n 0, 1) := by decide +kernel
theorem dX8_foldBestWay_38 : decode cX8_foldBestWay 38 = .ok (.getfield 10, 3) := by decide +kernel
theorem dX8_foldBestWay_41 : decode cX8_foldBestWay 41 = .ok (.getfield 72, 3) := by decide +kernel
theorem dX8_foldBestWay_44 : decode cX8_foldBestWay 44 = .ok (.iload_n 2, 1) := by decide +kernel
theorem dX8_foldBestWay_45 : decode cX8_foldBestWay 45 = .ok (.invokevirtual 285, 3) := by decide +kernel
theorem dX8_foldBestWay_48 : decode cX8_foldBestWay 48 = .ok (.aload_n 0, 1) := by decide +kernel
theorem dX8_foldBestWay_49 : decode cX8_foldBestWay 49 = .ok (.getfield 51, 3) := by decide +kernel
theorem dX8_foldBestWay_52 : decode cX8_foldBestWay 52 = .ok (.aload_n 0, 1) := by decide +kernel
theorem dX8_foldBestWay_53 : decode cX8_foldBestWay 53 = .ok (.getfield 47, 3) := by decide +kernel
theorem dX8_foldBestWay_56 : decode cX8_foldBestWay 56 = .ok (.invokevirtual 294, 3) := by decide +kernel
theorem dX8_foldBestWay_59 : decode cX8_foldBestWay 59 = .ok (.ifCond .eq 24, 3) := by decide +kernel
theorem dX8_foldBestWay_62 : decode cX8_foldBestWay 62 = .ok (.iload_n 2, 1) := by decide +kernel
theorem dX8_foldBestWay_63 : decode cX8_foldBestWay 63 = .ok (.istore_n 1, 1) := by decide +kernel
theorem dX8_foldBestWay_64 : decode cX8_foldBestWay 64 = .ok (.aload_n 0, 1) := by decide +kernel
theorem dX8_foldBestWay_65 : decode cX8_foldBestWay 65 = .ok (.getfield 47, 3) := by decide +kernel
theorem dX8_foldBestWay_68 : decode cX8_foldBestWay 68 = .ok (.aload_n 0, 1) := by decide +kernel
theorem dX8_foldBestWay_69 : decode cX8_foldBestWay 69 = .ok (.getfield 40, 3) := by decide +kernel
theorem dX8_foldBestWay_72 : decode cX8_foldBestWay 72 = .ok (.aload_n 0, 1) := by decide +kernel
theorem dX8_foldBestWay_73 : decode cX8_foldBestWay 73 = .ok (.getfield 10, 3) := by decide +kernel
theorem dX8_foldBestWay_76 : decode cX8_foldBestWay 76 = .ok (.getfield 72, 3) := by decide +kernel
theorem dX8_foldBestWay_79 : decode cX8_foldBestWay 79 = .ok (.iload_n 1, 1) := by decide +kernel
theorem dX8_foldBestWay_80 : decode cX8_foldBestWay 80 = .ok (.invokevirtual 285, 3) := by decide +kernel
theorem dX8_foldBestWay_83 : decode cX8_foldBestWay 83 = .ok (.iinc 2 1, 3) := by decide +kernel
theorem dX8_foldBestWay_86 : decode cX8_foldBestWay 86 = .ok (.goto (-63), 3) := by decide +kernel
theorem dX8_foldBestWay_89 : decode cX8_foldBestWay 89 = .ok (.iload_n 1, 1) := by decide +kernel
theorem dX8_foldBestWay_90 : decode cX8_foldBestWay 90 = .ok (.ireturn, 1) := by decide +kernel
set_option maxRecDepth 20000 in
theorem ggX8_firstLineOf_X3_valueOf : GoodIn wsX8_firstLineOf wsX3_valueOf := goodIn_r _ [9, 10, 109, 110, 111, 112] (by decide +kernel) (by decide +kernel)
set_option maxRecDepth 20000 in
theorem gX8_firstLineOf_X3_valueOf : GoodIn wsX8_firstLineOf (wsV RX8 102 RX3 yX3_valueOf wsX3_valueOf) := goodIn_app (goodIn_of _ (by decide +kernel)) ggX8_firstLineOf_X3_valueOf
set_option maxRecDepth 20000 in
theorem ggX8_firstLineOf_X8_sideIn : GoodIn wsX8_firstLineOf wsX8_sideIn := goodIn_r _ [14] (by decide +kernel) (by decide +kernel)
set_option maxRecDepth 20000 in
theorem gX8_firstLineOf_X8_sideIn : GoodIn wsX8_firstLineOf (va_wsS RX8 128 yX8_sideIn wsX8_sideIn) := goodIn_app (goodIn_of _ (by decide +kernel)) ggX8_firstLineOf_X8_sideIn
set_option maxRecDepth 20000 in
theorem ggX8_firstLineOf_X0_lay : GoodIn wsX8_firstLineOf wsX0_lay := goodIn_r _ [19, 20, 21, 22, 12, 13, 14, 23, 24, 25, 18, 26, 27, 28, 29, 30, 31, 32, 33, 34, 35, 36, 37, 38, 39, 40, 41, 42, 43, 44, 45, 46, 47, 48, 49, 50, 51, 52, 8, 53, 54, 55, 56, 57, 6, 7, 9, 10, 58, 59, 60, 61, 62, 63, 64, 65, 66, 67, 68, 69, 70, 71, 72, 73, 74, 75, 76, 77, 78, 79, 80, 81, 82, 113, 114, 115, 116, 117, 118, 119, 109, 110, 111, 112, 120, 121, 122, 123, 124, 125, 126, 127, 128, 129, 130, 131, 132] (by decide +kernel) (by decide +kernel)
set_option maxRecDepth 20000 in
theorem gX8_firstLineOf_X0_lay : GoodIn wsX8_firstLineOf (wsV RX8 241 RX0 yX0_lay wsX0_lay) := goodIn_app (goodIn_of _ (by decide +kernel)) ggX8_firstLineOf_X0_lay
set_option maxRecDepth 20000 in
theorem ggX8_firstLineOf_X0_blockOfDish : GoodIn wsX8_firstLineOf wsX0_blockOfDish := goodIn_r _ [86, 20, 42, 43, 113, 114, 115, 116, 117, 118, 119] (by decide +kernel) (by decide +kernel)
set_option maxRecDepth 20000 in
theorem gX8_firstLineOf_X0_blockOfDish : GoodIn wsX8_firstLineOf (wsV RX8 298 RX0 yX0_blockOfDish wsX0_blockOfDish) := goodIn_app (goodIn_of _ (by decide +kernel)) ggX8_firstLineOf_X0_blockOfDish
set_option maxRecDepth 20000 in
theorem ggX8_firstLineOf_X0_startOf : GoodIn wsX8_firstLineOf wsX0_startOf := goodIn_r _ [90, 44, 91, 92, 93, 18, 94, 20, 95, 13, 96, 113, 114, 115, 116, 117, 118, 119] (by decide +kernel) (by decide +kernel)
set_option maxRecDepth 20000 in
theorem gX8_firstLineOf_X0_startOf : GoodIn wsX8_firstLineOf (wsV RX8 254 RX0 yX0_startOf wsX0_startOf) := goodIn_app (goodIn_of _ (by decide +kernel)) ggX8_firstLineOf_X0_startOf
theorem dX8_firstLineOf_0 : decode cX8_firstLineOf 0 = .ok (.aload_n 0, 1) := by decide +kernel
theorem dX8_firstLineOf_1 : decode cX8_firstLineOf 1 = .ok (.getfield 10, 3) := by decide +kernel
theorem dX8_firstLineOf_4 : decode cX8_firstLineOf 4 = .ok (.getfield 72, 3) := by decide +kernel
theorem dX8_firstLineOf_7 : decode cX8_firstLineOf 7 = .ok (.getfield 124, 3) := by decide +kernel
theorem dX8_firstLineOf_10 : decode cX8_firstLineOf 10 = .ok (.aload_n 0, 1) := by decide +kernel
theorem dX8_firstLineOf_11 : decode cX8_firstLineOf 11 = .ok (.getfield 10, 3) := by decide +kernel
theorem dX8_firstLineOf_14 : decode cX8_firstLineOf 14 = .ok (.getfield 72, 3) := by decide +kernel
theorem dX8_firstLineOf_17 : decode cX8_firstLineOf 17 = .ok (.iload_n 1, 1) := by decide +kernel
theorem dX8_firstLineOf_18 : decode cX8_firstLineOf 18 = .ok (.iconst 0, 1) := by decide +kernel
theorem dX8_firstLineOf_19 : decode cX8_firstLineOf 19 = .ok (.invokevirtual 102, 3) := by decide +kernel
theorem dX8_firstLineOf_22 : decode cX8_firstLineOf 22 = .ok (.invokestatic 128, 3) := by decide +kernel
theorem dX8_firstLineOf_25 : decode cX8_firstLineOf 25 = .ok (.istore_n 2, 1) := by decide +kernel
theorem dX8_firstLineOf_26 : decode cX8_firstLineOf 26 = .ok (.aload_n 0, 1) := by decide +kernel
theorem dX8_firstLineOf_27 : decode cX8_firstLineOf 27 = .ok (.getfield 57, 3) := by decide +kernel
theorem dX8_firstLineOf_30 : decode cX8_firstLineOf 30 = .ok (.aload_n 0, 1) := by decide +kernel
theorem dX8_firstLineOf_31 : decode cX8_firstLineOf 31 = .ok (.getfield 10, 3) := by decide +kernel
theorem dX8_firstLineOf_34 : decode cX8_firstLineOf 34 = .ok (.getfield 72, 3) := by decide +kernel
theorem dX8_firstLineOf_37 : decode cX8_firstLineOf 37 = .ok (.aload_n 0, 1) := by decide +kernel
theorem dX8_firstLineOf_38 : decode cX8_firstLineOf 38 = .ok (.getfield 40, 3) := by decide +kernel
theorem dX8_firstLineOf_41 : decode cX8_firstLineOf 41 = .ok (.aload_n 0, 1) := by decide +kernel
theorem dX8_firstLineOf_42 : decode cX8_firstLineOf 42 = .ok (.getfield 47, 3) := by decide +kernel
theorem dX8_firstLineOf_45 : decode cX8_firstLineOf 45 = .ok (.iload_n 2, 1) := by decide +kernel
theorem dX8_firstLineOf_46 : decode cX8_firstLineOf 46 = .ok (.invokevirtual 241, 3) := by decide +kernel
theorem dX8_firstLineOf_49 : decode cX8_firstLineOf 49 = .ok (.aload_n 0, 1) := by decide +kernel
theorem dX8_firstLineOf_50 : decode cX8_firstLineOf 50 = .ok (.getfield 57, 3) := by decide +kernel
theorem dX8_firstLineOf_53 : decode cX8_firstLineOf 53 = .ok (.aload_n 0, 1) := by decide +kernel
theorem dX8_firstLineOf_54 : decode cX8_firstLineOf 54 = .ok (.getfield 57, 3) := by decide +kernel
theorem dX8_firstLineOf_57 : decode cX8_firstLineOf 57 = .ok (.iload_n 1, 1) := by decide +kernel
theorem dX8_firstLineOf_58 : decode cX8_firstLineOf 58 = .ok (.invokevirtual 298, 3) := by decide +kernel
theorem dX8_firstLineOf_61 : decode cX8_firstLineOf 61 = .ok (.invokevirtual 254, 3) := by decide +kernel
theorem dX8_firstLineOf_64 : decode cX8_firstLineOf 64 = .ok (.ireturn, 1) := by decide +kernel
theorem dX8_headingLine_0 : decode cX8_headingLine 0 = .ok (.iload_n 3, 1) := by decide +kernel
theorem dX8_headingLine_1 : decode cX8_headingLine 1 = .ok (.tableswitch 42 1 3 #[27, 29, 31], 27) := by decide +kernel
theorem dX8_headingLine_28 : decode cX8_headingLine 28 = .ok (.iload_n 1, 1) := by decide +kernel
theorem dX8_headingLine_29 : decode cX8_headingLine 29 = .ok (.ireturn, 1) := by decide +kernel
theorem dX8_headingLine_30 : decode cX8_headingLine 30 = .ok (.iload_n 2, 1) := by decide +kernel
theorem dX8_headingLine_31 : decode cX8_headingLine 31 = .ok (.ireturn, 1) := by decide +kernel
theorem dX8_headingLine_32 : decode cX8_headingLine 32 = .ok (.iload_n 2, 1) := by decide +kernel
theorem dX8_headingLine_33 : decode cX8_headingLine 33 = .ok (.ifCond .ne 8, 3) := by decide +kernel
theorem dX8_headingLine_36 : decode cX8_headingLine 36 = .ok (.bipush 6, 2) := by decide +kernel
theorem dX8_headingLine_38 : decode cX8_headingLine 38 = .ok (.goto 4, 3) := by decide +kernel
theorem dX8_headingLine_41 : decode cX8_headingLine 41 = .ok (.iconst 0, 1) := by decide +kernel
theorem dX8_headingLine_42 : decode cX8_headingLine 42 = .ok (.ireturn, 1) := by decide +kernel
theorem dX8_headingLine_43 : decode cX8_headingLine 43 = .ok (.iconst 0, 1) := by decide +kernel
theorem dX8_headingLine_44 : decode cX8_headingLine 44 = .ok (.ireturn, 1) := by decide +kernel
set_option maxRecDepth 20000 in
theorem ggX8_dishLine_X3_setting : GoodIn wsX8_dishLine wsX3_setting := goodIn_r _ [14, 15, 62, 63, 64, 65] (by decide +kernel) (by decide +kernel)
set_option maxRecDepth 20000 in
theorem gX8_dishLine_X3_setting : GoodIn wsX8_dishLine (wsV RX8 109 RX3 yX3_setting wsX3_setting) := goodIn_app (goodIn_of _ (by decide +kernel)) ggX8_dishLine_X3_setting
set_option maxRecDepth 20000 in
theorem ggX8_dishLine_X3_textOf : GoodIn wsX8_dishLine wsX3_textOf := goodIn_r _ [19, 20, 21, 22, 13, 23, 24, 25, 26, 27, 28, 29, 30, 31, 62, 63, 64, 65] (by decide +kernel) (by decide +kernel)
set_option maxRecDepth 20000 in
theorem gX8_dishLine_X3_textOf : GoodIn wsX8_dishLine (wsV RX8 301 RX3 yX3_textOf wsX3_textOf) := goodIn_app (goodIn_of _ (by decide +kernel)) ggX8_dishLine_X3_textOf
set_option maxRecDepth 20000 in
theorem ggX8_dishLine_X3_linesOf : GoodIn wsX8_dishLine wsX3_linesOf := goodIn_r _ [35, 36, 17, 18, 13, 19, 20, 21, 22, 23, 24, 25, 26, 27, 28, 29, 30, 31, 37, 11, 12, 14, 15, 38, 39, 40, 62, 63, 64, 65] (by decide +kernel) (by decide +kernel)
set_option maxRecDepth 20000 in
theorem gX8_dishLine_X3_linesOf : GoodIn wsX8_dishLine (wsV RX8 236 RX3 yX3_linesOf wsX3_linesOf) := goodIn_app (goodIn_of _ (by decide +kernel)) ggX8_dishLine_X3_linesOf
set_option maxRecDepth 20000 in
theorem ggX8_dishLine_X3_valueOf : GoodIn wsX8_dishLine wsX3_valueOf := goodIn_r _ [23, 24, 62, 63, 64, 65] (by decide +kernel) (by decide +kernel)
set_option maxRecDepth 20000 in
theorem gX8_dishLine_X3_valueOf : GoodIn wsX8_dishLine (wsV RX8 102 RX3 yX3_valueOf wsX3_valueOf) := goodIn_app (goodIn_of _ (by decide +kernel)) ggX8_dishLine_X3_valueOf
theorem dX8_dishLine_0 : decode cX8_dishLine 0 = .ok (.aload_n 0, 1) := by decide +kernel
theorem dX8_dishLine_1 : decode cX8_dishLine 1 = .ok (.getfield 10, 3) := by decide +kernel
theorem dX8_dishLine_4 : decode cX8_dishLine 4 = .ok (.getfield 72, 3) := by decide +kernel
theorem dX8_dishLine_7 : decode cX8_dishLine 7 = .ok (.iconst 1, 1) := by decide +kernel
theorem dX8_dishLine_8 : decode cX8_dishLine 8 = .ok (.invokevirtual 109, 3) := by decide +kernel
theorem dX8_dishLine_11 : decode cX8_dishLine 11 = .ok (.istore 4, 2) := by decide +kernel
theorem dX8_dishLine_13 : decode cX8_dishLine 13 = .ok (.iconst 0, 1) := by decide +kernel
theorem dX8_dishLine_14 : decode cX8_dishLine 14 = .ok (.iload 4, 2) := by decide +kernel
theorem dX8_dishLine_16 : decode cX8_dishLine 16 = .ok (.aload_n 0, 1) := by decide +kernel
theorem dX8_dishLine_17 : decode cX8_dishLine 17 = .ok (.getfield 10, 3) := by decide +kernel
theorem dX8_dishLine_20 : decode cX8_dishLine 20 = .ok (.getfield 72, 3) := by decide +kernel
theorem dX8_dishLine_23 : decode cX8_dishLine 23 = .ok (.iload_n 1, 1) := by decide +kernel
theorem dX8_dishLine_24 : decode cX8_dishLine 24 = .ok (.invokevirtual 301, 3) := by decide +kernel
theorem dX8_dishLine_27 : decode cX8_dishLine 27 = .ok (.iload_n 2, 1) := by decide +kernel
theorem dX8_dishLine_28 : decode cX8_dishLine 28 = .ok (.iload 4, 2) := by decide +kernel
theorem dX8_dishLine_30 : decode cX8_dishLine 30 = .ok (.imul, 1) := by decide +kernel
theorem dX8_dishLine_31 : decode cX8_dishLine 31 = .ok (.isub, 1) := by decide +kernel
theorem dX8_dishLine_32 : decode cX8_dishLine 32 = .ok (.invokestatic 304, 3) := by decide +kernel
theorem dX8_dishLine_35 : decode cX8_dishLine 35 = .ok (.invokestatic 309, 3) := by decide +kernel
theorem dX8_dishLine_38 : decode cX8_dishLine 38 = .ok (.istore 5, 2) := by decide +kernel
theorem dX8_dishLine_40 : decode cX8_dishLine 40 = .ok (.iload_n 2, 1) := by decide +kernel
theorem dX8_dishLine_41 : decode cX8_dishLine 41 = .ok (.aload_n 0, 1) := by decide +kernel
theorem dX8_dishLine_42 : decode cX8_dishLine 42 = .ok (.getfield 10, 3) := by decide +kernel
theorem dX8_dishLine_45 : decode cX8_dishLine 45 = .ok (.getfield 72, 3) := by decide +kernel
theorem dX8_dishLine_48 : decode cX8_dishLine 48 = .ok (.iload_n 1, 1) := by decide +kernel
theorem dX8_dishLine_49 : decode cX8_dishLine 49 = .ok (.aload_n 0, 1) := by decide +kernel
theorem dX8_dishLine_50 : decode cX8_dishLine 50 = .ok (.getfield 40, 3) := by decide +kernel
theorem dX8_dishLine_53 : decode cX8_dishLine 53 = .ok (.getfield 202, 3) := by decide +kernel
theorem dX8_dishLine_56 : decode cX8_dishLine 56 = .ok (.invokevirtual 236, 3) := by decide +kernel
theorem dX8_dishLine_59 : decode cX8_dishLine 59 = .ok (.iconst 1, 1) := by decide +kernel
theorem dX8_dishLine_60 : decode cX8_dishLine 60 = .ok (.isub, 1) := by decide +kernel
theorem dX8_dishLine_61 : decode cX8_dishLine 61 = .ok (.if_icmp .ne 7, 3) := by decide +kernel
theorem dX8_dishLine_64 : decode cX8_dishLine 64 = .ok (.iconst 1, 1) := by decide +kernel
theorem dX8_dishLine_65 : decode cX8_dishLine 65 = .ok (.goto 4, 3) := by decide +kernel
theorem dX8_dishLine_68 : decode cX8_dishLine 68 = .ok (.iconst 0, 1) := by decide +kernel
theorem dX8_dishLine_69 : decode cX8_dishLine 69 = .ok (.istore 6, 2) := by decide +kernel
theorem dX8_dishLine_71 : decode cX8_dishLine 71 = .ok (.iload_n 3, 1) := by decide +kernel
theorem dX8_dishLine_72 : decode cX8_dishLine 72 = .ok (.tableswitch 62 1 4 #[32, 34, 36, 59], 32) := by decide +kernel
theorem dX8_dishLine_104 : decode cX8_dishLine 104 = .ok (.iload_n 1, 1) := by decide +kernel
theorem dX8_dishLine_105 : decode cX8_dishLine 105 = .ok (.ireturn, 1) := by decide +kernel
theorem dX8_dishLine_106 : decode cX8_dishLine 106 = .ok (.iload_n 2, 1) := by decide +kernel
theorem dX8_dishLine_107 : decode cX8_dishLine 107 = .ok (.ireturn, 1) := by decide +kernel
theorem dX8_dishLine_108 : decode cX8_dishLine 108 = .ok (.aload_n 0, 1) := by decide +kernel
theorem dX8_dishLine_109 : decode cX8_dishLine 109 = .ok (.getfield 10, 3) := by decide +kernel
theorem dX8_dishLine_112 : decode cX8_dishLine 112 = .ok (.getfield 72, 3) := by decide +kernel
theorem dX8_dishLine_115 : decode cX8_dishLine 115 = .ok (.iload_n 1, 1) := by decide +kernel
theorem dX8_dishLine_116 : decode cX8_dishLine 116 = .ok (.iconst 5, 1) := by decide +kernel
theorem dX8_dishLine_117 : decode cX8_dishLine 117 = .ok (.invokevirtual 102, 3) := by decide +kernel
theorem dX8_dishLine_120 : decode cX8_dishLine 120 = .ok (.iload_n 2, 1) := by decide +kernel
theorem dX8_dishLine_121 : decode cX8_dishLine 121 = .ok (.ifCond .ne 7, 3) := by decide +kernel
theorem dX8_dishLine_124 : decode cX8_dishLine 124 = .ok (.iconst 2, 1) := by decide +kernel
theorem dX8_dishLine_125 : decode cX8_dishLine 125 = .ok (.goto 4, 3) := by decide +kernel
theorem dX8_dishLine_128 : decode cX8_dishLine 128 = .ok (.iconst 0, 1) := by decide +kernel
theorem dX8_dishLine_129 : decode cX8_dishLine 129 = .ok (.iadd, 1) := by decide +kernel
theorem dX8_dishLine_130 : decode cX8_dishLine 130 = .ok (.ireturn, 1) := by decide +kernel
theorem dX8_dishLine_131 : decode cX8_dishLine 131 = .ok (.iload 5, 2) := by decide +kernel
theorem dX8_dishLine_133 : decode cX8_dishLine 133 = .ok (.ireturn, 1) := by decide +kernel
theorem dX8_dishLine_134 : decode cX8_dishLine 134 = .ok (.iload 6, 2) := by decide +kernel
theorem dX8_dishLine_136 : decode cX8_dishLine 136 = .ok (.ifCond .eq 19, 3) := by decide +kernel
theorem dX8_dishLine_139 : decode cX8_dishLine 139 = .ok (.iload 4, 2) := by decide +kernel
theorem dX8_dishLine_141 : decode cX8_dishLine 141 = .ok (.iload 5, 2) := by decide +kernel
theorem dX8_dishLine_143 : decode cX8_dishLine 143 = .ok (.isub, 1) := by decide +kernel
theorem dX8_dishLine_144 : decode cX8_dishLine 144 = .ok (.aload_n 0, 1) := by decide +kernel
theorem dX8_dishLine_145 : decode cX8_dishLine 145 = .ok (.getfield 40, 3) := by decide +kernel
theorem dX8_dishLine_148 : decode cX8_dishLine 148 = .ok (.getfield 202, 3) := by decide +kernel
theorem dX8_dishLine_151 : decode cX8_dishLine 151 = .ok (.isub, 1) := by decide +kernel
theorem dX8_dishLine_152 : decode cX8_dishLine 152 = .ok (.goto 4, 3) := by decide +kernel
theorem dX8_dishLine_155 : decode cX8_dishLine 155 = .ok (.iconst 0, 1) := by decide +kernel
theorem dX8_dishLine_156 : decode cX8_dishLine 156 = .ok (.ireturn, 1) := by decide +kernel
set_option maxRecDepth 20000 in
theorem ggX8_keyLine_X8_memberOf : GoodIn wsX8_keyLine wsX8_memberOf := goodIn_r _ [9, 10, 11, 8, 12] (by decide +kernel) (by decide +kernel)
set_option maxRecDepth 20000 in
theorem gX8_keyLine_X8_memberOf : GoodIn wsX8_keyLine (va_wsS RX8 312 yX8_memberOf wsX8_memberOf) := goodIn_app (goodIn_of _ (by decide +kernel)) ggX8_keyLine_X8_memberOf
set_option maxRecDepth 20000 in
theorem ggX8_keyLine_J6_bitCount_0f7a4 : GoodIn wsX8_keyLine wsJ6_bitCount_0f7a4 := goodIn_r _ [16, 17, 18, 19] (by decide +kernel) (by decide +kernel)
set_option maxRecDepth 20000 in
theorem gX8_keyLine_J6_bitCount_0f7a4 : GoodIn wsX8_keyLine (va_wsS RX8 208 yJ6_bitCount_0f7a4 wsJ6_bitCount_0f7a4) := goodIn_app (goodIn_of _ (by decide +kernel)) ggX8_keyLine_J6_bitCount_0f7a4
theorem dX8_keyLine_0 : decode cX8_keyLine 0 = .ok (.iload_n 1, 1) := by decide +kernel
theorem dX8_keyLine_1 : decode cX8_keyLine 1 = .ok (.iconst 3, 1) := by decide +kernel
theorem dX8_keyLine_2 : decode cX8_keyLine 2 = .ok (.imul, 1) := by decide +kernel
theorem dX8_keyLine_3 : decode cX8_keyLine 3 = .ok (.istore_n 3, 1) := by decide +kernel
theorem dX8_keyLine_4 : decode cX8_keyLine 4 = .ok (.iload_n 2, 1) := by decide +kernel
theorem dX8_keyLine_5 : decode cX8_keyLine 5 = .ok (.tableswitch 58 1 3 #[27, 39, 41], 27) := by decide +kernel
theorem dX8_keyLine_32 : decode cX8_keyLine 32 = .ok (.aload_n 0, 1) := by decide +kernel
theorem dX8_keyLine_33 : decode cX8_keyLine 33 = .ok (.getfield 40, 3) := by decide +kernel
theorem dX8_keyLine_36 : decode cX8_keyLine 36 = .ok (.getfield 205, 3) := by decide +kernel
theorem dX8_keyLine_39 : decode cX8_keyLine 39 = .ok (.iload_n 3, 1) := by decide +kernel
theorem dX8_keyLine_40 : decode cX8_keyLine 40 = .ok (.invokestatic 312, 3) := by decide +kernel
theorem dX8_keyLine_43 : decode cX8_keyLine 43 = .ok (.ireturn, 1) := by decide +kernel
theorem dX8_keyLine_44 : decode cX8_keyLine 44 = .ok (.iload_n 1, 1) := by decide +kernel
theorem dX8_keyLine_45 : decode cX8_keyLine 45 = .ok (.ireturn, 1) := by decide +kernel
theorem dX8_keyLine_46 : decode cX8_keyLine 46 = .ok (.iconst 3, 1) := by decide +kernel
theorem dX8_keyLine_47 : decode cX8_keyLine 47 = .ok (.aload_n 0, 1) := by decide +kernel
theorem dX8_keyLine_48 : decode cX8_keyLine 48 = .ok (.getfield 40, 3) := by decide +kernel
theorem dX8_keyLine_51 : decode cX8_keyLine 51 = .ok (.getfield 205, 3) := by decide +kernel
theorem dX8_keyLine_54 : decode cX8_keyLine 54 = .ok (.invokestatic 208, 3) := by decide +kernel
theorem dX8_keyLine_57 : decode cX8_keyLine 57 = .ok (.iload_n 3, 1) := by decide +kernel
theorem dX8_keyLine_58 : decode cX8_keyLine 58 = .ok (.isub, 1) := by decide +kernel
theorem dX8_keyLine_59 : decode cX8_keyLine 59 = .ok (.invokestatic 304, 3) := by decide +kernel
theorem dX8_keyLine_62 : decode cX8_keyLine 62 = .ok (.ireturn, 1) := by decide +kernel
theorem dX8_keyLine_63 : decode cX8_keyLine 63 = .ok (.iconst 0, 1) := by decide +kernel
theorem dX8_keyLine_64 : decode cX8_keyLine 64 = .ok (.ireturn, 1) := by decide +kernel
set_option maxRecDepth 20000 in
theorem ggX8_areSetArguments_X8_isSide : GoodIn wsX8_areSetArguments wsX8_isSide := goodIn_r _ [4, 5, 6, 3, 7] (by decide +kernel) (by decide +kernel)
set_option maxRecDepth 20000 in
theorem gX8_areSetArguments_X8_isSide : GoodIn wsX8_areSetArguments (va_wsS RX8 121 yX8_isSide wsX8_isSide) := goodIn_app (goodIn_of _ (by decide +kernel)) ggX8_areSetArguments_X8_isSide
set_option maxRecDepth 20000 in
theorem ggX8_areSetArguments_X8_inRange : GoodIn wsX8_areSetArguments wsX8_inRange := goodIn_r _ [7] (by decide +kernel) (by decide +kernel)
set_option maxRecDepth 20000 in
theorem gX8_areSetArguments_X8_inRange : GoodIn wsX8_areSetArguments (va_wsS RX8 117 yX8_inRange wsX8_inRange) := goodIn_app (goodIn_of _ (by decide +kernel)) ggX8_areSetArguments_X8_inRange
theorem dX8_areSetArguments_0 : decode cX8_areSetArguments 0 = .ok (.iload_n 0, 1) := by decide +kernel
theorem dX8_areSetArguments_1 : decode cX8_areSetArguments 1 = .ok (.invokestatic 121, 3) := by decide +kernel
theorem dX8_areSetArguments_4 : decode cX8_areSetArguments 4 = .ok (.ifCond .eq 27, 3) := by decide +kernel
theorem dX8_areSetArguments_7 : decode cX8_areSetArguments 7 = .ok (.iload_n 1, 1) := by decide +kernel
theorem dX8_areSetArguments_8 : decode cX8_areSetArguments 8 = .ok (.iconst 0, 1) := by decide +kernel
theorem dX8_areSetArguments_9 : decode cX8_areSetArguments 9 = .ok (.sipush 150, 3) := by decide +kernel
theorem dX8_areSetArguments_12 : decode cX8_areSetArguments 12 = .ok (.invokestatic 117, 3) := by decide +kernel
theorem dX8_areSetArguments_15 : decode cX8_areSetArguments 15 = .ok (.ifCond .eq 16, 3) := by decide +kernel
theorem dX8_areSetArguments_18 : decode cX8_areSetArguments 18 = .ok (.iload_n 2, 1) := by decide +kernel
theorem dX8_areSetArguments_19 : decode cX8_areSetArguments 19 = .ok (.iconst 1, 1) := by decide +kernel
theorem dX8_areSetArguments_20 : decode cX8_areSetArguments 20 = .ok (.iconst 4, 1) := by decide +kernel
theorem dX8_areSetArguments_21 : decode cX8_areSetArguments 21 = .ok (.invokestatic 117, 3) := by decide +kernel
theorem dX8_areSetArguments_24 : decode cX8_areSetArguments 24 = .ok (.ifCond .eq 7, 3) := by decide +kernel
theorem dX8_areSetArguments_27 : decode cX8_areSetArguments 27 = .ok (.iconst 1, 1) := by decide +kernel
theorem dX8_areSetArguments_28 : decode cX8_areSetArguments 28 = .ok (.goto 4, 3) := by decide +kernel
theorem dX8_areSetArguments_31 : decode cX8_areSetArguments 31 = .ok (.iconst 0, 1) := by decide +kernel
theorem dX8_areSetArguments_32 : decode cX8_areSetArguments 32 = .ok (.ireturn, 1) := by decide +kernel
set_option maxRecDepth 20000 in
theorem ggX8_isSide_X8_inRange : GoodIn wsX8_isSide wsX8_inRange := goodIn_r _ [4] (by decide +kernel) (by decide +kernel)
set_option maxRecDepth 20000 in
theorem gX8_isSide_X8_inRange : GoodIn wsX8_isSide (va_wsS RX8 117 yX8_inRange wsX8_inRange) := goodIn_app (goodIn_of _ (by decide +kernel)) ggX8_isSide_X8_inRange
theorem dX8_isSide_0 : decode cX8_isSide 0 = .ok (.iload_n 0, 1) := by decide +kernel
theorem dX8_isSide_1 : decode cX8_isSide 1 = .ok (.iconst 0, 1) := by decide +kernel
theorem dX8_isSide_2 : decode cX8_isSide 2 = .ok (.iconst 1, 1) := by decide +kernel
theorem dX8_isSide_3 : decode cX8_isSide 3 = .ok (.invokestatic 117, 3) := by decide +kernel
theorem dX8_isSide_6 : decode cX8_isSide 6 = .ok (.ireturn, 1) := by decide +kernel
set_option maxRecDepth 20000 in
theorem ggX8_isSlot_X8_inRange : GoodIn wsX8_isSlot wsX8_inRange := goodIn_r _ [4] (by decide +kernel) (by decide +kernel)
set_option maxRecDepth 20000 in
theorem gX8_isSlot_X8_inRange : GoodIn wsX8_isSlot (va_wsS RX8 117 yX8_inRange wsX8_inRange) := goodIn_app (goodIn_of _ (by decide +kernel)) ggX8_isSlot_X8_inRange
theorem dX8_isSlot_0 : decode cX8_isSlot 0 = .ok (.iload_n 0, 1) := by decide +kernel
theorem dX8_isSlot_1 : decode cX8_isSlot 1 = .ok (.iconst 0, 1) := by decide +kernel
theorem dX8_isSlot_2 : decode cX8_isSlot 2 = .ok (.iconst 1, 1) := by decide +kernel
theorem dX8_isSlot_3 : decode cX8_isSlot 3 = .ok (.invokestatic 117, 3) := by decide +kernel
theorem dX8_isSlot_6 : decode cX8_isSlot 6 = .ok (.ireturn, 1) := by decide +kernel
set_option maxRecDepth 20000 in
theorem ggX8_isDishValue_X8_inRange : GoodIn wsX8_isDishValue wsX8_inRange := goodIn_r _ [6] (by decide +kernel) (by decide +kernel)
set_option maxRecDepth 20000 in
theorem gX8_isDishValue_X8_inRange : GoodIn wsX8_isDishValue (va_wsS RX8 117 yX8_inRange wsX8_inRange) := goodIn_app (goodIn_of _ (by decide +kernel)) ggX8_isDishValue_X8_inRange
theorem dX8_isDishValue_0 : decode cX8_isDishValue 0 = .ok (.iload_n 0, 1) := by decide +kernel
theorem dX8_isDishValue_1 : decode cX8_isDishValue 1 = .ok (.iconst 0, 1) := by decide +kernel
theorem dX8_isDishValue_2 : decode cX8_isDishValue 2 = .ok (.bipush 6, 2) := by decide +kernel
theorem dX8_isDishValue_4 : decode cX8_isDishValue 4 = .ok (.invokestatic 117, 3) := by decide +kernel
theorem dX8_isDishValue_7 : decode cX8_isDishValue 7 = .ok (.ifCond .eq 24, 3) := by decide +kernel
theorem dX8_isDishValue_10 : decode cX8_isDishValue 10 = .ok (.iload_n 1, 1) := by decide +kernel
theorem dX8_isDishValue_11 : decode cX8_isDishValue 11 = .ok (.getstatic 315, 3) := by decide +kernel
theorem dX8_isDishValue_14 : decode cX8_isDishValue 14 = .ok (.iload_n 0, 1) := by decide +kernel
theorem dX8_isDishValue_15 : decode cX8_isDishValue 15 = .ok (.iaload, 1) := by decide +kernel
theorem dX8_isDishValue_16 : decode cX8_isDishValue 16 = .ok (.getstatic 319, 3) := by decide +kernel
theorem dX8_isDishValue_19 : decode cX8_isDishValue 19 = .ok (.iload_n 0, 1) := by decide +kernel
theorem dX8_isDishValue_20 : decode cX8_isDishValue 20 = .ok (.iaload, 1) := by decide +kernel
theorem dX8_isDishValue_21 : decode cX8_isDishValue 21 = .ok (.invokestatic 117, 3) := by decide +kernel
theorem dX8_isDishValue_24 : decode cX8_isDishValue 24 = .ok (.ifCond .eq 7, 3) := by decide +kernel
theorem dX8_isDishValue_27 : decode cX8_isDishValue 27 = .ok (.iconst 1, 1) := by decide +kernel
theorem dX8_isDishValue_28 : decode cX8_isDishValue 28 = .ok (.goto 4, 3) := by decide +kernel
theorem dX8_isDishValue_31 : decode cX8_isDishValue 31 = .ok (.iconst 0, 1) := by decide +kernel
theorem dX8_isDishValue_32 : decode cX8_isDishValue 32 = .ok (.ireturn, 1) := by decide +kernel
set_option maxRecDepth 20000 in
theorem ggX8_isCardValue_X8_inRange : GoodIn wsX8_isCardValue wsX8_inRange := goodIn_r _ [6] (by decide +kernel) (by decide +kernel)
set_option maxRecDepth 20000 in
theorem gX8_isCardValue_X8_inRange : GoodIn wsX8_isCardValue (va_wsS RX8 117 yX8_inRange wsX8_inRange) := goodIn_app (goodIn_of _ (by decide +kernel)) ggX8_isCardValue_X8_inRange
theorem dX8_isCardValue_0 : decode cX8_isCardValue 0 = .ok (.iload_n 0, 1) := by decide +kernel
theorem dX8_isCardValue_1 : decode cX8_isCardValue 1 = .ok (.iconst 0, 1) := by decide +kernel
theorem dX8_isCardValue_2 : decode cX8_isCardValue 2 = .ok (.iconst 5, 1) := by decide +kernel
theorem dX8_isCardValue_3 : decode cX8_isCardValue 3 = .ok (.invokestatic 117, 3) := by decide +kernel
theorem dX8_isCardValue_6 : decode cX8_isCardValue 6 = .ok (.ifCond .eq 24, 3) := by decide +kernel
theorem dX8_isCardValue_9 : decode cX8_isCardValue 9 = .ok (.iload_n 1, 1) := by decide +kernel
theorem dX8_isCardValue_10 : decode cX8_isCardValue 10 = .ok (.getstatic 322, 3) := by decide +kernel
theorem dX8_isCardValue_13 : decode cX8_isCardValue 13 = .ok (.iload_n 0, 1) := by decide +kernel
theorem dX8_isCardValue_14 : decode cX8_isCardValue 14 = .ok (.iaload, 1) := by decide +kernel
theorem dX8_isCardValue_15 : decode cX8_isCardValue 15 = .ok (.getstatic 325, 3) := by decide +kernel
theorem dX8_isCardValue_18 : decode cX8_isCardValue 18 = .ok (.iload_n 0, 1) := by decide +kernel
theorem dX8_isCardValue_19 : decode cX8_isCardValue 19 = .ok (.iaload, 1) := by decide +kernel
theorem dX8_isCardValue_20 : decode cX8_isCardValue 20 = .ok (.invokestatic 117, 3) := by decide +kernel
theorem dX8_isCardValue_23 : decode cX8_isCardValue 23 = .ok (.ifCond .eq 7, 3) := by decide +kernel
theorem dX8_isCardValue_26 : decode cX8_isCardValue 26 = .ok (.iconst 1, 1) := by decide +kernel
theorem dX8_isCardValue_27 : decode cX8_isCardValue 27 = .ok (.goto 4, 3) := by decide +kernel
theorem dX8_isCardValue_30 : decode cX8_isCardValue 30 = .ok (.iconst 0, 1) := by decide +kernel
theorem dX8_isCardValue_31 : decode cX8_isCardValue 31 = .ok (.ireturn, 1) := by decide +kernel
theorem dX8_inRange_0 : decode cX8_inRange 0 = .ok (.iload_n 1, 1) := by decide +kernel
theorem dX8_inRange_1 : decode cX8_inRange 1 = .ok (.iload_n 0, 1) := by decide +kernel
theorem dX8_inRange_2 : decode cX8_inRange 2 = .ok (.if_icmp .gt 12, 3) := by decide +kernel
theorem dX8_inRange_5 : decode cX8_inRange 5 = .ok (.iload_n 0, 1) := by decide +kernel
theorem dX8_inRange_6 : decode cX8_inRange 6 = .ok (.iload_n 2, 1) := by decide +kernel
theorem dX8_inRange_7 : decode cX8_inRange 7 = .ok (.if_icmp .gt 7, 3) := by decide +kernel
theorem dX8_inRange_10 : decode cX8_inRange 10 = .ok (.iconst 1, 1) := by decide +kernel
theorem dX8_inRange_11 : decode cX8_inRange 11 = .ok (.goto 4, 3) := by decide +kernel
theorem dX8_inRange_14 : decode cX8_inRange 14 = .ok (.iconst 0, 1) := by decide +kernel
theorem dX8_inRange_15 : decode cX8_inRange 15 = .ok (.ireturn, 1) := by decide +kernel
theorem dX8_has_0 : decode cX8_has 0 = .ok (.iload_n 0, 1) := by decide +kernel
theorem dX8_has_1 : decode cX8_has 1 = .ok (.iload_n 1, 1) := by decide +kernel
theorem dX8_has_2 : decode cX8_has 2 = .ok (.ishr, 1) := by decide +kernel
theorem dX8_has_3 : decode cX8_has 3 = .ok (.iconst 1, 1) := by decide +kernel
theorem dX8_has_4 : decode cX8_has 4 = .ok (.iand, 1) := by decide +kernel
theorem dX8_has_5 : decode cX8_has 5 = .ok (.iconst 1, 1) := by decide +kernel
theorem dX8_has_6 : decode cX8_has 6 = .ok (.if_icmp .ne 7, 3) := by decide +kernel
theorem dX8_has_9 : decode cX8_has 9 = .ok (.iconst 1, 1) := by decide +kernel
theorem dX8_has_10 : decode cX8_has 10 = .ok (.goto 4, 3) := by decide +kernel
theorem dX8_has_13 : decode cX8_has 13 = .ok (.iconst 0, 1) := by decide +kernel
theorem dX8_has_14 : decode cX8_has 14 = .ok (.ireturn, 1) := by decide +kernel
theorem dX8_sideIn_0 : decode cX8_sideIn 0 = .ok (.iload_n 0, 1) := by decide +kernel
theorem dX8_sideIn_1 : decode cX8_sideIn 1 = .ok (.iload_n 1, 1) := by decide +kernel
theorem dX8_sideIn_2 : decode cX8_sideIn 2 = .ok (.ishr, 1) := by decide +kernel
theorem dX8_sideIn_3 : decode cX8_sideIn 3 = .ok (.iconst 1, 1) := by decide +kernel
theorem dX8_sideIn_4 : decode cX8_sideIn 4 = .ok (.iand, 1) := by decide +kernel
theorem dX8_sideIn_5 : decode cX8_sideIn 5 = .ok (.ireturn, 1) := by decide +kernel
set_option maxRecDepth 20000 in
theorem ggX8_smallestIn_X8_memberOf : GoodIn wsX8_smallestIn wsX8_memberOf := goodIn_r _ [4, 5, 6, 3, 7] (by decide +kernel) (by decide +kernel)
set_option maxRecDepth 20000 in
theorem gX8_smallestIn_X8_memberOf : GoodIn wsX8_smallestIn (va_wsS RX8 312 yX8_memberOf wsX8_memberOf) := goodIn_app (goodIn_of _ (by decide +kernel)) ggX8_smallestIn_X8_memberOf
theorem dX8_smallestIn_0 : decode cX8_smallestIn 0 = .ok (.iload_n 0, 1) := by decide +kernel
theorem dX8_smallestIn_1 : decode cX8_smallestIn 1 = .ok (.iconst 0, 1) := by decide +kernel
theorem dX8_smallestIn_2 : decode cX8_smallestIn 2 = .ok (.invokestatic 312, 3) := by decide +kernel
theorem dX8_smallestIn_5 : decode cX8_smallestIn 5 = .ok (.ireturn, 1) := by decide +kernel
set_option maxRecDepth 20000 in
theorem ggX8_memberOf_X8_has : GoodIn wsX8_memberOf wsX8_has := goodIn_r _ [4] (by decide +kernel) (by decide +kernel)
set_option maxRecDepth 20000 in
theorem gX8_memberOf_X8_has : GoodIn wsX8_memberOf (va_wsS RX8 233 yX8_has wsX8_has) := goodIn_app (goodIn_of _ (by decide +kernel)) ggX8_memberOf_X8_has
theorem dX8_memberOf_0 : decode cX8_memberOf 0 = .ok (.iconst 0, 1) := by decide +kernel
theorem dX8_memberOf_1 : decode cX8_memberOf 1 = .ok (.istore_n 2, 1) := by decide +kernel
theorem dX8_memberOf_2 : decode cX8_memberOf 2 = .ok (.iconst 0, 1) := by decide +kernel
theorem dX8_memberOf_3 : decode cX8_memberOf 3 = .ok (.istore_n 3, 1) := by decide +kernel
theorem dX8_memberOf_4 : decode cX8_memberOf 4 = .ok (.iload_n 3, 1) := by decide +kernel
theorem dX8_memberOf_5 : decode cX8_memberOf 5 = .ok (.bipush 20, 2) := by decide +kernel
theorem dX8_memberOf_7 : decode cX8_memberOf 7 = .ok (.if_icmp .ge 27, 3) := by decide +kernel
theorem dX8_memberOf_10 : decode cX8_memberOf 10 = .ok (.iload_n 0, 1) := by decide +kernel
theorem dX8_memberOf_11 : decode cX8_memberOf 11 = .ok (.iload_n 3, 1) := by decide +kernel
theorem dX8_memberOf_12 : decode cX8_memberOf 12 = .ok (.invokestatic 233, 3) := by decide +kernel
theorem dX8_memberOf_15 : decode cX8_memberOf 15 = .ok (.ifCond .eq 13, 3) := by decide +kernel
theorem dX8_memberOf_18 : decode cX8_memberOf 18 = .ok (.iload_n 2, 1) := by decide +kernel
theorem dX8_memberOf_19 : decode cX8_memberOf 19 = .ok (.iload_n 1, 1) := by decide +kernel
theorem dX8_memberOf_20 : decode cX8_memberOf 20 = .ok (.if_icmp .ne 5, 3) := by decide +kernel
theorem dX8_memberOf_23 : decode cX8_memberOf 23 = .ok (.iload_n 3, 1) := by decide +kernel
theorem dX8_memberOf_24 : decode cX8_memberOf 24 = .ok (.ireturn, 1) := by decide +kernel
theorem dX8_memberOf_25 : decode cX8_memberOf 25 = .ok (.iinc 2 1, 3) := by decide +kernel
theorem dX8_memberOf_28 : decode cX8_memberOf 28 = .ok (.iinc 3 1, 3) := by decide +kernel
theorem dX8_memberOf_31 : decode cX8_memberOf 31 = .ok (.goto (-27), 3) := by decide +kernel
theorem dX8_memberOf_34 : decode cX8_memberOf 34 = .ok (.bipush (-99), 2) := by decide +kernel
theorem dX8_memberOf_36 : decode cX8_memberOf 36 = .ok (.ireturn, 1) := by decide +kernel
theorem dX8_partsOfSize_0 : decode cX8_partsOfSize 0 = .ok (.iload_n 1, 1) := by decide +kernel
theorem dX8_partsOfSize_1 : decode cX8_partsOfSize 1 = .ok (.iconst 1, 1) := by decide +kernel
theorem dX8_partsOfSize_2 : decode cX8_partsOfSize 2 = .ok (.if_icmp .ge 7, 3) := by decide +kernel
theorem dX8_partsOfSize_5 : decode cX8_partsOfSize 5 = .ok (.iconst 0, 1) := by decide +kernel
theorem dX8_partsOfSize_6 : decode cX8_partsOfSize 6 = .ok (.goto 10, 3) := by decide +kernel
theorem dX8_partsOfSize_9 : decode cX8_partsOfSize 9 = .ok (.iload_n 0, 1) := by decide +kernel
theorem dX8_partsOfSize_10 : decode cX8_partsOfSize 10 = .ok (.iload_n 1, 1) := by decide +kernel
theorem dX8_partsOfSize_11 : decode cX8_partsOfSize 11 = .ok (.iadd, 1) := by decide +kernel
theorem dX8_partsOfSize_12 : decode cX8_partsOfSize 12 = .ok (.iconst 1, 1) := by decide +kernel
theorem dX8_partsOfSize_13 : decode cX8_partsOfSize 13 = .ok (.isub, 1) := by decide +kernel
theorem dX8_partsOfSize_14 : decode cX8_partsOfSize 14 = .ok (.iload_n 1, 1) := by decide +kernel
theorem dX8_partsOfSize_15 : decode cX8_partsOfSize 15 = .ok (.idiv, 1) := by decide +kernel
theorem dX8_partsOfSize_16 : decode cX8_partsOfSize 16 = .ok (.ireturn, 1) := by decide +kernel
theorem dX8_digitsOf_0 : decode cX8_digitsOf 0 = .ok (.iload_n 0, 1) := by decide +kernel
theorem dX8_digitsOf_1 : decode cX8_digitsOf 1 = .ok (.sipush 999, 3) := by decide +kernel
theorem dX8_digitsOf_4 : decode cX8_digitsOf 4 = .ok (.if_icmp .le 5, 3) := by decide +kernel
theorem dX8_digitsOf_7 : decode cX8_digitsOf 7 = .ok (.iconst 4, 1) := by decide +kernel
theorem dX8_digitsOf_8 : decode cX8_digitsOf 8 = .ok (.ireturn, 1) := by decide +kernel
theorem dX8_digitsOf_9 : decode cX8_digitsOf 9 = .ok (.iload_n 0, 1) := by decide +kernel
theorem dX8_digitsOf_10 : decode cX8_digitsOf 10 = .ok (.bipush 99, 2) := by decide +kernel
theorem dX8_digitsOf_12 : decode cX8_digitsOf 12 = .ok (.if_icmp .le 5, 3) := by decide +kernel
theorem dX8_digitsOf_15 : decode cX8_digitsOf 15 = .ok (.iconst 3, 1) := by decide +kernel
theorem dX8_digitsOf_16 : decode cX8_digitsOf 16 = .ok (.ireturn, 1) := by decide +kernel
theorem dX8_digitsOf_17 : decode cX8_digitsOf 17 = .ok (.iload_n 0, 1) := by decide +kernel
theorem dX8_digitsOf_18 : decode cX8_digitsOf 18 = .ok (.bipush 9, 2) := by decide +kernel
theorem dX8_digitsOf_20 : decode cX8_digitsOf 20 = .ok (.if_icmp .le 5, 3) := by decide +kernel
theorem dX8_digitsOf_23 : decode cX8_digitsOf 23 = .ok (.iconst 2, 1) := by decide +kernel
theorem dX8_digitsOf_24 : decode cX8_digitsOf 24 = .ok (.ireturn, 1) := by decide +kernel
theorem dX8_digitsOf_25 : decode cX8_digitsOf 25 = .ok (.iload_n 0, 1) := by decide +kernel
theorem dX8_digitsOf_26 : decode cX8_digitsOf 26 = .ok (.ifCond .le 7, 3) := by decide +kernel
theorem dX8_digitsOf_29 : decode cX8_digitsOf 29 = .ok (.iconst 1, 1) := by decide +kernel
theorem dX8_digitsOf_30 : decode cX8_digitsOf 30 = .ok (.goto 4, 3) := by decide +kernel
theorem dX8_digitsOf_33 : decode cX8_digitsOf 33 = .ok (.iconst 0, 1) := by decide +kernel
theorem dX8_digitsOf_34 : decode cX8_digitsOf 34 = .ok (.ireturn, 1) := by decide +kernel
