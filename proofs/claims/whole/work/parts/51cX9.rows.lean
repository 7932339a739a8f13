theorem dX9_init_0 : decode cX9_init 0 = .ok (.aload_n 0, 1) := by decide +kernel
theorem dX9_init_1 : decode cX9_init 1 = .ok (.invokespecial 1, 3) := by decide +kernel
theorem dX9_init_4 : decode cX9_init 4 = .ok (.aload_n 0, 1) := by decide +kernel
theorem dX9_init_5 : decode cX9_init 5 = .ok (.sipush 455, 3) := by decide +kernel
theorem dX9_init_8 : decode cX9_init 8 = .ok (.newarray .int, 2) := by decide +kernel
theorem dX9_init_10 : decode cX9_init 10 = .ok (.putfield 7, 3) := by decide +kernel
theorem dX9_init_13 : decode cX9_init 13 = .ok (.aload_n 0, 1) := by decide +kernel
theorem dX9_init_14 : decode cX9_init 14 = .ok (.sipush 455, 3) := by decide +kernel
theorem dX9_init_17 : decode cX9_init 17 = .ok (.newarray .int, 2) := by decide +kernel
theorem dX9_init_19 : decode cX9_init 19 = .ok (.putfield 13, 3) := by decide +kernel
theorem dX9_init_22 : decode cX9_init 22 = .ok (.aload_n 0, 1) := by decide +kernel
theorem dX9_init_23 : decode cX9_init 23 = .ok (.sipush 2275, 3) := by decide +kernel
theorem dX9_init_26 : decode cX9_init 26 = .ok (.newarray .int, 2) := by decide +kernel
theorem dX9_init_28 : decode cX9_init 28 = .ok (.putfield 16, 3) := by decide +kernel
theorem dX9_init_31 : decode cX9_init 31 = .ok (.aload_n 0, 1) := by decide +kernel
theorem dX9_init_32 : decode cX9_init 32 = .ok (.sipush 140, 3) := by decide +kernel
theorem dX9_init_35 : decode cX9_init 35 = .ok (.newarray .int, 2) := by decide +kernel
theorem dX9_init_37 : decode cX9_init 37 = .ok (.putfield 19, 3) := by decide +kernel
theorem dX9_init_40 : decode cX9_init 40 = .ok (.aload_n 0, 1) := by decide +kernel
theorem dX9_init_41 : decode cX9_init 41 = .ok (.iconst 2, 1) := by decide +kernel
theorem dX9_init_42 : decode cX9_init 42 = .ok (.newarray .int, 2) := by decide +kernel
theorem dX9_init_44 : decode cX9_init 44 = .ok (.putfield 22, 3) := by decide +kernel
theorem dX9_init_47 : decode cX9_init 47 = .ok (.aload_n 0, 1) := by decide +kernel
theorem dX9_init_48 : decode cX9_init 48 = .ok (.bipush 52, 2) := by decide +kernel
theorem dX9_init_50 : decode cX9_init 50 = .ok (.newarray .int, 2) := by decide +kernel
theorem dX9_init_52 : decode cX9_init 52 = .ok (.putfield 25, 3) := by decide +kernel
theorem dX9_init_55 : decode cX9_init 55 = .ok (.aload_n 0, 1) := by decide +kernel
theorem dX9_init_56 : decode cX9_init 56 = .ok (.bipush 52, 2) := by decide +kernel
theorem dX9_init_58 : decode cX9_init 58 = .ok (.newarray .int, 2) := by decide +kernel
theorem dX9_init_60 : decode cX9_init 60 = .ok (.putfield 28, 3) := by decide +kernel
theorem dX9_init_63 : decode cX9_init 63 = .ok (.aload_n 0, 1) := by decide +kernel
theorem dX9_init_64 : decode cX9_init 64 = .ok (.bipush 52, 2) := by decide +kernel
theorem dX9_init_66 : decode cX9_init 66 = .ok (.newarray .int, 2) := by decide +kernel
theorem dX9_init_68 : decode cX9_init 68 = .ok (.putfield 31, 3) := by decide +kernel
theorem dX9_init_71 : decode cX9_init 71 = .ok (.aload_n 0, 1) := by decide +kernel
theorem dX9_init_72 : decode cX9_init 72 = .ok (.bipush 52, 2) := by decide +kernel
theorem dX9_init_74 : decode cX9_init 74 = .ok (.newarray .int, 2) := by decide +kernel
theorem dX9_init_76 : decode cX9_init 76 = .ok (.putfield 34, 3) := by decide +kernel
theorem dX9_init_79 : decode cX9_init 79 = .ok (.aload_n 0, 1) := by decide +kernel
theorem dX9_init_80 : decode cX9_init 80 = .ok (.bipush 52, 2) := by decide +kernel
theorem dX9_init_82 : decode cX9_init 82 = .ok (.newarray .int, 2) := by decide +kernel
theorem dX9_init_84 : decode cX9_init 84 = .ok (.putfield 37, 3) := by decide +kernel
theorem dX9_init_87 : decode cX9_init 87 = .ok (.aload_n 0, 1) := by decide +kernel
theorem dX9_init_88 : decode cX9_init 88 = .ok (.bipush 52, 2) := by decide +kernel
theorem dX9_init_90 : decode cX9_init 90 = .ok (.newarray .int, 2) := by decide +kernel
theorem dX9_init_92 : decode cX9_init 92 = .ok (.putfield 40, 3) := by decide +kernel
theorem dX9_init_95 : decode cX9_init 95 = .ok (.aload_n 0, 1) := by decide +kernel
theorem dX9_init_96 : decode cX9_init 96 = .ok (.iconst 2, 1) := by decide +kernel
theorem dX9_init_97 : decode cX9_init 97 = .ok (.newarray .int, 2) := by decide +kernel
theorem dX9_init_99 : decode cX9_init 99 = .ok (.putfield 43, 3) := by decide +kernel
theorem dX9_init_102 : decode cX9_init 102 = .ok (.aload_n 0, 1) := by decide +kernel
theorem dX9_init_103 : decode cX9_init 103 = .ok (.iconst 2, 1) := by decide +kernel
theorem dX9_init_104 : decode cX9_init 104 = .ok (.newarray .int, 2) := by decide +kernel
theorem dX9_init_106 : decode cX9_init 106 = .ok (.putfield 46, 3) := by decide +kernel
theorem dX9_init_109 : decode cX9_init 109 = .ok (.aload_n 0, 1) := by decide +kernel
theorem dX9_init_110 : decode cX9_init 110 = .ok (.sipush 1510, 3) := by decide +kernel
theorem dX9_init_113 : decode cX9_init 113 = .ok (.newarray .long, 2) := by decide +kernel
theorem dX9_init_115 : decode cX9_init 115 = .ok (.putfield 49, 3) := by decide +kernel
theorem dX9_init_118 : decode cX9_init 118 = .ok (.aload_n 0, 1) := by decide +kernel
theorem dX9_init_119 : decode cX9_init 119 = .ok (.bipush 20, 2) := by decide +kernel
theorem dX9_init_121 : decode cX9_init 121 = .ok (.newarray .int, 2) := by decide +kernel
theorem dX9_init_123 : decode cX9_init 123 = .ok (.putfield 53, 3) := by decide +kernel
theorem dX9_init_126 : decode cX9_init 126 = .ok (.aload_n 0, 1) := by decide +kernel
theorem dX9_init_127 : decode cX9_init 127 = .ok (.getfield 7, 3) := by decide +kernel
theorem dX9_init_130 : decode cX9_init 130 = .ok (.sipush 142, 3) := by decide +kernel
theorem dX9_init_133 : decode cX9_init 133 = .ok (.bipush 40, 2) := by decide +kernel
theorem dX9_init_135 : decode cX9_init 135 = .ok (.iastore, 1) := by decide +kernel
theorem dX9_init_136 : decode cX9_init 136 = .ok (.aload_n 0, 1) := by decide +kernel
theorem dX9_init_137 : decode cX9_init 137 = .ok (.getfield 7, 3) := by decide +kernel
theorem dX9_init_140 : decode cX9_init 140 = .ok (.sipush 143, 3) := by decide +kernel
theorem dX9_init_143 : decode cX9_init 143 = .ok (.iconst 5, 1) := by decide +kernel
theorem dX9_init_144 : decode cX9_init 144 = .ok (.iastore, 1) := by decide +kernel
theorem dX9_init_145 : decode cX9_init 145 = .ok (.aload_n 0, 1) := by decide +kernel
theorem dX9_init_146 : decode cX9_init 146 = .ok (.getfield 7, 3) := by decide +kernel
theorem dX9_init_149 : decode cX9_init 149 = .ok (.sipush 144, 3) := by decide +kernel
theorem dX9_init_152 : decode cX9_init 152 = .ok (.iconst 1, 1) := by decide +kernel
theorem dX9_init_153 : decode cX9_init 153 = .ok (.iastore, 1) := by decide +kernel
theorem dX9_init_154 : decode cX9_init 154 = .ok (.aload_n 0, 1) := by decide +kernel
theorem dX9_init_155 : decode cX9_init 155 = .ok (.getfield 7, 3) := by decide +kernel
theorem dX9_init_158 : decode cX9_init 158 = .ok (.sipush 145, 3) := by decide +kernel
theorem dX9_init_161 : decode cX9_init 161 = .ok (.iconst 2, 1) := by decide +kernel
theorem dX9_init_162 : decode cX9_init 162 = .ok (.iastore, 1) := by decide +kernel
theorem dX9_init_163 : decode cX9_init 163 = .ok (.aload_n 0, 1) := by decide +kernel
theorem dX9_init_164 : decode cX9_init 164 = .ok (.getfield 7, 3) := by decide +kernel
theorem dX9_init_167 : decode cX9_init 167 = .ok (.sipush 149, 3) := by decide +kernel
theorem dX9_init_170 : decode cX9_init 170 = .ok (.iconst 1, 1) := by decide +kernel
theorem dX9_init_171 : decode cX9_init 171 = .ok (.iastore, 1) := by decide +kernel
theorem dX9_init_172 : decode cX9_init 172 = .ok (.aload_n 0, 1) := by decide +kernel
theorem dX9_init_173 : decode cX9_init 173 = .ok (.getfield 7, 3) := by decide +kernel
theorem dX9_init_176 : decode cX9_init 176 = .ok (.sipush 150, 3) := by decide +kernel
theorem dX9_init_179 : decode cX9_init 179 = .ok (.iconst 1, 1) := by decide +kernel
theorem dX9_init_180 : decode cX9_init 180 = .ok (.iastore, 1) := by decide +kernel
theorem dX9_init_181 : decode cX9_init 181 = .ok (.return_, 1) := by decide +kernel
theorem dX9_in_0 : decode cX9_in 0 = .ok (.iload_n 0, 1) := by decide +kernel
theorem dX9_in_1 : decode cX9_in 1 = .ok (.iload_n 1, 1) := by decide +kernel
theorem dX9_in_2 : decode cX9_in 2 = .ok (.if_icmp .lt 12, 3) := by decide +kernel
theorem dX9_in_5 : decode cX9_in 5 = .ok (.iload_n 0, 1) := by decide +kernel
theorem dX9_in_6 : decode cX9_in 6 = .ok (.iload_n 2, 1) := by decide +kernel
theorem dX9_in_7 : decode cX9_in 7 = .ok (.if_icmp .gt 7, 3) := by decide +kernel
theorem dX9_in_10 : decode cX9_in 10 = .ok (.iconst 1, 1) := by decide +kernel
theorem dX9_in_11 : decode cX9_in 11 = .ok (.goto 4, 3) := by decide +kernel
theorem dX9_in_14 : decode cX9_in 14 = .ok (.iconst 0, 1) := by decide +kernel
theorem dX9_in_15 : decode cX9_in 15 = .ok (.ireturn, 1) := by decide +kernel
theorem dX9_has_0 : decode cX9_has 0 = .ok (.iload_n 0, 1) := by decide +kernel
theorem dX9_has_1 : decode cX9_has 1 = .ok (.iload_n 1, 1) := by decide +kernel
theorem dX9_has_2 : decode cX9_has 2 = .ok (.ishr, 1) := by decide +kernel
theorem dX9_has_3 : decode cX9_has 3 = .ok (.iconst 1, 1) := by decide +kernel
theorem dX9_has_4 : decode cX9_has 4 = .ok (.iand, 1) := by decide +kernel
theorem dX9_has_5 : decode cX9_has 5 = .ok (.iconst 1, 1) := by decide +kernel
theorem dX9_has_6 : decode cX9_has 6 = .ok (.if_icmp .ne 7, 3) := by decide +kernel
theorem dX9_has_9 : decode cX9_has 9 = .ok (.iconst 1, 1) := by decide +kernel
theorem dX9_has_10 : decode cX9_has 10 = .ok (.goto 4, 3) := by decide +kernel
theorem dX9_has_13 : decode cX9_has 13 = .ok (.iconst 0, 1) := by decide +kernel
theorem dX9_has_14 : decode cX9_has 14 = .ok (.ireturn, 1) := by decide +kernel
theorem dX9_size_0 : decode cX9_size 0 = .ok (.iconst 0, 1) := by decide +kernel
theorem dX9_size_1 : decode cX9_size 1 = .ok (.istore_n 1, 1) := by decide +kernel
theorem dX9_size_2 : decode cX9_size 2 = .ok (.iconst 0, 1) := by decide +kernel
theorem dX9_size_3 : decode cX9_size 3 = .ok (.istore_n 2, 1) := by decide +kernel
theorem dX9_size_4 : decode cX9_size 4 = .ok (.iload_n 2, 1) := by decide +kernel
theorem dX9_size_5 : decode cX9_size 5 = .ok (.bipush 20, 2) := by decide +kernel
theorem dX9_size_7 : decode cX9_size 7 = .ok (.if_icmp .ge 17, 3) := by decide +kernel
theorem dX9_size_10 : decode cX9_size 10 = .ok (.iload_n 1, 1) := by decide +kernel
theorem dX9_size_11 : decode cX9_size 11 = .ok (.iload_n 0, 1) := by decide +kernel
theorem dX9_size_12 : decode cX9_size 12 = .ok (.iload_n 2, 1) := by decide +kernel
theorem dX9_size_13 : decode cX9_size 13 = .ok (.ishr, 1) := by decide +kernel
theorem dX9_size_14 : decode cX9_size 14 = .ok (.iconst 1, 1) := by decide +kernel
theorem dX9_size_15 : decode cX9_size 15 = .ok (.iand, 1) := by decide +kernel
theorem dX9_size_16 : decode cX9_size 16 = .ok (.iadd, 1) := by decide +kernel
theorem dX9_size_17 : decode cX9_size 17 = .ok (.istore_n 1, 1) := by decide +kernel
theorem dX9_size_18 : decode cX9_size 18 = .ok (.iinc 2 1, 3) := by decide +kernel
theorem dX9_size_21 : decode cX9_size 21 = .ok (.goto (-17), 3) := by decide +kernel
theorem dX9_size_24 : decode cX9_size 24 = .ok (.iload_n 1, 1) := by decide +kernel
theorem dX9_size_25 : decode cX9_size 25 = .ok (.ireturn, 1) := by decide +kernel
theorem dX9_bring_0 : decode cX9_bring 0 = .ok (.iconst 0, 1) := by decide +kernel
theorem dX9_bring_1 : decode cX9_bring 1 = .ok (.istore 5, 2) := by decide +kernel
theorem dX9_bring_3 : decode cX9_bring 3 = .ok (.iload 5, 2) := by decide +kernel
theorem dX9_bring_5 : decode cX9_bring 5 = .ok (.iload 4, 2) := by decide +kernel
theorem dX9_bring_7 : decode cX9_bring 7 = .ok (.if_icmp .ge 21, 3) := by decide +kernel
theorem dX9_bring_10 : decode cX9_bring 10 = .ok (.aload_n 2, 1) := by decide +kernel
theorem dX9_bring_11 : decode cX9_bring 11 = .ok (.iload_n 3, 1) := by decide +kernel
theorem dX9_bring_12 : decode cX9_bring 12 = .ok (.iload 5, 2) := by decide +kernel
theorem dX9_bring_14 : decode cX9_bring 14 = .ok (.iadd, 1) := by decide +kernel
theorem dX9_bring_15 : decode cX9_bring 15 = .ok (.aload_n 0, 1) := by decide +kernel
theorem dX9_bring_16 : decode cX9_bring 16 = .ok (.iload_n 1, 1) := by decide +kernel
theorem dX9_bring_17 : decode cX9_bring 17 = .ok (.iload 5, 2) := by decide +kernel
theorem dX9_bring_19 : decode cX9_bring 19 = .ok (.iadd, 1) := by decide +kernel
theorem dX9_bring_20 : decode cX9_bring 20 = .ok (.iaload, 1) := by decide +kernel
theorem dX9_bring_21 : decode cX9_bring 21 = .ok (.iastore, 1) := by decide +kernel
theorem dX9_bring_22 : decode cX9_bring 22 = .ok (.iinc 5 1, 3) := by decide +kernel
theorem dX9_bring_25 : decode cX9_bring 25 = .ok (.goto (-22), 3) := by decide +kernel
theorem dX9_bring_28 : decode cX9_bring 28 = .ok (.return_, 1) := by decide +kernel
set_option maxRecDepth 20000 in
theorem ggX9_keep_X9_bring : GoodIn wsX9_keep wsX9_bring := goodIn_r _ [7] (by decide +kernel) (by decide +kernel)
set_option maxRecDepth 20000 in
theorem gX9_keep_X9_bring : GoodIn wsX9_keep (va_wsS RX9 60 yX9_bring wsX9_bring) := goodIn_app (goodIn_of _ (by decide +kernel)) ggX9_keep_X9_bring
theorem dX9_keep_0 : decode cX9_keep 0 = .ok (.aload_n 0, 1) := by decide +kernel
theorem dX9_keep_1 : decode cX9_keep 1 = .ok (.getfield 56, 3) := by decide +kernel
theorem dX9_keep_4 : decode cX9_keep 4 = .ok (.iconst 5, 1) := by decide +kernel
theorem dX9_keep_5 : decode cX9_keep 5 = .ok (.if_icmp .ne 31, 3) := by decide +kernel
theorem dX9_keep_8 : decode cX9_keep 8 = .ok (.aload_n 0, 1) := by decide +kernel
theorem dX9_keep_9 : decode cX9_keep 9 = .ok (.getfield 16, 3) := by decide +kernel
theorem dX9_keep_12 : decode cX9_keep 12 = .ok (.sipush 455, 3) := by decide +kernel
theorem dX9_keep_15 : decode cX9_keep 15 = .ok (.aload_n 0, 1) := by decide +kernel
theorem dX9_keep_16 : decode cX9_keep 16 = .ok (.getfield 16, 3) := by decide +kernel
theorem dX9_keep_19 : decode cX9_keep 19 = .ok (.iconst 0, 1) := by decide +kernel
theorem dX9_keep_20 : decode cX9_keep 20 = .ok (.sipush 1820, 3) := by decide +kernel
theorem dX9_keep_23 : decode cX9_keep 23 = .ok (.invokestatic 60, 3) := by decide +kernel
theorem dX9_keep_26 : decode cX9_keep 26 = .ok (.aload_n 0, 1) := by decide +kernel
theorem dX9_keep_27 : decode cX9_keep 27 = .ok (.dup, 1) := by decide +kernel
theorem dX9_keep_28 : decode cX9_keep 28 = .ok (.getfield 56, 3) := by decide +kernel
theorem dX9_keep_31 : decode cX9_keep 31 = .ok (.iconst 1, 1) := by decide +kernel
theorem dX9_keep_32 : decode cX9_keep 32 = .ok (.isub, 1) := by decide +kernel
theorem dX9_keep_33 : decode cX9_keep 33 = .ok (.putfield 56, 3) := by decide +kernel
theorem dX9_keep_36 : decode cX9_keep 36 = .ok (.aload_n 0, 1) := by decide +kernel
theorem dX9_keep_37 : decode cX9_keep 37 = .ok (.getfield 7, 3) := by decide +kernel
theorem dX9_keep_40 : decode cX9_keep 40 = .ok (.iconst 0, 1) := by decide +kernel
theorem dX9_keep_41 : decode cX9_keep 41 = .ok (.aload_n 0, 1) := by decide +kernel
theorem dX9_keep_42 : decode cX9_keep 42 = .ok (.getfield 16, 3) := by decide +kernel
theorem dX9_keep_45 : decode cX9_keep 45 = .ok (.sipush 455, 3) := by decide +kernel
theorem dX9_keep_48 : decode cX9_keep 48 = .ok (.aload_n 0, 1) := by decide +kernel
theorem dX9_keep_49 : decode cX9_keep 49 = .ok (.getfield 56, 3) := by decide +kernel
theorem dX9_keep_52 : decode cX9_keep 52 = .ok (.imul, 1) := by decide +kernel
theorem dX9_keep_53 : decode cX9_keep 53 = .ok (.sipush 455, 3) := by decide +kernel
theorem dX9_keep_56 : decode cX9_keep 56 = .ok (.invokestatic 60, 3) := by decide +kernel
theorem dX9_keep_59 : decode cX9_keep 59 = .ok (.aload_n 0, 1) := by decide +kernel
theorem dX9_keep_60 : decode cX9_keep 60 = .ok (.dup, 1) := by decide +kernel
theorem dX9_keep_61 : decode cX9_keep 61 = .ok (.getfield 56, 3) := by decide +kernel
theorem dX9_keep_64 : decode cX9_keep 64 = .ok (.iconst 1, 1) := by decide +kernel
theorem dX9_keep_65 : decode cX9_keep 65 = .ok (.iadd, 1) := by decide +kernel
theorem dX9_keep_66 : decode cX9_keep 66 = .ok (.putfield 56, 3) := by decide +kernel
theorem dX9_keep_69 : decode cX9_keep 69 = .ok (.return_, 1) := by decide +kernel
set_option maxRecDepth 20000 in
theorem ggX9_isDish_X9_in : GoodIn wsX9_isDish wsX9_in := goodIn_r _ [5] (by decide +kernel) (by decide +kernel)
set_option maxRecDepth 20000 in
theorem gX9_isDish_X9_in : GoodIn wsX9_isDish (va_wsS RX9 64 yX9_in wsX9_in) := goodIn_app (goodIn_of _ (by decide +kernel)) ggX9_isDish_X9_in
theorem dX9_isDish_0 : decode cX9_isDish 0 = .ok (.iload_n 1, 1) := by decide +kernel
theorem dX9_isDish_1 : decode cX9_isDish 1 = .ok (.iconst 0, 1) := by decide +kernel
theorem dX9_isDish_2 : decode cX9_isDish 2 = .ok (.aload_n 0, 1) := by decide +kernel
theorem dX9_isDish_3 : decode cX9_isDish 3 = .ok (.getfield 7, 3) := by decide +kernel
theorem dX9_isDish_6 : decode cX9_isDish 6 = .ok (.iconst 0, 1) := by decide +kernel
theorem dX9_isDish_7 : decode cX9_isDish 7 = .ok (.iaload, 1) := by decide +kernel
theorem dX9_isDish_8 : decode cX9_isDish 8 = .ok (.iconst 1, 1) := by decide +kernel
theorem dX9_isDish_9 : decode cX9_isDish 9 = .ok (.isub, 1) := by decide +kernel
theorem dX9_isDish_10 : decode cX9_isDish 10 = .ok (.invokestatic 64, 3) := by decide +kernel
theorem dX9_isDish_13 : decode cX9_isDish 13 = .ok (.ireturn, 1) := by decide +kernel
theorem dX9_of_0 : decode cX9_of 0 = .ok (.aload_n 0, 1) := by decide +kernel
theorem dX9_of_1 : decode cX9_of 1 = .ok (.getfield 7, 3) := by decide +kernel
theorem dX9_of_4 : decode cX9_of 4 = .ok (.iconst 1, 1) := by decide +kernel
theorem dX9_of_5 : decode cX9_of 5 = .ok (.bipush 7, 2) := by decide +kernel
theorem dX9_of_7 : decode cX9_of 7 = .ok (.iload_n 1, 1) := by decide +kernel
theorem dX9_of_8 : decode cX9_of 8 = .ok (.imul, 1) := by decide +kernel
theorem dX9_of_9 : decode cX9_of 9 = .ok (.iadd, 1) := by decide +kernel
theorem dX9_of_10 : decode cX9_of 10 = .ok (.iload_n 2, 1) := by decide +kernel
theorem dX9_of_11 : decode cX9_of 11 = .ok (.iadd, 1) := by decide +kernel
theorem dX9_of_12 : decode cX9_of 12 = .ok (.iaload, 1) := by decide +kernel
theorem dX9_of_13 : decode cX9_of 13 = .ok (.ireturn, 1) := by decide +kernel
theorem dX9_width_0 : decode cX9_width 0 = .ok (.aload_n 0, 1) := by decide +kernel
theorem dX9_width_1 : decode cX9_width 1 = .ok (.getfield 7, 3) := by decide +kernel
theorem dX9_width_4 : decode cX9_width 4 = .ok (.sipush 142, 3) := by decide +kernel
theorem dX9_width_7 : decode cX9_width 7 = .ok (.iaload, 1) := by decide +kernel
theorem dX9_width_8 : decode cX9_width 8 = .ok (.ireturn, 1) := by decide +kernel
set_option maxRecDepth 20000 in
theorem ggX9_mayBe_X9_of : GoodIn wsX9_mayBe wsX9_of := goodIn_r _ [6, 1, 10, 11, 12, 13, 14, 15, 16, 17, 18, 19, 20, 21, 22, 23, 24, 25, 26, 27, 28, 29, 30, 31, 32, 33, 34, 35, 36] (by decide +kernel) (by decide +kernel)
set_option maxRecDepth 20000 in
theorem gX9_mayBe_X9_of : GoodIn wsX9_mayBe (wsV RX9 68 RX9 yX9_of wsX9_of) := goodIn_app (goodIn_of _ (by decide +kernel)) ggX9_mayBe_X9_of
set_option maxRecDepth 20000 in
theorem ggX9_mayBe_X9_has : GoodIn wsX9_mayBe wsX9_has := goodIn_r _ [9] (by decide +kernel) (by decide +kernel)
set_option maxRecDepth 20000 in
theorem gX9_mayBe_X9_has : GoodIn wsX9_mayBe (va_wsS RX9 72 yX9_has wsX9_has) := goodIn_app (goodIn_of _ (by decide +kernel)) ggX9_mayBe_X9_has
theorem dX9_mayBe_0 : decode cX9_mayBe 0 = .ok (.aload_n 0, 1) := by decide +kernel
theorem dX9_mayBe_1 : decode cX9_mayBe 1 = .ok (.iload_n 1, 1) := by decide +kernel
theorem dX9_mayBe_2 : decode cX9_mayBe 2 = .ok (.iconst 3, 1) := by decide +kernel
theorem dX9_mayBe_3 : decode cX9_mayBe 3 = .ok (.invokevirtual 68, 3) := by decide +kernel
theorem dX9_mayBe_6 : decode cX9_mayBe 6 = .ok (.aload_n 0, 1) := by decide +kernel
theorem dX9_mayBe_7 : decode cX9_mayBe 7 = .ok (.getfield 7, 3) := by decide +kernel
theorem dX9_mayBe_10 : decode cX9_mayBe 10 = .ok (.sipush 141, 3) := by decide +kernel
theorem dX9_mayBe_13 : decode cX9_mayBe 13 = .ok (.iaload, 1) := by decide +kernel
theorem dX9_mayBe_14 : decode cX9_mayBe 14 = .ok (.invokestatic 72, 3) := by decide +kernel
theorem dX9_mayBe_17 : decode cX9_mayBe 17 = .ok (.ifCond .eq 25, 3) := by decide +kernel
theorem dX9_mayBe_20 : decode cX9_mayBe 20 = .ok (.aload_n 0, 1) := by decide +kernel
theorem dX9_mayBe_21 : decode cX9_mayBe 21 = .ok (.iload_n 1, 1) := by decide +kernel
theorem dX9_mayBe_22 : decode cX9_mayBe 22 = .ok (.iconst 4, 1) := by decide +kernel
theorem dX9_mayBe_23 : decode cX9_mayBe 23 = .ok (.invokevirtual 68, 3) := by decide +kernel
theorem dX9_mayBe_26 : decode cX9_mayBe 26 = .ok (.aload_n 0, 1) := by decide +kernel
theorem dX9_mayBe_27 : decode cX9_mayBe 27 = .ok (.getfield 7, 3) := by decide +kernel
theorem dX9_mayBe_30 : decode cX9_mayBe 30 = .ok (.sipush 146, 3) := by decide +kernel
theorem dX9_mayBe_33 : decode cX9_mayBe 33 = .ok (.iaload, 1) := by decide +kernel
theorem dX9_mayBe_34 : decode cX9_mayBe 34 = .ok (.iand, 1) := by decide +kernel
theorem dX9_mayBe_35 : decode cX9_mayBe 35 = .ok (.ifCond .ne 7, 3) := by decide +kernel
theorem dX9_mayBe_38 : decode cX9_mayBe 38 = .ok (.iconst 1, 1) := by decide +kernel
theorem dX9_mayBe_39 : decode cX9_mayBe 39 = .ok (.goto 4, 3) := by decide +kernel
theorem dX9_mayBe_42 : decode cX9_mayBe 42 = .ok (.iconst 0, 1) := by decide +kernel
theorem dX9_mayBe_43 : decode cX9_mayBe 43 = .ok (.ireturn, 1) := by decide +kernel
set_option maxRecDepth 20000 in
theorem ggX9_isEligible_X9_mayBe : GoodIn wsX9_isEligible wsX9_mayBe := goodIn_r _ [5, 6, 7, 8, 9, 4, 10, 11, 12, 13, 14, 15, 16, 17, 18, 19, 20, 21, 22, 23, 24, 25, 26, 27, 28, 29, 30, 31, 32, 33, 34, 35, 36, 37, 38, 39, 40] (by decide +kernel) (by decide +kernel)
set_option maxRecDepth 20000 in
theorem gX9_isEligible_X9_mayBe : GoodIn wsX9_isEligible (wsV RX9 76 RX9 yX9_mayBe wsX9_mayBe) := goodIn_app (goodIn_of _ (by decide +kernel)) ggX9_isEligible_X9_mayBe
set_option maxRecDepth 20000 in
theorem ggX9_isEligible_X9_of : GoodIn wsX9_isEligible wsX9_of := goodIn_r _ [10, 6, 14, 15, 16, 17, 18, 19, 20, 21, 22, 23, 24, 25, 26, 27, 28, 29, 30, 31, 32, 33, 34, 35, 36, 37, 38, 39, 40] (by decide +kernel) (by decide +kernel)
set_option maxRecDepth 20000 in
theorem gX9_isEligible_X9_of : GoodIn wsX9_isEligible (wsV RX9 68 RX9 yX9_of wsX9_of) := goodIn_app (goodIn_of _ (by decide +kernel)) ggX9_isEligible_X9_of
theorem dX9_isEligible_0 : decode cX9_isEligible 0 = .ok (.aload_n 0, 1) := by decide +kernel
theorem dX9_isEligible_1 : decode cX9_isEligible 1 = .ok (.iload_n 1, 1) := by decide +kernel
theorem dX9_isEligible_2 : decode cX9_isEligible 2 = .ok (.invokevirtual 76, 3) := by decide +kernel
theorem dX9_isEligible_5 : decode cX9_isEligible 5 = .ok (.ifCond .eq 18, 3) := by decide +kernel
theorem dX9_isEligible_8 : decode cX9_isEligible 8 = .ok (.aload_n 0, 1) := by decide +kernel
theorem dX9_isEligible_9 : decode cX9_isEligible 9 = .ok (.iload_n 1, 1) := by decide +kernel
theorem dX9_isEligible_10 : decode cX9_isEligible 10 = .ok (.bipush 6, 2) := by decide +kernel
theorem dX9_isEligible_12 : decode cX9_isEligible 12 = .ok (.invokevirtual 68, 3) := by decide +kernel
theorem dX9_isEligible_15 : decode cX9_isEligible 15 = .ok (.iconst 1, 1) := by decide +kernel
theorem dX9_isEligible_16 : decode cX9_isEligible 16 = .ok (.if_icmp .ne 7, 3) := by decide +kernel
theorem dX9_isEligible_19 : decode cX9_isEligible 19 = .ok (.iconst 1, 1) := by decide +kernel
theorem dX9_isEligible_20 : decode cX9_isEligible 20 = .ok (.goto 4, 3) := by decide +kernel
theorem dX9_isEligible_23 : decode cX9_isEligible 23 = .ok (.iconst 0, 1) := by decide +kernel
theorem dX9_isEligible_24 : decode cX9_isEligible 24 = .ok (.ireturn, 1) := by decide +kernel
set_option maxRecDepth 20000 in
theorem ggX9_aheadOf_X9_of : GoodIn wsX9_aheadOf wsX9_of := goodIn_r _ [5, 6, 18, 19, 20, 21, 22, 23, 24, 25, 26, 27, 28, 29, 30, 31, 32, 33, 34, 35, 36, 37, 38, 39, 40, 41, 42, 43, 44] (by decide +kernel) (by decide +kernel)
set_option maxRecDepth 20000 in
theorem gX9_aheadOf_X9_of : GoodIn wsX9_aheadOf (wsV RX9 68 RX9 yX9_of wsX9_of) := goodIn_app (goodIn_of _ (by decide +kernel)) ggX9_aheadOf_X9_of
set_option maxRecDepth 20000 in
theorem ggX9_aheadOf_X9_isEligible : GoodIn wsX9_aheadOf wsX9_isEligible := goodIn_r _ [10, 11, 12, 13, 4, 14, 6, 1, 2, 3, 5, 15, 16, 17, 18, 19, 20, 21, 22, 23, 24, 25, 26, 27, 28, 29, 30, 31, 32, 33, 34, 35, 36, 37, 38, 39, 40, 41, 42, 43, 44] (by decide +kernel) (by decide +kernel)
set_option maxRecDepth 20000 in
theorem gX9_aheadOf_X9_isEligible : GoodIn wsX9_aheadOf (wsV RX9 80 RX9 yX9_isEligible wsX9_isEligible) := goodIn_app (goodIn_of _ (by decide +kernel)) ggX9_aheadOf_X9_isEligible
theorem dX9_aheadOf_0 : decode cX9_aheadOf 0 = .ok (.iconst 0, 1) := by decide +kernel
theorem dX9_aheadOf_1 : decode cX9_aheadOf 1 = .ok (.istore_n 2, 1) := by decide +kernel
theorem dX9_aheadOf_2 : decode cX9_aheadOf 2 = .ok (.iconst 0, 1) := by decide +kernel
theorem dX9_aheadOf_3 : decode cX9_aheadOf 3 = .ok (.istore_n 3, 1) := by decide +kernel
theorem dX9_aheadOf_4 : decode cX9_aheadOf 4 = .ok (.iload_n 3, 1) := by decide +kernel
theorem dX9_aheadOf_5 : decode cX9_aheadOf 5 = .ok (.iload_n 1, 1) := by decide +kernel
theorem dX9_aheadOf_6 : decode cX9_aheadOf 6 = .ok (.if_icmp .ge 40, 3) := by decide +kernel
theorem dX9_aheadOf_9 : decode cX9_aheadOf 9 = .ok (.iload_n 2, 1) := by decide +kernel
theorem dX9_aheadOf_10 : decode cX9_aheadOf 10 = .ok (.aload_n 0, 1) := by decide +kernel
theorem dX9_aheadOf_11 : decode cX9_aheadOf 11 = .ok (.iload_n 3, 1) := by decide +kernel
theorem dX9_aheadOf_12 : decode cX9_aheadOf 12 = .ok (.iconst 0, 1) := by decide +kernel
theorem dX9_aheadOf_13 : decode cX9_aheadOf 13 = .ok (.invokevirtual 68, 3) := by decide +kernel
theorem dX9_aheadOf_16 : decode cX9_aheadOf 16 = .ok (.aload_n 0, 1) := by decide +kernel
theorem dX9_aheadOf_17 : decode cX9_aheadOf 17 = .ok (.iload_n 1, 1) := by decide +kernel
theorem dX9_aheadOf_18 : decode cX9_aheadOf 18 = .ok (.iconst 0, 1) := by decide +kernel
theorem dX9_aheadOf_19 : decode cX9_aheadOf 19 = .ok (.invokevirtual 68, 3) := by decide +kernel
theorem dX9_aheadOf_22 : decode cX9_aheadOf 22 = .ok (.if_icmp .ne 15, 3) := by decide +kernel
theorem dX9_aheadOf_25 : decode cX9_aheadOf 25 = .ok (.aload_n 0, 1) := by decide +kernel
theorem dX9_aheadOf_26 : decode cX9_aheadOf 26 = .ok (.iload_n 3, 1) := by decide +kernel
theorem dX9_aheadOf_27 : decode cX9_aheadOf 27 = .ok (.invokevirtual 80, 3) := by decide +kernel
theorem dX9_aheadOf_30 : decode cX9_aheadOf 30 = .ok (.ifCond .eq 7, 3) := by decide +kernel
theorem dX9_aheadOf_33 : decode cX9_aheadOf 33 = .ok (.iconst 1, 1) := by decide +kernel
theorem dX9_aheadOf_34 : decode cX9_aheadOf 34 = .ok (.goto 4, 3) := by decide +kernel
theorem dX9_aheadOf_37 : decode cX9_aheadOf 37 = .ok (.iconst 0, 1) := by decide +kernel
theorem dX9_aheadOf_38 : decode cX9_aheadOf 38 = .ok (.iadd, 1) := by decide +kernel
theorem dX9_aheadOf_39 : decode cX9_aheadOf 39 = .ok (.istore_n 2, 1) := by decide +kernel
theorem dX9_aheadOf_40 : decode cX9_aheadOf 40 = .ok (.iinc 3 1, 3) := by decide +kernel
theorem dX9_aheadOf_43 : decode cX9_aheadOf 43 = .ok (.goto (-39), 3) := by decide +kernel
theorem dX9_aheadOf_46 : decode cX9_aheadOf 46 = .ok (.iload_n 2, 1) := by decide +kernel
theorem dX9_aheadOf_47 : decode cX9_aheadOf 47 = .ok (.ireturn, 1) := by decide +kernel
set_option maxRecDepth 20000 in
theorem ggX9_isPrinted_X9_isEligible : GoodIn wsX9_isPrinted wsX9_isEligible := goodIn_r _ [6, 7, 8, 9, 5, 10, 1, 11, 12, 13, 14, 15, 16, 17, 22, 23, 24, 25, 26, 27, 28, 29, 30, 31, 32, 33, 34, 35, 36, 37, 38, 39, 40, 41, 42, 43, 44, 45, 46, 47, 48] (by decide +kernel) (by decide +kernel)
set_option maxRecDepth 20000 in
theorem gX9_isPrinted_X9_isEligible : GoodIn wsX9_isPrinted (wsV RX9 80 RX9 yX9_isEligible wsX9_isEligible) := goodIn_app (goodIn_of _ (by decide +kernel)) ggX9_isPrinted_X9_isEligible
set_option maxRecDepth 20000 in
theorem ggX9_isPrinted_X9_aheadOf : GoodIn wsX9_isPrinted wsX9_aheadOf := goodIn_r _ [21, 11, 12, 13, 5, 14, 1, 2, 3, 4, 6, 7, 8, 9, 10, 15, 16, 17, 22, 23, 24, 25, 26, 27, 28, 29, 30, 31, 32, 33, 34, 35, 36, 37, 38, 39, 40, 41, 42, 43, 44, 45, 46, 47, 48] (by decide +kernel) (by decide +kernel)
set_option maxRecDepth 20000 in
theorem gX9_isPrinted_X9_aheadOf : GoodIn wsX9_isPrinted (wsV RX9 83 RX9 yX9_aheadOf wsX9_aheadOf) := goodIn_app (goodIn_of _ (by decide +kernel)) ggX9_isPrinted_X9_aheadOf
theorem dX9_isPrinted_0 : decode cX9_isPrinted 0 = .ok (.aload_n 0, 1) := by decide +kernel
theorem dX9_isPrinted_1 : decode cX9_isPrinted 1 = .ok (.iload_n 1, 1) := by decide +kernel
theorem dX9_isPrinted_2 : decode cX9_isPrinted 2 = .ok (.invokevirtual 80, 3) := by decide +kernel
theorem dX9_isPrinted_5 : decode cX9_isPrinted 5 = .ok (.ifCond .eq 23, 3) := by decide +kernel
theorem dX9_isPrinted_8 : decode cX9_isPrinted 8 = .ok (.aload_n 0, 1) := by decide +kernel
theorem dX9_isPrinted_9 : decode cX9_isPrinted 9 = .ok (.iload_n 1, 1) := by decide +kernel
theorem dX9_isPrinted_10 : decode cX9_isPrinted 10 = .ok (.invokevirtual 83, 3) := by decide +kernel
theorem dX9_isPrinted_13 : decode cX9_isPrinted 13 = .ok (.aload_n 0, 1) := by decide +kernel
theorem dX9_isPrinted_14 : decode cX9_isPrinted 14 = .ok (.getfield 7, 3) := by decide +kernel
theorem dX9_isPrinted_17 : decode cX9_isPrinted 17 = .ok (.sipush 143, 3) := by decide +kernel
theorem dX9_isPrinted_20 : decode cX9_isPrinted 20 = .ok (.iaload, 1) := by decide +kernel
theorem dX9_isPrinted_21 : decode cX9_isPrinted 21 = .ok (.if_icmp .ge 7, 3) := by decide +kernel
theorem dX9_isPrinted_24 : decode cX9_isPrinted 24 = .ok (.iconst 1, 1) := by decide +kernel
theorem dX9_isPrinted_25 : decode cX9_isPrinted 25 = .ok (.goto 4, 3) := by decide +kernel
theorem dX9_isPrinted_28 : decode cX9_isPrinted 28 = .ok (.iconst 0, 1) := by decide +kernel
theorem dX9_isPrinted_29 : decode cX9_isPrinted 29 = .ok (.ireturn, 1) := by decide +kernel
set_option maxRecDepth 20000 in
theorem ggX9_printedNow_X9_isPrinted : GoodIn wsX9_printedNow wsX9_isPrinted := goodIn_r _ [6, 1, 7, 8, 9, 5, 10, 11, 12, 13, 14, 15, 16, 17, 18, 19, 20, 21, 22, 23, 24, 25, 26, 27, 28, 29, 30, 31, 32, 33, 34, 35, 36, 37, 38, 39, 40, 41, 42, 43, 44, 45, 46, 47, 48, 49, 50, 51, 52] (by decide +kernel) (by decide +kernel)
set_option maxRecDepth 20000 in
theorem gX9_printedNow_X9_isPrinted : GoodIn wsX9_printedNow (wsV RX9 87 RX9 yX9_isPrinted wsX9_isPrinted) := goodIn_app (goodIn_of _ (by decide +kernel)) ggX9_printedNow_X9_isPrinted
theorem dX9_printedNow_0 : decode cX9_printedNow 0 = .ok (.iconst 0, 1) := by decide +kernel
theorem dX9_printedNow_1 : decode cX9_printedNow 1 = .ok (.istore_n 1, 1) := by decide +kernel
theorem dX9_printedNow_2 : decode cX9_printedNow 2 = .ok (.iconst 0, 1) := by decide +kernel
theorem dX9_printedNow_3 : decode cX9_printedNow 3 = .ok (.istore_n 2, 1) := by decide +kernel
theorem dX9_printedNow_4 : decode cX9_printedNow 4 = .ok (.iload_n 2, 1) := by decide +kernel
theorem dX9_printedNow_5 : decode cX9_printedNow 5 = .ok (.aload_n 0, 1) := by decide +kernel
theorem dX9_printedNow_6 : decode cX9_printedNow 6 = .ok (.getfield 7, 3) := by decide +kernel
theorem dX9_printedNow_9 : decode cX9_printedNow 9 = .ok (.iconst 0, 1) := by decide +kernel
theorem dX9_printedNow_10 : decode cX9_printedNow 10 = .ok (.iaload, 1) := by decide +kernel
theorem dX9_printedNow_11 : decode cX9_printedNow 11 = .ok (.if_icmp .ge 27, 3) := by decide +kernel
theorem dX9_printedNow_14 : decode cX9_printedNow 14 = .ok (.iload_n 1, 1) := by decide +kernel
theorem dX9_printedNow_15 : decode cX9_printedNow 15 = .ok (.aload_n 0, 1) := by decide +kernel
theorem dX9_printedNow_16 : decode cX9_printedNow 16 = .ok (.iload_n 2, 1) := by decide +kernel
theorem dX9_printedNow_17 : decode cX9_printedNow 17 = .ok (.invokevirtual 87, 3) := by decide +kernel
theorem dX9_printedNow_20 : decode cX9_printedNow 20 = .ok (.ifCond .eq 9, 3) := by decide +kernel
theorem dX9_printedNow_23 : decode cX9_printedNow 23 = .ok (.iconst 1, 1) := by decide +kernel
theorem dX9_printedNow_24 : decode cX9_printedNow 24 = .ok (.iload_n 2, 1) := by decide +kernel
theorem dX9_printedNow_25 : decode cX9_printedNow 25 = .ok (.ishl, 1) := by decide +kernel
theorem dX9_printedNow_26 : decode cX9_printedNow 26 = .ok (.goto 4, 3) := by decide +kernel
theorem dX9_printedNow_29 : decode cX9_printedNow 29 = .ok (.iconst 0, 1) := by decide +kernel
theorem dX9_printedNow_30 : decode cX9_printedNow 30 = .ok (.ior, 1) := by decide +kernel
theorem dX9_printedNow_31 : decode cX9_printedNow 31 = .ok (.istore_n 1, 1) := by decide +kernel
theorem dX9_printedNow_32 : decode cX9_printedNow 32 = .ok (.iinc 2 1, 3) := by decide +kernel
theorem dX9_printedNow_35 : decode cX9_printedNow 35 = .ok (.goto (-31), 3) := by decide +kernel
theorem dX9_printedNow_38 : decode cX9_printedNow 38 = .ok (.iload_n 1, 1) := by decide +kernel
theorem dX9_printedNow_39 : decode cX9_printedNow 39 = .ok (.ireturn, 1) := by decide +kernel
theorem dX9_figures_0 : decode cX9_figures 0 = .ok (.iload_n 0, 1) := by decide +kernel
theorem dX9_figures_1 : decode cX9_figures 1 = .ok (.sipush 999, 3) := by decide +kernel
theorem dX9_figures_4 : decode cX9_figures 4 = .ok (.if_icmp .le 7, 3) := by decide +kernel
theorem dX9_figures_7 : decode cX9_figures 7 = .ok (.iconst 4, 1) := by decide +kernel
theorem dX9_figures_8 : decode cX9_figures 8 = .ok (.goto 24, 3) := by decide +kernel
theorem dX9_figures_11 : decode cX9_figures 11 = .ok (.iload_n 0, 1) := by decide +kernel
theorem dX9_figures_12 : decode cX9_figures 12 = .ok (.bipush 99, 2) := by decide +kernel
theorem dX9_figures_14 : decode cX9_figures 14 = .ok (.if_icmp .le 7, 3) := by decide +kernel
theorem dX9_figures_17 : decode cX9_figures 17 = .ok (.iconst 3, 1) := by decide +kernel
theorem dX9_figures_18 : decode cX9_figures 18 = .ok (.goto 14, 3) := by decide +kernel
theorem dX9_figures_21 : decode cX9_figures 21 = .ok (.iload_n 0, 1) := by decide +kernel
theorem dX9_figures_22 : decode cX9_figures 22 = .ok (.bipush 9, 2) := by decide +kernel
theorem dX9_figures_24 : decode cX9_figures 24 = .ok (.if_icmp .le 7, 3) := by decide +kernel
theorem dX9_figures_27 : decode cX9_figures 27 = .ok (.iconst 2, 1) := by decide +kernel
theorem dX9_figures_28 : decode cX9_figures 28 = .ok (.goto 4, 3) := by decide +kernel
theorem dX9_figures_31 : decode cX9_figures 31 = .ok (.iconst 1, 1) := by decide +kernel
theorem dX9_figures_32 : decode cX9_figures 32 = .ok (.ireturn, 1) := by decide +kernel
set_option maxRecDepth 20000 in
theorem ggX9_textOf_X9_of : GoodIn wsX9_textOf wsX9_of := goodIn_r _ [5, 6, 10, 11, 12, 13, 14, 15, 16, 17, 18, 19, 20, 21, 22, 23, 24, 25, 26, 27, 28, 29, 30, 31, 32, 33, 34, 35, 36] (by decide +kernel) (by decide +kernel)
set_option maxRecDepth 20000 in
theorem gX9_textOf_X9_of : GoodIn wsX9_textOf (wsV RX9 68 RX9 yX9_of wsX9_of) := goodIn_app (goodIn_of _ (by decide +kernel)) ggX9_textOf_X9_of
set_option maxRecDepth 20000 in
theorem ggX9_textOf_X9_size : GoodIn wsX9_textOf wsX9_size := goodIn_r _ [9] (by decide +kernel) (by decide +kernel)
set_option maxRecDepth 20000 in
theorem gX9_textOf_X9_size : GoodIn wsX9_textOf (va_wsS RX9 90 yX9_size wsX9_size) := goodIn_app (goodIn_of _ (by decide +kernel)) ggX9_textOf_X9_size
theorem dX9_textOf_0 : decode cX9_textOf 0 = .ok (.aload_n 0, 1) := by decide +kernel
theorem dX9_textOf_1 : decode cX9_textOf 1 = .ok (.iload_n 1, 1) := by decide +kernel
theorem dX9_textOf_2 : decode cX9_textOf 2 = .ok (.iconst 4, 1) := by decide +kernel
theorem dX9_textOf_3 : decode cX9_textOf 3 = .ok (.invokevirtual 68, 3) := by decide +kernel
theorem dX9_textOf_6 : decode cX9_textOf 6 = .ok (.invokestatic 90, 3) := by decide +kernel
theorem dX9_textOf_9 : decode cX9_textOf 9 = .ok (.istore_n 2, 1) := by decide +kernel
theorem dX9_textOf_10 : decode cX9_textOf 10 = .ok (.aload_n 0, 1) := by decide +kernel
theorem dX9_textOf_11 : decode cX9_textOf 11 = .ok (.iload_n 1, 1) := by decide +kernel
theorem dX9_textOf_12 : decode cX9_textOf 12 = .ok (.iconst 1, 1) := by decide +kernel
theorem dX9_textOf_13 : decode cX9_textOf 13 = .ok (.invokevirtual 68, 3) := by decide +kernel
theorem dX9_textOf_16 : decode cX9_textOf 16 = .ok (.iload_n 2, 1) := by decide +kernel
theorem dX9_textOf_17 : decode cX9_textOf 17 = .ok (.ifCond .ne 7, 3) := by decide +kernel
theorem dX9_textOf_20 : decode cX9_textOf 20 = .ok (.iconst 0, 1) := by decide +kernel
theorem dX9_textOf_21 : decode cX9_textOf 21 = .ok (.goto 6, 3) := by decide +kernel
theorem dX9_textOf_24 : decode cX9_textOf 24 = .ok (.iconst 1, 1) := by decide +kernel
theorem dX9_textOf_25 : decode cX9_textOf 25 = .ok (.iload_n 2, 1) := by decide +kernel
theorem dX9_textOf_26 : decode cX9_textOf 26 = .ok (.iadd, 1) := by decide +kernel
theorem dX9_textOf_27 : decode cX9_textOf 27 = .ok (.iadd, 1) := by decide +kernel
theorem dX9_textOf_28 : decode cX9_textOf 28 = .ok (.ireturn, 1) := by decide +kernel
set_option maxRecDepth 20000 in
theorem ggX9_linesBy_X9_textOf : GoodIn wsX9_linesBy wsX9_textOf := goodIn_r _ [5, 6, 7, 8, 4, 9, 10, 11, 12, 13, 18, 19, 20, 21, 22, 23, 24, 25, 26, 27, 28, 29, 30, 31, 32, 33, 34, 35, 36, 37, 38, 39, 40, 41, 42, 43, 44] (by decide +kernel) (by decide +kernel)
set_option maxRecDepth 20000 in
theorem gX9_linesBy_X9_textOf : GoodIn wsX9_linesBy (wsV RX9 93 RX9 yX9_textOf wsX9_textOf) := goodIn_app (goodIn_of _ (by decide +kernel)) ggX9_linesBy_X9_textOf
set_option maxRecDepth 20000 in
theorem ggX9_linesBy_X9_width : GoodIn wsX9_linesBy wsX9_width := goodIn_r _ [17, 10, 18, 19, 20, 21, 22, 23, 24, 25, 26, 27, 28, 29, 30, 31, 32, 33, 34, 35, 36, 37, 38, 39, 40, 41, 42, 43, 44] (by decide +kernel) (by decide +kernel)
set_option maxRecDepth 20000 in
theorem gX9_linesBy_X9_width : GoodIn wsX9_linesBy (wsV RX9 96 RX9 yX9_width wsX9_width) := goodIn_app (goodIn_of _ (by decide +kernel)) ggX9_linesBy_X9_width
theorem dX9_linesBy_0 : decode cX9_linesBy 0 = .ok (.aload_n 0, 1) := by decide +kernel
theorem dX9_linesBy_1 : decode cX9_linesBy 1 = .ok (.iload_n 1, 1) := by decide +kernel
theorem dX9_linesBy_2 : decode cX9_linesBy 2 = .ok (.invokevirtual 93, 3) := by decide +kernel
theorem dX9_linesBy_5 : decode cX9_linesBy 5 = .ok (.iconst 3, 1) := by decide +kernel
theorem dX9_linesBy_6 : decode cX9_linesBy 6 = .ok (.iadd, 1) := by decide +kernel
theorem dX9_linesBy_7 : decode cX9_linesBy 7 = .ok (.iload_n 2, 1) := by decide +kernel
theorem dX9_linesBy_8 : decode cX9_linesBy 8 = .ok (.iadd, 1) := by decide +kernel
theorem dX9_linesBy_9 : decode cX9_linesBy 9 = .ok (.aload_n 0, 1) := by decide +kernel
theorem dX9_linesBy_10 : decode cX9_linesBy 10 = .ok (.invokevirtual 96, 3) := by decide +kernel
theorem dX9_linesBy_13 : decode cX9_linesBy 13 = .ok (.iadd, 1) := by decide +kernel
theorem dX9_linesBy_14 : decode cX9_linesBy 14 = .ok (.iconst 1, 1) := by decide +kernel
theorem dX9_linesBy_15 : decode cX9_linesBy 15 = .ok (.isub, 1) := by decide +kernel
theorem dX9_linesBy_16 : decode cX9_linesBy 16 = .ok (.aload_n 0, 1) := by decide +kernel
theorem dX9_linesBy_17 : decode cX9_linesBy 17 = .ok (.invokevirtual 96, 3) := by decide +kernel
theorem dX9_linesBy_20 : decode cX9_linesBy 20 = .ok (.idiv, 1) := by decide +kernel
theorem dX9_linesBy_21 : decode cX9_linesBy 21 = .ok (.ireturn, 1) := by decide +kernel
theorem dX9_add_0 : decode cX9_add 0 = .ok (.bipush 26, 2) := by decide +kernel
theorem dX9_add_2 : decode cX9_add 2 = .ok (.iload_n 1, 1) := by decide +kernel
theorem dX9_add_3 : decode cX9_add 3 = .ok (.imul, 1) := by decide +kernel
theorem dX9_add_4 : decode cX9_add 4 = .ok (.aload_n 0, 1) := by decide +kernel
theorem dX9_add_5 : decode cX9_add 5 = .ok (.getfield 22, 3) := by decide +kernel
theorem dX9_add_8 : decode cX9_add 8 = .ok (.iload_n 1, 1) := by decide +kernel
theorem dX9_add_9 : decode cX9_add 9 = .ok (.iaload, 1) := by decide +kernel
theorem dX9_add_10 : decode cX9_add 10 = .ok (.iadd, 1) := by decide +kernel
theorem dX9_add_11 : decode cX9_add 11 = .ok (.istore 7, 2) := by decide +kernel
theorem dX9_add_13 : decode cX9_add 13 = .ok (.aload_n 0, 1) := by decide +kernel
theorem dX9_add_14 : decode cX9_add 14 = .ok (.getfield 25, 3) := by decide +kernel
theorem dX9_add_17 : decode cX9_add 17 = .ok (.iload 7, 2) := by decide +kernel
theorem dX9_add_19 : decode cX9_add 19 = .ok (.iload_n 2, 1) := by decide +kernel
theorem dX9_add_20 : decode cX9_add 20 = .ok (.iastore, 1) := by decide +kernel
theorem dX9_add_21 : decode cX9_add 21 = .ok (.aload_n 0, 1) := by decide +kernel
theorem dX9_add_22 : decode cX9_add 22 = .ok (.getfield 28, 3) := by decide +kernel
theorem dX9_add_25 : decode cX9_add 25 = .ok (.iload 7, 2) := by decide +kernel
theorem dX9_add_27 : decode cX9_add 27 = .ok (.iload_n 3, 1) := by decide +kernel
theorem dX9_add_28 : decode cX9_add 28 = .ok (.iastore, 1) := by decide +kernel
theorem dX9_add_29 : decode cX9_add 29 = .ok (.aload_n 0, 1) := by decide +kernel
theorem dX9_add_30 : decode cX9_add 30 = .ok (.getfield 31, 3) := by decide +kernel
theorem dX9_add_33 : decode cX9_add 33 = .ok (.iload 7, 2) := by decide +kernel
theorem dX9_add_35 : decode cX9_add 35 = .ok (.iload 4, 2) := by decide +kernel
theorem dX9_add_37 : decode cX9_add 37 = .ok (.iastore, 1) := by decide +kernel
theorem dX9_add_38 : decode cX9_add 38 = .ok (.aload_n 0, 1) := by decide +kernel
theorem dX9_add_39 : decode cX9_add 39 = .ok (.getfield 37, 3) := by decide +kernel
theorem dX9_add_42 : decode cX9_add 42 = .ok (.iload 7, 2) := by decide +kernel
theorem dX9_add_44 : decode cX9_add 44 = .ok (.iload 5, 2) := by decide +kernel
theorem dX9_add_46 : decode cX9_add 46 = .ok (.iastore, 1) := by decide +kernel
theorem dX9_add_47 : decode cX9_add 47 = .ok (.aload_n 0, 1) := by decide +kernel
theorem dX9_add_48 : decode cX9_add 48 = .ok (.getfield 40, 3) := by decide +kernel
theorem dX9_add_51 : decode cX9_add 51 = .ok (.iload 7, 2) := by decide +kernel
theorem dX9_add_53 : decode cX9_add 53 = .ok (.iconst 0, 1) := by decide +kernel
theorem dX9_add_54 : decode cX9_add 54 = .ok (.iastore, 1) := by decide +kernel
theorem dX9_add_55 : decode cX9_add 55 = .ok (.aload_n 0, 1) := by decide +kernel
theorem dX9_add_56 : decode cX9_add 56 = .ok (.getfield 22, 3) := by decide +kernel
theorem dX9_add_59 : decode cX9_add 59 = .ok (.iload_n 1, 1) := by decide +kernel
theorem dX9_add_60 : decode cX9_add 60 = .ok (.dup2, 1) := by decide +kernel
theorem dX9_add_61 : decode cX9_add 61 = .ok (.iaload, 1) := by decide +kernel
theorem dX9_add_62 : decode cX9_add 62 = .ok (.iconst 1, 1) := by decide +kernel
theorem dX9_add_63 : decode cX9_add 63 = .ok (.iadd, 1) := by decide +kernel
theorem dX9_add_64 : decode cX9_add 64 = .ok (.iastore, 1) := by decide +kernel
theorem dX9_add_65 : decode cX9_add 65 = .ok (.aload_n 0, 1) := by decide +kernel
theorem dX9_add_66 : decode cX9_add 66 = .ok (.getfield 43, 3) := by decide +kernel
theorem dX9_add_69 : decode cX9_add 69 = .ok (.iload_n 1, 1) := by decide +kernel
theorem dX9_add_70 : decode cX9_add 70 = .ok (.dup2, 1) := by decide +kernel
theorem dX9_add_71 : decode cX9_add 71 = .ok (.iaload, 1) := by decide +kernel
theorem dX9_add_72 : decode cX9_add 72 = .ok (.iload 4, 2) := by decide +kernel
theorem dX9_add_74 : decode cX9_add 74 = .ok (.iload 5, 2) := by decide +kernel
theorem dX9_add_76 : decode cX9_add 76 = .ok (.iadd, 1) := by decide +kernel
theorem dX9_add_77 : decode cX9_add 77 = .ok (.iadd, 1) := by decide +kernel
theorem dX9_add_78 : decode cX9_add 78 = .ok (.iastore, 1) := by decide +kernel
theorem dX9_add_79 : decode cX9_add 79 = .ok (.aload_n 0, 1) := by decide +kernel
theorem dX9_add_80 : decode cX9_add 80 = .ok (.getfield 46, 3) := by decide +kernel
theorem dX9_add_83 : decode cX9_add 83 = .ok (.iload_n 1, 1) := by decide +kernel
theorem dX9_add_84 : decode cX9_add 84 = .ok (.dup2, 1) := by decide +kernel
theorem dX9_add_85 : decode cX9_add 85 = .ok (.iaload, 1) := by decide +kernel
theorem dX9_add_86 : decode cX9_add 86 = .ok (.iload 6, 2) := by decide +kernel
theorem dX9_add_88 : decode cX9_add 88 = .ok (.iadd, 1) := by decide +kernel
theorem dX9_add_89 : decode cX9_add 89 = .ok (.iastore, 1) := by decide +kernel
theorem dX9_add_90 : decode cX9_add 90 = .ok (.return_, 1) := by decide +kernel
set_option maxRecDepth 20000 in
theorem ggX9_addCourse_X9_has : GoodIn wsX9_addCourse wsX9_has := goodIn_r _ [7] (by decide +kernel) (by decide +kernel)
set_option maxRecDepth 20000 in
theorem gX9_addCourse_X9_has : GoodIn wsX9_addCourse (va_wsS RX9 72 yX9_has wsX9_has) := goodIn_app (goodIn_of _ (by decide +kernel)) ggX9_addCourse_X9_has
set_option maxRecDepth 20000 in
theorem ggX9_addCourse_X9_of : GoodIn wsX9_addCourse wsX9_of := goodIn_r _ [11, 1, 39, 40, 41, 42, 43, 44, 45, 46, 47, 48, 49, 50, 51, 52, 53, 54, 55, 56, 57, 58, 59, 60, 61, 62, 63, 64, 65] (by decide +kernel) (by decide +kernel)
set_option maxRecDepth 20000 in
theorem gX9_addCourse_X9_of : GoodIn wsX9_addCourse (wsV RX9 68 RX9 yX9_of wsX9_of) := goodIn_app (goodIn_of _ (by decide +kernel)) ggX9_addCourse_X9_of
set_option maxRecDepth 20000 in
theorem ggX9_addCourse_X9_add : GoodIn wsX9_addCourse wsX9_add := goodIn_r _ [15, 16, 17, 18, 19, 20, 21, 22, 23, 39, 40, 41, 42, 43, 44, 45, 46, 47, 48, 49, 50, 51, 52, 53, 54, 55, 56, 57, 58, 59, 60, 61, 62, 63, 64, 65] (by decide +kernel) (by decide +kernel)
set_option maxRecDepth 20000 in
theorem gX9_addCourse_X9_add : GoodIn wsX9_addCourse (wsV RX9 103 RX9 yX9_add wsX9_add) := goodIn_app (goodIn_of _ (by decide +kernel)) ggX9_addCourse_X9_add
set_option maxRecDepth 20000 in
theorem ggX9_addCourse_X9_linesBy : GoodIn wsX9_addCourse wsX9_linesBy := goodIn_r _ [27, 28, 29, 30, 6, 31, 8, 9, 10, 11, 1, 32, 33, 34, 35, 36, 37, 38, 39, 40, 41, 42, 43, 44, 45, 46, 47, 48, 49, 50, 51, 52, 53, 54, 55, 56, 57, 58, 59, 60, 61, 62, 63, 64, 65] (by decide +kernel) (by decide +kernel)
set_option maxRecDepth 20000 in
theorem gX9_addCourse_X9_linesBy : GoodIn wsX9_addCourse (wsV RX9 110 RX9 yX9_linesBy wsX9_linesBy) := goodIn_app (goodIn_of _ (by decide +kernel)) ggX9_addCourse_X9_linesBy
theorem dX9_addCourse_0 : decode cX9_addCourse 0 = .ok (.aload_n 0, 1) := by decide +kernel
theorem dX9_addCourse_1 : decode cX9_addCourse 1 = .ok (.getfield 7, 3) := by decide +kernel
theorem dX9_addCourse_4 : decode cX9_addCourse 4 = .ok (.sipush 147, 3) := by decide +kernel
theorem dX9_addCourse_7 : decode cX9_addCourse 7 = .ok (.iload_n 1, 1) := by decide +kernel
theorem dX9_addCourse_8 : decode cX9_addCourse 8 = .ok (.iadd, 1) := by decide +kernel
theorem dX9_addCourse_9 : decode cX9_addCourse 9 = .ok (.iaload, 1) := by decide +kernel
theorem dX9_addCourse_10 : decode cX9_addCourse 10 = .ok (.istore_n 2, 1) := by decide +kernel
theorem dX9_addCourse_11 : decode cX9_addCourse 11 = .ok (.iconst 0, 1) := by decide +kernel
theorem dX9_addCourse_12 : decode cX9_addCourse 12 = .ok (.istore_n 3, 1) := by decide +kernel
theorem dX9_addCourse_13 : decode cX9_addCourse 13 = .ok (.iconst 0, 1) := by decide +kernel
theorem dX9_addCourse_14 : decode cX9_addCourse 14 = .ok (.istore 4, 2) := by decide +kernel
theorem dX9_addCourse_16 : decode cX9_addCourse 16 = .ok (.iload 4, 2) := by decide +kernel
theorem dX9_addCourse_18 : decode cX9_addCourse 18 = .ok (.aload_n 0, 1) := by decide +kernel
theorem dX9_addCourse_19 : decode cX9_addCourse 19 = .ok (.getfield 7, 3) := by decide +kernel
theorem dX9_addCourse_22 : decode cX9_addCourse 22 = .ok (.iconst 0, 1) := by decide +kernel
theorem dX9_addCourse_23 : decode cX9_addCourse 23 = .ok (.iaload, 1) := by decide +kernel
theorem dX9_addCourse_24 : decode cX9_addCourse 24 = .ok (.if_icmp .ge 100, 3) := by decide +kernel
theorem dX9_addCourse_27 : decode cX9_addCourse 27 = .ok (.aload_n 0, 1) := by decide +kernel
theorem dX9_addCourse_28 : decode cX9_addCourse 28 = .ok (.getfield 100, 3) := by decide +kernel
theorem dX9_addCourse_31 : decode cX9_addCourse 31 = .ok (.iload 4, 2) := by decide +kernel
theorem dX9_addCourse_33 : decode cX9_addCourse 33 = .ok (.invokestatic 72, 3) := by decide +kernel
theorem dX9_addCourse_36 : decode cX9_addCourse 36 = .ok (.ifCond .eq 82, 3) := by decide +kernel
theorem dX9_addCourse_39 : decode cX9_addCourse 39 = .ok (.aload_n 0, 1) := by decide +kernel
theorem dX9_addCourse_40 : decode cX9_addCourse 40 = .ok (.iload 4, 2) := by decide +kernel
theorem dX9_addCourse_42 : decode cX9_addCourse 42 = .ok (.iconst 0, 1) := by decide +kernel
theorem dX9_addCourse_43 : decode cX9_addCourse 43 = .ok (.invokevirtual 68, 3) := by decide +kernel
theorem dX9_addCourse_46 : decode cX9_addCourse 46 = .ok (.iload_n 1, 1) := by decide +kernel
theorem dX9_addCourse_47 : decode cX9_addCourse 47 = .ok (.if_icmp .ne 71, 3) := by decide +kernel
theorem dX9_addCourse_50 : decode cX9_addCourse 50 = .ok (.iload_n 3, 1) := by decide +kernel
theorem dX9_addCourse_51 : decode cX9_addCourse 51 = .ok (.ifCond .ne 14, 3) := by decide +kernel
theorem dX9_addCourse_54 : decode cX9_addCourse 54 = .ok (.aload_n 0, 1) := by decide +kernel
theorem dX9_addCourse_55 : decode cX9_addCourse 55 = .ok (.iload_n 2, 1) := by decide +kernel
theorem dX9_addCourse_56 : decode cX9_addCourse 56 = .ok (.iconst 1, 1) := by decide +kernel
theorem dX9_addCourse_57 : decode cX9_addCourse 57 = .ok (.iload_n 1, 1) := by decide +kernel
theorem dX9_addCourse_58 : decode cX9_addCourse 58 = .ok (.iconst 2, 1) := by decide +kernel
theorem dX9_addCourse_59 : decode cX9_addCourse 59 = .ok (.iconst 0, 1) := by decide +kernel
theorem dX9_addCourse_60 : decode cX9_addCourse 60 = .ok (.bipush 6, 2) := by decide +kernel
theorem dX9_addCourse_62 : decode cX9_addCourse 62 = .ok (.invokevirtual 103, 3) := by decide +kernel
theorem dX9_addCourse_65 : decode cX9_addCourse 65 = .ok (.aload_n 0, 1) := by decide +kernel
theorem dX9_addCourse_66 : decode cX9_addCourse 66 = .ok (.iload 4, 2) := by decide +kernel
theorem dX9_addCourse_68 : decode cX9_addCourse 68 = .ok (.aload_n 0, 1) := by decide +kernel
theorem dX9_addCourse_69 : decode cX9_addCourse 69 = .ok (.getfield 107, 3) := by decide +kernel
theorem dX9_addCourse_72 : decode cX9_addCourse 72 = .ok (.invokevirtual 110, 3) := by decide +kernel
theorem dX9_addCourse_75 : decode cX9_addCourse 75 = .ok (.istore 5, 2) := by decide +kernel
theorem dX9_addCourse_77 : decode cX9_addCourse 77 = .ok (.aload_n 0, 1) := by decide +kernel
theorem dX9_addCourse_78 : decode cX9_addCourse 78 = .ok (.iload_n 2, 1) := by decide +kernel
theorem dX9_addCourse_79 : decode cX9_addCourse 79 = .ok (.iconst 2, 1) := by decide +kernel
theorem dX9_addCourse_80 : decode cX9_addCourse 80 = .ok (.iload 4, 2) := by decide +kernel
theorem dX9_addCourse_82 : decode cX9_addCourse 82 = .ok (.iload 5, 2) := by decide +kernel
theorem dX9_addCourse_84 : decode cX9_addCourse 84 = .ok (.iload_n 3, 1) := by decide +kernel
theorem dX9_addCourse_85 : decode cX9_addCourse 85 = .ok (.ifCond .ne 7, 3) := by decide +kernel
theorem dX9_addCourse_88 : decode cX9_addCourse 88 = .ok (.iconst 0, 1) := by decide +kernel
theorem dX9_addCourse_89 : decode cX9_addCourse 89 = .ok (.goto 11, 3) := by decide +kernel
theorem dX9_addCourse_92 : decode cX9_addCourse 92 = .ok (.aload_n 0, 1) := by decide +kernel
theorem dX9_addCourse_93 : decode cX9_addCourse 93 = .ok (.getfield 7, 3) := by decide +kernel
theorem dX9_addCourse_96 : decode cX9_addCourse 96 = .ok (.sipush 144, 3) := by decide +kernel
theorem dX9_addCourse_99 : decode cX9_addCourse 99 = .ok (.iaload, 1) := by decide +kernel
theorem dX9_addCourse_100 : decode cX9_addCourse 100 = .ok (.iload 5, 2) := by decide +kernel
theorem dX9_addCourse_102 : decode cX9_addCourse 102 = .ok (.aload_n 0, 1) := by decide +kernel
theorem dX9_addCourse_103 : decode cX9_addCourse 103 = .ok (.iload 4, 2) := by decide +kernel
theorem dX9_addCourse_105 : decode cX9_addCourse 105 = .ok (.iconst 5, 1) := by decide +kernel
theorem dX9_addCourse_106 : decode cX9_addCourse 106 = .ok (.invokevirtual 68, 3) := by decide +kernel
theorem dX9_addCourse_109 : decode cX9_addCourse 109 = .ok (.imul, 1) := by decide +kernel
theorem dX9_addCourse_110 : decode cX9_addCourse 110 = .ok (.iconst 2, 1) := by decide +kernel
theorem dX9_addCourse_111 : decode cX9_addCourse 111 = .ok (.iadd, 1) := by decide +kernel
theorem dX9_addCourse_112 : decode cX9_addCourse 112 = .ok (.invokevirtual 103, 3) := by decide +kernel
theorem dX9_addCourse_115 : decode cX9_addCourse 115 = .ok (.iinc 3 1, 3) := by decide +kernel
theorem dX9_addCourse_118 : decode cX9_addCourse 118 = .ok (.iinc 4 1, 3) := by decide +kernel
theorem dX9_addCourse_121 : decode cX9_addCourse 121 = .ok (.goto (-105), 3) := by decide +kernel
theorem dX9_addCourse_124 : decode cX9_addCourse 124 = .ok (.return_, 1) := by decide +kernel
set_option maxRecDepth 20000 in
theorem ggX9_lookAtPrinted_X9_printedNow : GoodIn wsX9_lookAtPrinted wsX9_printedNow := goodIn_r _ [9, 3, 10, 11, 12, 8, 13, 14, 15, 16, 17, 18, 19, 20, 21, 22, 23, 24, 25, 26, 27, 28, 29, 30, 31, 32, 36, 37, 38, 39, 40, 41, 42, 43, 44, 45, 46, 47, 48, 49, 50, 51, 52, 53, 54, 55, 56, 57, 58, 59, 60, 61, 62] (by decide +kernel) (by decide +kernel)
set_option maxRecDepth 20000 in
theorem gX9_lookAtPrinted_X9_printedNow : GoodIn wsX9_lookAtPrinted (wsV RX9 113 RX9 yX9_printedNow wsX9_printedNow) := goodIn_app (goodIn_of _ (by decide +kernel)) ggX9_lookAtPrinted_X9_printedNow
set_option maxRecDepth 20000 in
theorem ggX9_lookAtPrinted_X9_has : GoodIn wsX9_lookAtPrinted wsX9_has := goodIn_r _ [28] (by decide +kernel) (by decide +kernel)
set_option maxRecDepth 20000 in
theorem gX9_lookAtPrinted_X9_has : GoodIn wsX9_lookAtPrinted (va_wsS RX9 72 yX9_has wsX9_has) := goodIn_app (goodIn_of _ (by decide +kernel)) ggX9_lookAtPrinted_X9_has
set_option maxRecDepth 20000 in
theorem ggX9_lookAtPrinted_X9_of : GoodIn wsX9_lookAtPrinted wsX9_of := goodIn_r _ [25, 3, 36, 37, 38, 39, 40, 41, 42, 43, 44, 45, 46, 47, 48, 49, 50, 51, 52, 53, 54, 55, 56, 57, 58, 59, 60, 61, 62] (by decide +kernel) (by decide +kernel)
set_option maxRecDepth 20000 in
theorem gX9_lookAtPrinted_X9_of : GoodIn wsX9_lookAtPrinted (wsV RX9 68 RX9 yX9_of wsX9_of) := goodIn_app (goodIn_of _ (by decide +kernel)) ggX9_lookAtPrinted_X9_of
set_option maxRecDepth 20000 in
theorem ggX9_lookAtPrinted_X9_figures : GoodIn wsX9_lookAtPrinted wsX9_figures := goodIn_r _ [35] (by decide +kernel) (by decide +kernel)
set_option maxRecDepth 20000 in
theorem gX9_lookAtPrinted_X9_figures : GoodIn wsX9_lookAtPrinted (va_wsS RX9 119 yX9_figures wsX9_figures) := goodIn_app (goodIn_of _ (by decide +kernel)) ggX9_lookAtPrinted_X9_figures
theorem dX9_lookAtPrinted_0 : decode cX9_lookAtPrinted 0 = .ok (.aload_n 0, 1) := by decide +kernel
theorem dX9_lookAtPrinted_1 : decode cX9_lookAtPrinted 1 = .ok (.aload_n 0, 1) := by decide +kernel
theorem dX9_lookAtPrinted_2 : decode cX9_lookAtPrinted 2 = .ok (.invokevirtual 113, 3) := by decide +kernel
theorem dX9_lookAtPrinted_5 : decode cX9_lookAtPrinted 5 = .ok (.putfield 100, 3) := by decide +kernel
theorem dX9_lookAtPrinted_8 : decode cX9_lookAtPrinted 8 = .ok (.aload_n 0, 1) := by decide +kernel
theorem dX9_lookAtPrinted_9 : decode cX9_lookAtPrinted 9 = .ok (.iconst 0, 1) := by decide +kernel
theorem dX9_lookAtPrinted_10 : decode cX9_lookAtPrinted 10 = .ok (.putfield 116, 3) := by decide +kernel
theorem dX9_lookAtPrinted_13 : decode cX9_lookAtPrinted 13 = .ok (.iconst 0, 1) := by decide +kernel
theorem dX9_lookAtPrinted_14 : decode cX9_lookAtPrinted 14 = .ok (.istore_n 1, 1) := by decide +kernel
theorem dX9_lookAtPrinted_15 : decode cX9_lookAtPrinted 15 = .ok (.iconst 0, 1) := by decide +kernel
theorem dX9_lookAtPrinted_16 : decode cX9_lookAtPrinted 16 = .ok (.istore_n 2, 1) := by decide +kernel
theorem dX9_lookAtPrinted_17 : decode cX9_lookAtPrinted 17 = .ok (.iload_n 2, 1) := by decide +kernel
theorem dX9_lookAtPrinted_18 : decode cX9_lookAtPrinted 18 = .ok (.aload_n 0, 1) := by decide +kernel
theorem dX9_lookAtPrinted_19 : decode cX9_lookAtPrinted 19 = .ok (.getfield 7, 3) := by decide +kernel
theorem dX9_lookAtPrinted_22 : decode cX9_lookAtPrinted 22 = .ok (.iconst 0, 1) := by decide +kernel
theorem dX9_lookAtPrinted_23 : decode cX9_lookAtPrinted 23 = .ok (.iaload, 1) := by decide +kernel
theorem dX9_lookAtPrinted_24 : decode cX9_lookAtPrinted 24 = .ok (.if_icmp .ge 56, 3) := by decide +kernel
theorem dX9_lookAtPrinted_27 : decode cX9_lookAtPrinted 27 = .ok (.aload_n 0, 1) := by decide +kernel
theorem dX9_lookAtPrinted_28 : decode cX9_lookAtPrinted 28 = .ok (.getfield 100, 3) := by decide +kernel
theorem dX9_lookAtPrinted_31 : decode cX9_lookAtPrinted 31 = .ok (.iload_n 2, 1) := by decide +kernel
theorem dX9_lookAtPrinted_32 : decode cX9_lookAtPrinted 32 = .ok (.invokestatic 72, 3) := by decide +kernel
theorem dX9_lookAtPrinted_35 : decode cX9_lookAtPrinted 35 = .ok (.ifCond .eq 39, 3) := by decide +kernel
theorem dX9_lookAtPrinted_38 : decode cX9_lookAtPrinted 38 = .ok (.aload_n 0, 1) := by decide +kernel
theorem dX9_lookAtPrinted_39 : decode cX9_lookAtPrinted 39 = .ok (.dup, 1) := by decide +kernel
theorem dX9_lookAtPrinted_40 : decode cX9_lookAtPrinted 40 = .ok (.getfield 116, 3) := by decide +kernel
theorem dX9_lookAtPrinted_43 : decode cX9_lookAtPrinted 43 = .ok (.aload_n 0, 1) := by decide +kernel
theorem dX9_lookAtPrinted_44 : decode cX9_lookAtPrinted 44 = .ok (.iload_n 2, 1) := by decide +kernel
theorem dX9_lookAtPrinted_45 : decode cX9_lookAtPrinted 45 = .ok (.iconst 4, 1) := by decide +kernel
theorem dX9_lookAtPrinted_46 : decode cX9_lookAtPrinted 46 = .ok (.invokevirtual 68, 3) := by decide +kernel
theorem dX9_lookAtPrinted_49 : decode cX9_lookAtPrinted 49 = .ok (.ior, 1) := by decide +kernel
theorem dX9_lookAtPrinted_50 : decode cX9_lookAtPrinted 50 = .ok (.putfield 116, 3) := by decide +kernel
theorem dX9_lookAtPrinted_53 : decode cX9_lookAtPrinted 53 = .ok (.aload_n 0, 1) := by decide +kernel
theorem dX9_lookAtPrinted_54 : decode cX9_lookAtPrinted 54 = .ok (.iload_n 2, 1) := by decide +kernel
theorem dX9_lookAtPrinted_55 : decode cX9_lookAtPrinted 55 = .ok (.iconst 2, 1) := by decide +kernel
theorem dX9_lookAtPrinted_56 : decode cX9_lookAtPrinted 56 = .ok (.invokevirtual 68, 3) := by decide +kernel
theorem dX9_lookAtPrinted_59 : decode cX9_lookAtPrinted 59 = .ok (.iload_n 1, 1) := by decide +kernel
theorem dX9_lookAtPrinted_60 : decode cX9_lookAtPrinted 60 = .ok (.if_icmp .le 12, 3) := by decide +kernel
theorem dX9_lookAtPrinted_63 : decode cX9_lookAtPrinted 63 = .ok (.aload_n 0, 1) := by decide +kernel
theorem dX9_lookAtPrinted_64 : decode cX9_lookAtPrinted 64 = .ok (.iload_n 2, 1) := by decide +kernel
theorem dX9_lookAtPrinted_65 : decode cX9_lookAtPrinted 65 = .ok (.iconst 2, 1) := by decide +kernel
theorem dX9_lookAtPrinted_66 : decode cX9_lookAtPrinted 66 = .ok (.invokevirtual 68, 3) := by decide +kernel
theorem dX9_lookAtPrinted_69 : decode cX9_lookAtPrinted 69 = .ok (.goto 4, 3) := by decide +kernel
theorem dX9_lookAtPrinted_72 : decode cX9_lookAtPrinted 72 = .ok (.iload_n 1, 1) := by decide +kernel
theorem dX9_lookAtPrinted_73 : decode cX9_lookAtPrinted 73 = .ok (.istore_n 1, 1) := by decide +kernel
theorem dX9_lookAtPrinted_74 : decode cX9_lookAtPrinted 74 = .ok (.iinc 2 1, 3) := by decide +kernel
theorem dX9_lookAtPrinted_77 : decode cX9_lookAtPrinted 77 = .ok (.goto (-60), 3) := by decide +kernel
theorem dX9_lookAtPrinted_80 : decode cX9_lookAtPrinted 80 = .ok (.aload_n 0, 1) := by decide +kernel
theorem dX9_lookAtPrinted_81 : decode cX9_lookAtPrinted 81 = .ok (.iload_n 1, 1) := by decide +kernel
theorem dX9_lookAtPrinted_82 : decode cX9_lookAtPrinted 82 = .ok (.ifCond .ne 7, 3) := by decide +kernel
theorem dX9_lookAtPrinted_85 : decode cX9_lookAtPrinted 85 = .ok (.iconst 0, 1) := by decide +kernel
theorem dX9_lookAtPrinted_86 : decode cX9_lookAtPrinted 86 = .ok (.goto 7, 3) := by decide +kernel
theorem dX9_lookAtPrinted_89 : decode cX9_lookAtPrinted 89 = .ok (.iload_n 1, 1) := by decide +kernel
theorem dX9_lookAtPrinted_90 : decode cX9_lookAtPrinted 90 = .ok (.invokestatic 119, 3) := by decide +kernel
theorem dX9_lookAtPrinted_93 : decode cX9_lookAtPrinted 93 = .ok (.putfield 107, 3) := by decide +kernel
theorem dX9_lookAtPrinted_96 : decode cX9_lookAtPrinted 96 = .ok (.return_, 1) := by decide +kernel
set_option maxRecDepth 20000 in
theorem ggX9_addKey_X9_size : GoodIn wsX9_addKey wsX9_size := goodIn_r _ [8] (by decide +kernel) (by decide +kernel)
set_option maxRecDepth 20000 in
theorem gX9_addKey_X9_size : GoodIn wsX9_addKey (va_wsS RX9 90 yX9_size wsX9_size) := goodIn_app (goodIn_of _ (by decide +kernel)) ggX9_addKey_X9_size
set_option maxRecDepth 20000 in
theorem ggX9_addKey_X9_add : GoodIn wsX9_addKey wsX9_add := goodIn_r _ [12, 13, 14, 15, 16, 17, 18, 3, 4, 19, 20, 21, 22, 23, 24, 25, 26, 27, 28, 29, 30, 31, 32, 33, 34, 35, 36, 37, 38, 39, 40, 41, 42, 43, 44, 45] (by decide +kernel) (by decide +kernel)
set_option maxRecDepth 20000 in
theorem gX9_addKey_X9_add : GoodIn wsX9_addKey (wsV RX9 103 RX9 yX9_add wsX9_add) := goodIn_app (goodIn_of _ (by decide +kernel)) ggX9_addKey_X9_add
theorem dX9_addKey_0 : decode cX9_addKey 0 = .ok (.aload_n 0, 1) := by decide +kernel
theorem dX9_addKey_1 : decode cX9_addKey 1 = .ok (.bipush (-99), 2) := by decide +kernel
theorem dX9_addKey_3 : decode cX9_addKey 3 = .ok (.putfield 122, 3) := by decide +kernel
theorem dX9_addKey_6 : decode cX9_addKey 6 = .ok (.aload_n 0, 1) := by decide +kernel
theorem dX9_addKey_7 : decode cX9_addKey 7 = .ok (.getfield 116, 3) := by decide +kernel
theorem dX9_addKey_10 : decode cX9_addKey 10 = .ok (.ifCond .ne 4, 3) := by decide +kernel
theorem dX9_addKey_13 : decode cX9_addKey 13 = .ok (.return_, 1) := by decide +kernel
theorem dX9_addKey_14 : decode cX9_addKey 14 = .ok (.aload_n 0, 1) := by decide +kernel
theorem dX9_addKey_15 : decode cX9_addKey 15 = .ok (.getfield 43, 3) := by decide +kernel
theorem dX9_addKey_18 : decode cX9_addKey 18 = .ok (.iconst 1, 1) := by decide +kernel
theorem dX9_addKey_19 : decode cX9_addKey 19 = .ok (.iaload, 1) := by decide +kernel
theorem dX9_addKey_20 : decode cX9_addKey 20 = .ok (.aload_n 0, 1) := by decide +kernel
theorem dX9_addKey_21 : decode cX9_addKey 21 = .ok (.getfield 43, 3) := by decide +kernel
theorem dX9_addKey_24 : decode cX9_addKey 24 = .ok (.iconst 0, 1) := by decide +kernel
theorem dX9_addKey_25 : decode cX9_addKey 25 = .ok (.iaload, 1) := by decide +kernel
theorem dX9_addKey_26 : decode cX9_addKey 26 = .ok (.if_icmp .lt 33, 3) := by decide +kernel
theorem dX9_addKey_29 : decode cX9_addKey 29 = .ok (.aload_n 0, 1) := by decide +kernel
theorem dX9_addKey_30 : decode cX9_addKey 30 = .ok (.getfield 43, 3) := by decide +kernel
theorem dX9_addKey_33 : decode cX9_addKey 33 = .ok (.iconst 1, 1) := by decide +kernel
theorem dX9_addKey_34 : decode cX9_addKey 34 = .ok (.iaload, 1) := by decide +kernel
theorem dX9_addKey_35 : decode cX9_addKey 35 = .ok (.aload_n 0, 1) := by decide +kernel
theorem dX9_addKey_36 : decode cX9_addKey 36 = .ok (.getfield 43, 3) := by decide +kernel
theorem dX9_addKey_39 : decode cX9_addKey 39 = .ok (.iconst 0, 1) := by decide +kernel
theorem dX9_addKey_40 : decode cX9_addKey 40 = .ok (.iaload, 1) := by decide +kernel
theorem dX9_addKey_41 : decode cX9_addKey 41 = .ok (.if_icmp .ne 22, 3) := by decide +kernel
theorem dX9_addKey_44 : decode cX9_addKey 44 = .ok (.aload_n 0, 1) := by decide +kernel
theorem dX9_addKey_45 : decode cX9_addKey 45 = .ok (.getfield 46, 3) := by decide +kernel
theorem dX9_addKey_48 : decode cX9_addKey 48 = .ok (.iconst 1, 1) := by decide +kernel
theorem dX9_addKey_49 : decode cX9_addKey 49 = .ok (.iaload, 1) := by decide +kernel
theorem dX9_addKey_50 : decode cX9_addKey 50 = .ok (.aload_n 0, 1) := by decide +kernel
theorem dX9_addKey_51 : decode cX9_addKey 51 = .ok (.getfield 46, 3) := by decide +kernel
theorem dX9_addKey_54 : decode cX9_addKey 54 = .ok (.iconst 0, 1) := by decide +kernel
theorem dX9_addKey_55 : decode cX9_addKey 55 = .ok (.iaload, 1) := by decide +kernel
theorem dX9_addKey_56 : decode cX9_addKey 56 = .ok (.if_icmp .ge 7, 3) := by decide +kernel
theorem dX9_addKey_59 : decode cX9_addKey 59 = .ok (.iconst 1, 1) := by decide +kernel
theorem dX9_addKey_60 : decode cX9_addKey 60 = .ok (.goto 4, 3) := by decide +kernel
theorem dX9_addKey_63 : decode cX9_addKey 63 = .ok (.iconst 0, 1) := by decide +kernel
theorem dX9_addKey_64 : decode cX9_addKey 64 = .ok (.istore_n 1, 1) := by decide +kernel
theorem dX9_addKey_65 : decode cX9_addKey 65 = .ok (.aload_n 0, 1) := by decide +kernel
theorem dX9_addKey_66 : decode cX9_addKey 66 = .ok (.iload_n 1, 1) := by decide +kernel
theorem dX9_addKey_67 : decode cX9_addKey 67 = .ok (.ifCond .eq 7, 3) := by decide +kernel
theorem dX9_addKey_70 : decode cX9_addKey 70 = .ok (.iconst 1, 1) := by decide +kernel
theorem dX9_addKey_71 : decode cX9_addKey 71 = .ok (.goto 4, 3) := by decide +kernel
theorem dX9_addKey_74 : decode cX9_addKey 74 = .ok (.iconst 0, 1) := by decide +kernel
theorem dX9_addKey_75 : decode cX9_addKey 75 = .ok (.putfield 122, 3) := by decide +kernel
theorem dX9_addKey_78 : decode cX9_addKey 78 = .ok (.aload_n 0, 1) := by decide +kernel
theorem dX9_addKey_79 : decode cX9_addKey 79 = .ok (.aload_n 0, 1) := by decide +kernel
theorem dX9_addKey_80 : decode cX9_addKey 80 = .ok (.getfield 122, 3) := by decide +kernel
theorem dX9_addKey_83 : decode cX9_addKey 83 = .ok (.iconst 3, 1) := by decide +kernel
theorem dX9_addKey_84 : decode cX9_addKey 84 = .ok (.iconst 0, 1) := by decide +kernel
theorem dX9_addKey_85 : decode cX9_addKey 85 = .ok (.aload_n 0, 1) := by decide +kernel
theorem dX9_addKey_86 : decode cX9_addKey 86 = .ok (.getfield 116, 3) := by decide +kernel
theorem dX9_addKey_89 : decode cX9_addKey 89 = .ok (.invokestatic 90, 3) := by decide +kernel
theorem dX9_addKey_92 : decode cX9_addKey 92 = .ok (.iconst 2, 1) := by decide +kernel
theorem dX9_addKey_93 : decode cX9_addKey 93 = .ok (.iadd, 1) := by decide +kernel
theorem dX9_addKey_94 : decode cX9_addKey 94 = .ok (.iconst 3, 1) := by decide +kernel
theorem dX9_addKey_95 : decode cX9_addKey 95 = .ok (.idiv, 1) := by decide +kernel
theorem dX9_addKey_96 : decode cX9_addKey 96 = .ok (.iconst 0, 1) := by decide +kernel
theorem dX9_addKey_97 : decode cX9_addKey 97 = .ok (.aload_n 0, 1) := by decide +kernel
theorem dX9_addKey_98 : decode cX9_addKey 98 = .ok (.getfield 116, 3) := by decide +kernel
theorem dX9_addKey_101 : decode cX9_addKey 101 = .ok (.invokestatic 90, 3) := by decide +kernel
theorem dX9_addKey_104 : decode cX9_addKey 104 = .ok (.invokevirtual 103, 3) := by decide +kernel
theorem dX9_addKey_107 : decode cX9_addKey 107 = .ok (.return_, 1) := by decide +kernel
theorem dX9_isPlace_0 : decode cX9_isPlace 0 = .ok (.iload_n 1, 1) := by decide +kernel
theorem dX9_isPlace_1 : decode cX9_isPlace 1 = .ok (.bipush 26, 2) := by decide +kernel
theorem dX9_isPlace_3 : decode cX9_isPlace 3 = .ok (.irem, 1) := by decide +kernel
theorem dX9_isPlace_4 : decode cX9_isPlace 4 = .ok (.ifCond .le 29, 3) := by decide +kernel
theorem dX9_isPlace_7 : decode cX9_isPlace 7 = .ok (.aload_n 0, 1) := by decide +kernel
theorem dX9_isPlace_8 : decode cX9_isPlace 8 = .ok (.getfield 25, 3) := by decide +kernel
theorem dX9_isPlace_11 : decode cX9_isPlace 11 = .ok (.iload_n 1, 1) := by decide +kernel
theorem dX9_isPlace_12 : decode cX9_isPlace 12 = .ok (.iaload, 1) := by decide +kernel
theorem dX9_isPlace_13 : decode cX9_isPlace 13 = .ok (.iconst 2, 1) := by decide +kernel
theorem dX9_isPlace_14 : decode cX9_isPlace 14 = .ok (.if_icmp .ne 15, 3) := by decide +kernel
theorem dX9_isPlace_17 : decode cX9_isPlace 17 = .ok (.aload_n 0, 1) := by decide +kernel
theorem dX9_isPlace_18 : decode cX9_isPlace 18 = .ok (.getfield 25, 3) := by decide +kernel
theorem dX9_isPlace_21 : decode cX9_isPlace 21 = .ok (.iload_n 1, 1) := by decide +kernel
theorem dX9_isPlace_22 : decode cX9_isPlace 22 = .ok (.iconst 1, 1) := by decide +kernel
theorem dX9_isPlace_23 : decode cX9_isPlace 23 = .ok (.isub, 1) := by decide +kernel
theorem dX9_isPlace_24 : decode cX9_isPlace 24 = .ok (.iaload, 1) := by decide +kernel
theorem dX9_isPlace_25 : decode cX9_isPlace 25 = .ok (.iconst 1, 1) := by decide +kernel
theorem dX9_isPlace_26 : decode cX9_isPlace 26 = .ok (.if_icmp .eq 7, 3) := by decide +kernel
theorem dX9_isPlace_29 : decode cX9_isPlace 29 = .ok (.iconst 1, 1) := by decide +kernel
theorem dX9_isPlace_30 : decode cX9_isPlace 30 = .ok (.goto 4, 3) := by decide +kernel
theorem dX9_isPlace_33 : decode cX9_isPlace 33 = .ok (.iconst 0, 1) := by decide +kernel
theorem dX9_isPlace_34 : decode cX9_isPlace 34 = .ok (.ireturn, 1) := by decide +kernel
set_option maxRecDepth 20000 in
theorem ggX9_addFill_X9_isPlace : GoodIn wsX9_addFill wsX9_isPlace := goodIn_r _ [12, 13, 14, 15, 16, 17, 18, 19, 20, 21, 22, 23, 24, 25, 26, 27, 28, 29, 30, 31, 32, 33, 34, 35, 36, 37, 38, 39, 40] (by decide +kernel) (by decide +kernel)
set_option maxRecDepth 20000 in
theorem gX9_addFill_X9_isPlace : GoodIn wsX9_addFill (wsV RX9 134 RX9 yX9_isPlace wsX9_isPlace) := goodIn_app (goodIn_of _ (by decide +kernel)) ggX9_addFill_X9_isPlace
theorem dX9_addFill_0 : decode cX9_addFill 0 = .ok (.aload_n 0, 1) := by decide +kernel
theorem dX9_addFill_1 : decode cX9_addFill 1 = .ok (.aload_n 0, 1) := by decide +kernel
theorem dX9_addFill_2 : decode cX9_addFill 2 = .ok (.getfield 43, 3) := by decide +kernel
theorem dX9_addFill_5 : decode cX9_addFill 5 = .ok (.iconst 0, 1) := by decide +kernel
theorem dX9_addFill_6 : decode cX9_addFill 6 = .ok (.iaload, 1) := by decide +kernel
theorem dX9_addFill_7 : decode cX9_addFill 7 = .ok (.aload_n 0, 1) := by decide +kernel
theorem dX9_addFill_8 : decode cX9_addFill 8 = .ok (.getfield 43, 3) := by decide +kernel
theorem dX9_addFill_11 : decode cX9_addFill 11 = .ok (.iconst 1, 1) := by decide +kernel
theorem dX9_addFill_12 : decode cX9_addFill 12 = .ok (.iaload, 1) := by decide +kernel
theorem dX9_addFill_13 : decode cX9_addFill 13 = .ok (.if_icmp .ge 19, 3) := by decide +kernel
theorem dX9_addFill_16 : decode cX9_addFill 16 = .ok (.aload_n 0, 1) := by decide +kernel
theorem dX9_addFill_17 : decode cX9_addFill 17 = .ok (.getfield 43, 3) := by decide +kernel
theorem dX9_addFill_20 : decode cX9_addFill 20 = .ok (.iconst 1, 1) := by decide +kernel
theorem dX9_addFill_21 : decode cX9_addFill 21 = .ok (.iaload, 1) := by decide +kernel
theorem dX9_addFill_22 : decode cX9_addFill 22 = .ok (.aload_n 0, 1) := by decide +kernel
theorem dX9_addFill_23 : decode cX9_addFill 23 = .ok (.getfield 43, 3) := by decide +kernel
theorem dX9_addFill_26 : decode cX9_addFill 26 = .ok (.iconst 0, 1) := by decide +kernel
theorem dX9_addFill_27 : decode cX9_addFill 27 = .ok (.iaload, 1) := by decide +kernel
theorem dX9_addFill_28 : decode cX9_addFill 28 = .ok (.isub, 1) := by decide +kernel
theorem dX9_addFill_29 : decode cX9_addFill 29 = .ok (.goto 16, 3) := by decide +kernel
theorem dX9_addFill_32 : decode cX9_addFill 32 = .ok (.aload_n 0, 1) := by decide +kernel
theorem dX9_addFill_33 : decode cX9_addFill 33 = .ok (.getfield 43, 3) := by decide +kernel
theorem dX9_addFill_36 : decode cX9_addFill 36 = .ok (.iconst 0, 1) := by decide +kernel
theorem dX9_addFill_37 : decode cX9_addFill 37 = .ok (.iaload, 1) := by decide +kernel
theorem dX9_addFill_38 : decode cX9_addFill 38 = .ok (.aload_n 0, 1) := by decide +kernel
theorem dX9_addFill_39 : decode cX9_addFill 39 = .ok (.getfield 43, 3) := by decide +kernel
theorem dX9_addFill_42 : decode cX9_addFill 42 = .ok (.iconst 1, 1) := by decide +kernel
theorem dX9_addFill_43 : decode cX9_addFill 43 = .ok (.iaload, 1) := by decide +kernel
theorem dX9_addFill_44 : decode cX9_addFill 44 = .ok (.isub, 1) := by decide +kernel
theorem dX9_addFill_45 : decode cX9_addFill 45 = .ok (.putfield 125, 3) := by decide +kernel
theorem dX9_addFill_48 : decode cX9_addFill 48 = .ok (.aload_n 0, 1) := by decide +kernel
theorem dX9_addFill_49 : decode cX9_addFill 49 = .ok (.aload_n 0, 1) := by decide +kernel
theorem dX9_addFill_50 : decode cX9_addFill 50 = .ok (.getfield 43, 3) := by decide +kernel
theorem dX9_addFill_53 : decode cX9_addFill 53 = .ok (.iconst 0, 1) := by decide +kernel
theorem dX9_addFill_54 : decode cX9_addFill 54 = .ok (.iaload, 1) := by decide +kernel
theorem dX9_addFill_55 : decode cX9_addFill 55 = .ok (.aload_n 0, 1) := by decide +kernel
theorem dX9_addFill_56 : decode cX9_addFill 56 = .ok (.getfield 43, 3) := by decide +kernel
theorem dX9_addFill_59 : decode cX9_addFill 59 = .ok (.iconst 1, 1) := by decide +kernel
theorem dX9_addFill_60 : decode cX9_addFill 60 = .ok (.iaload, 1) := by decide +kernel
theorem dX9_addFill_61 : decode cX9_addFill 61 = .ok (.if_icmp .ge 7, 3) := by decide +kernel
theorem dX9_addFill_64 : decode cX9_addFill 64 = .ok (.iconst 0, 1) := by decide +kernel
theorem dX9_addFill_65 : decode cX9_addFill 65 = .ok (.goto 4, 3) := by decide +kernel
theorem dX9_addFill_68 : decode cX9_addFill 68 = .ok (.iconst 1, 1) := by decide +kernel
theorem dX9_addFill_69 : decode cX9_addFill 69 = .ok (.putfield 128, 3) := by decide +kernel
theorem dX9_addFill_72 : decode cX9_addFill 72 = .ok (.aload_n 0, 1) := by decide +kernel
theorem dX9_addFill_73 : decode cX9_addFill 73 = .ok (.iconst 0, 1) := by decide +kernel
theorem dX9_addFill_74 : decode cX9_addFill 74 = .ok (.putfield 131, 3) := by decide +kernel
theorem dX9_addFill_77 : decode cX9_addFill 77 = .ok (.iconst 0, 1) := by decide +kernel
theorem dX9_addFill_78 : decode cX9_addFill 78 = .ok (.istore_n 1, 1) := by decide +kernel
theorem dX9_addFill_79 : decode cX9_addFill 79 = .ok (.bipush 26, 2) := by decide +kernel
theorem dX9_addFill_81 : decode cX9_addFill 81 = .ok (.aload_n 0, 1) := by decide +kernel
theorem dX9_addFill_82 : decode cX9_addFill 82 = .ok (.getfield 128, 3) := by decide +kernel
theorem dX9_addFill_85 : decode cX9_addFill 85 = .ok (.imul, 1) := by decide +kernel
theorem dX9_addFill_86 : decode cX9_addFill 86 = .ok (.istore_n 2, 1) := by decide +kernel
theorem dX9_addFill_87 : decode cX9_addFill 87 = .ok (.iload_n 2, 1) := by decide +kernel
theorem dX9_addFill_88 : decode cX9_addFill 88 = .ok (.istore_n 3, 1) := by decide +kernel
theorem dX9_addFill_89 : decode cX9_addFill 89 = .ok (.iload_n 3, 1) := by decide +kernel
theorem dX9_addFill_90 : decode cX9_addFill 90 = .ok (.iload_n 2, 1) := by decide +kernel
theorem dX9_addFill_91 : decode cX9_addFill 91 = .ok (.aload_n 0, 1) := by decide +kernel
theorem dX9_addFill_92 : decode cX9_addFill 92 = .ok (.getfield 22, 3) := by decide +kernel
theorem dX9_addFill_95 : decode cX9_addFill 95 = .ok (.aload_n 0, 1) := by decide +kernel
theorem dX9_addFill_96 : decode cX9_addFill 96 = .ok (.getfield 128, 3) := by decide +kernel
theorem dX9_addFill_99 : decode cX9_addFill 99 = .ok (.iaload, 1) := by decide +kernel
theorem dX9_addFill_100 : decode cX9_addFill 100 = .ok (.iadd, 1) := by decide +kernel
theorem dX9_addFill_101 : decode cX9_addFill 101 = .ok (.if_icmp .ge 25, 3) := by decide +kernel
theorem dX9_addFill_104 : decode cX9_addFill 104 = .ok (.iload_n 1, 1) := by decide +kernel
theorem dX9_addFill_105 : decode cX9_addFill 105 = .ok (.aload_n 0, 1) := by decide +kernel
theorem dX9_addFill_106 : decode cX9_addFill 106 = .ok (.iload_n 3, 1) := by decide +kernel
theorem dX9_addFill_107 : decode cX9_addFill 107 = .ok (.invokevirtual 134, 3) := by decide +kernel
theorem dX9_addFill_110 : decode cX9_addFill 110 = .ok (.ifCond .eq 7, 3) := by decide +kernel
theorem dX9_addFill_113 : decode cX9_addFill 113 = .ok (.iconst 1, 1) := by decide +kernel
theorem dX9_addFill_114 : decode cX9_addFill 114 = .ok (.goto 4, 3) := by decide +kernel
theorem dX9_addFill_117 : decode cX9_addFill 117 = .ok (.iconst 0, 1) := by decide +kernel
theorem dX9_addFill_118 : decode cX9_addFill 118 = .ok (.iadd, 1) := by decide +kernel
theorem dX9_addFill_119 : decode cX9_addFill 119 = .ok (.istore_n 1, 1) := by decide +kernel
theorem dX9_addFill_120 : decode cX9_addFill 120 = .ok (.iinc 3 1, 3) := by decide +kernel
theorem dX9_addFill_123 : decode cX9_addFill 123 = .ok (.goto (-34), 3) := by decide +kernel
theorem dX9_addFill_126 : decode cX9_addFill 126 = .ok (.aload_n 0, 1) := by decide +kernel
theorem dX9_addFill_127 : decode cX9_addFill 127 = .ok (.getfield 125, 3) := by decide +kernel
theorem dX9_addFill_130 : decode cX9_addFill 130 = .ok (.ifCond .eq 28, 3) := by decide +kernel
theorem dX9_addFill_133 : decode cX9_addFill 133 = .ok (.iload_n 1, 1) := by decide +kernel
theorem dX9_addFill_134 : decode cX9_addFill 134 = .ok (.ifCond .eq 24, 3) := by decide +kernel
theorem dX9_addFill_137 : decode cX9_addFill 137 = .ok (.aload_n 0, 1) := by decide +kernel
theorem dX9_addFill_138 : decode cX9_addFill 138 = .ok (.getfield 125, 3) := by decide +kernel
theorem dX9_addFill_141 : decode cX9_addFill 141 = .ok (.iload_n 1, 1) := by decide +kernel
theorem dX9_addFill_142 : decode cX9_addFill 142 = .ok (.iadd, 1) := by decide +kernel
theorem dX9_addFill_143 : decode cX9_addFill 143 = .ok (.iconst 1, 1) := by decide +kernel
theorem dX9_addFill_144 : decode cX9_addFill 144 = .ok (.isub, 1) := by decide +kernel
theorem dX9_addFill_145 : decode cX9_addFill 145 = .ok (.iload_n 1, 1) := by decide +kernel
theorem dX9_addFill_146 : decode cX9_addFill 146 = .ok (.idiv, 1) := by decide +kernel
theorem dX9_addFill_147 : decode cX9_addFill 147 = .ok (.aload_n 0, 1) := by decide +kernel
theorem dX9_addFill_148 : decode cX9_addFill 148 = .ok (.getfield 7, 3) := by decide +kernel
theorem dX9_addFill_151 : decode cX9_addFill 151 = .ok (.sipush 145, 3) := by decide +kernel
theorem dX9_addFill_154 : decode cX9_addFill 154 = .ok (.iaload, 1) := by decide +kernel
theorem dX9_addFill_155 : decode cX9_addFill 155 = .ok (.if_icmp .le 4, 3) := by decide +kernel
theorem dX9_addFill_158 : decode cX9_addFill 158 = .ok (.return_, 1) := by decide +kernel
theorem dX9_addFill_159 : decode cX9_addFill 159 = .ok (.iconst 0, 1) := by decide +kernel
theorem dX9_addFill_160 : decode cX9_addFill 160 = .ok (.istore_n 3, 1) := by decide +kernel
theorem dX9_addFill_161 : decode cX9_addFill 161 = .ok (.iload_n 2, 1) := by decide +kernel
theorem dX9_addFill_162 : decode cX9_addFill 162 = .ok (.istore 4, 2) := by decide +kernel
theorem dX9_addFill_164 : decode cX9_addFill 164 = .ok (.iload 4, 2) := by decide +kernel
theorem dX9_addFill_166 : decode cX9_addFill 166 = .ok (.iload_n 2, 1) := by decide +kernel
theorem dX9_addFill_167 : decode cX9_addFill 167 = .ok (.aload_n 0, 1) := by decide +kernel
theorem dX9_addFill_168 : decode cX9_addFill 168 = .ok (.getfield 22, 3) := by decide +kernel
theorem dX9_addFill_171 : decode cX9_addFill 171 = .ok (.aload_n 0, 1) := by decide +kernel
theorem dX9_addFill_172 : decode cX9_addFill 172 = .ok (.getfield 128, 3) := by decide +kernel
theorem dX9_addFill_175 : decode cX9_addFill 175 = .ok (.iaload, 1) := by decide +kernel
theorem dX9_addFill_176 : decode cX9_addFill 176 = .ok (.iadd, 1) := by decide +kernel
theorem dX9_addFill_177 : decode cX9_addFill 177 = .ok (.if_icmp .ge 50, 3) := by decide +kernel
theorem dX9_addFill_180 : decode cX9_addFill 180 = .ok (.aload_n 0, 1) := by decide +kernel
theorem dX9_addFill_181 : decode cX9_addFill 181 = .ok (.iload 4, 2) := by decide +kernel
theorem dX9_addFill_183 : decode cX9_addFill 183 = .ok (.invokevirtual 134, 3) := by decide +kernel
theorem dX9_addFill_186 : decode cX9_addFill 186 = .ok (.ifCond .eq 35, 3) := by decide +kernel
theorem dX9_addFill_189 : decode cX9_addFill 189 = .ok (.aload_n 0, 1) := by decide +kernel
theorem dX9_addFill_190 : decode cX9_addFill 190 = .ok (.getfield 40, 3) := by decide +kernel
theorem dX9_addFill_193 : decode cX9_addFill 193 = .ok (.iload 4, 2) := by decide +kernel
theorem dX9_addFill_195 : decode cX9_addFill 195 = .ok (.aload_n 0, 1) := by decide +kernel
theorem dX9_addFill_196 : decode cX9_addFill 196 = .ok (.getfield 125, 3) := by decide +kernel
theorem dX9_addFill_199 : decode cX9_addFill 199 = .ok (.iload_n 1, 1) := by decide +kernel
theorem dX9_addFill_200 : decode cX9_addFill 200 = .ok (.idiv, 1) := by decide +kernel
theorem dX9_addFill_201 : decode cX9_addFill 201 = .ok (.iload_n 3, 1) := by decide +kernel
theorem dX9_addFill_202 : decode cX9_addFill 202 = .ok (.aload_n 0, 1) := by decide +kernel
theorem dX9_addFill_203 : decode cX9_addFill 203 = .ok (.getfield 125, 3) := by decide +kernel
theorem dX9_addFill_206 : decode cX9_addFill 206 = .ok (.iload_n 1, 1) := by decide +kernel
theorem dX9_addFill_207 : decode cX9_addFill 207 = .ok (.irem, 1) := by decide +kernel
theorem dX9_addFill_208 : decode cX9_addFill 208 = .ok (.if_icmp .ge 7, 3) := by decide +kernel
theorem dX9_addFill_211 : decode cX9_addFill 211 = .ok (.iconst 1, 1) := by decide +kernel
theorem dX9_addFill_212 : decode cX9_addFill 212 = .ok (.goto 4, 3) := by decide +kernel
theorem dX9_addFill_215 : decode cX9_addFill 215 = .ok (.iconst 0, 1) := by decide +kernel
theorem dX9_addFill_216 : decode cX9_addFill 216 = .ok (.iadd, 1) := by decide +kernel
theorem dX9_addFill_217 : decode cX9_addFill 217 = .ok (.iastore, 1) := by decide +kernel
theorem dX9_addFill_218 : decode cX9_addFill 218 = .ok (.iinc 3 1, 3) := by decide +kernel
theorem dX9_addFill_221 : decode cX9_addFill 221 = .ok (.iinc 4 1, 3) := by decide +kernel
theorem dX9_addFill_224 : decode cX9_addFill 224 = .ok (.goto (-60), 3) := by decide +kernel
theorem dX9_addFill_227 : decode cX9_addFill 227 = .ok (.aload_n 0, 1) := by decide +kernel
theorem dX9_addFill_228 : decode cX9_addFill 228 = .ok (.aload_n 0, 1) := by decide +kernel
theorem dX9_addFill_229 : decode cX9_addFill 229 = .ok (.getfield 125, 3) := by decide +kernel
theorem dX9_addFill_232 : decode cX9_addFill 232 = .ok (.putfield 131, 3) := by decide +kernel
theorem dX9_addFill_235 : decode cX9_addFill 235 = .ok (.aload_n 0, 1) := by decide +kernel
theorem dX9_addFill_236 : decode cX9_addFill 236 = .ok (.getfield 43, 3) := by decide +kernel
theorem dX9_addFill_239 : decode cX9_addFill 239 = .ok (.aload_n 0, 1) := by decide +kernel
theorem dX9_addFill_240 : decode cX9_addFill 240 = .ok (.getfield 128, 3) := by decide +kernel
theorem dX9_addFill_243 : decode cX9_addFill 243 = .ok (.dup2, 1) := by decide +kernel
theorem dX9_addFill_244 : decode cX9_addFill 244 = .ok (.iaload, 1) := by decide +kernel
theorem dX9_addFill_245 : decode cX9_addFill 245 = .ok (.aload_n 0, 1) := by decide +kernel
theorem dX9_addFill_246 : decode cX9_addFill 246 = .ok (.getfield 125, 3) := by decide +kernel
theorem dX9_addFill_249 : decode cX9_addFill 249 = .ok (.iadd, 1) := by decide +kernel
theorem dX9_addFill_250 : decode cX9_addFill 250 = .ok (.iastore, 1) := by decide +kernel
theorem dX9_addFill_251 : decode cX9_addFill 251 = .ok (.return_, 1) := by decide +kernel
set_option maxRecDepth 20000 in
theorem ggX9_lay_X9_lookAtPrinted : GoodIn wsX9_lay wsX9_lookAtPrinted := goodIn_r _ [12, 13, 14, 15, 16, 17, 18, 19, 11, 20, 21, 22, 23, 24, 25, 26, 27, 28, 29, 30, 31, 32, 33, 34, 35, 36, 37, 38, 39, 40, 41, 42, 43, 44, 45, 46, 88, 89, 90, 91, 92, 93, 94, 95, 96, 97, 98, 99, 100, 101, 102, 103, 104, 105, 106, 107, 108, 109, 110, 111, 112, 113, 114] (by decide +kernel) (by decide +kernel)
set_option maxRecDepth 20000 in
theorem gX9_lay_X9_lookAtPrinted : GoodIn wsX9_lay (wsV RX9 137 RX9 yX9_lookAtPrinted wsX9_lookAtPrinted) := goodIn_app (goodIn_of _ (by decide +kernel)) ggX9_lay_X9_lookAtPrinted
set_option maxRecDepth 20000 in
theorem ggX9_lay_X9_addCourse : GoodIn wsX9_lay wsX9_addCourse := goodIn_r _ [50, 15, 13, 16, 37, 38, 11, 39, 33, 34, 35, 36, 51, 52, 53, 54, 1, 55, 56, 7, 5, 4, 2, 3, 57, 58, 59, 60, 61, 62, 63, 64, 65, 66, 67, 68, 69, 70, 71, 88, 89, 90, 91, 92, 93, 94, 95, 96, 97, 98, 99, 100, 101, 102, 103, 104, 105, 106, 107, 108, 109, 110, 111, 112, 113, 114] (by decide +kernel) (by decide +kernel)
set_option maxRecDepth 20000 in
theorem gX9_lay_X9_addCourse : GoodIn wsX9_lay (wsV RX9 140 RX9 yX9_addCourse wsX9_addCourse) := goodIn_app (goodIn_of _ (by decide +kernel)) ggX9_lay_X9_addCourse
set_option maxRecDepth 20000 in
theorem ggX9_lay_X9_addKey : GoodIn wsX9_lay wsX9_addKey := goodIn_r _ [75, 76, 14, 2, 3, 65, 66, 11, 67, 51, 52, 53, 54, 1, 55, 56, 7, 5, 4, 88, 89, 90, 91, 92, 93, 94, 95, 96, 97, 98, 99, 100, 101, 102, 103, 104, 105, 106, 107, 108, 109, 110, 111, 112, 113, 114] (by decide +kernel) (by decide +kernel)
set_option maxRecDepth 20000 in
theorem gX9_lay_X9_addKey : GoodIn wsX9_lay (wsV RX9 144 RX9 yX9_addKey wsX9_addKey) := goodIn_app (goodIn_of _ (by decide +kernel)) ggX9_lay_X9_addKey
set_option maxRecDepth 20000 in
theorem ggX9_lay_X9_addFill : GoodIn wsX9_lay wsX9_addFill := goodIn_r _ [80, 2, 81, 82, 83, 1, 15, 4, 84, 85, 86, 11, 87, 55, 88, 89, 90, 91, 92, 93, 94, 95, 96, 97, 98, 99, 100, 101, 102, 103, 104, 105, 106, 107, 108, 109, 110, 111, 112, 113, 114] (by decide +kernel) (by decide +kernel)
set_option maxRecDepth 20000 in
theorem gX9_lay_X9_addFill : GoodIn wsX9_lay (wsV RX9 147 RX9 yX9_addFill wsX9_addFill) := goodIn_app (goodIn_of _ (by decide +kernel)) ggX9_lay_X9_addFill
theorem dX9_lay_0 : decode cX9_lay 0 = .ok (.aload_n 0, 1) := by decide +kernel
theorem dX9_lay_1 : decode cX9_lay 1 = .ok (.invokevirtual 137, 3) := by decide +kernel
theorem dX9_lay_4 : decode cX9_lay 4 = .ok (.iconst 0, 1) := by decide +kernel
theorem dX9_lay_5 : decode cX9_lay 5 = .ok (.istore_n 1, 1) := by decide +kernel
theorem dX9_lay_6 : decode cX9_lay 6 = .ok (.iload_n 1, 1) := by decide +kernel
theorem dX9_lay_7 : decode cX9_lay 7 = .ok (.iconst 2, 1) := by decide +kernel
theorem dX9_lay_8 : decode cX9_lay 8 = .ok (.if_icmp .ge 30, 3) := by decide +kernel
theorem dX9_lay_11 : decode cX9_lay 11 = .ok (.aload_n 0, 1) := by decide +kernel
theorem dX9_lay_12 : decode cX9_lay 12 = .ok (.getfield 22, 3) := by decide +kernel
theorem dX9_lay_15 : decode cX9_lay 15 = .ok (.iload_n 1, 1) := by decide +kernel
theorem dX9_lay_16 : decode cX9_lay 16 = .ok (.iconst 0, 1) := by decide +kernel
theorem dX9_lay_17 : decode cX9_lay 17 = .ok (.iastore, 1) := by decide +kernel
theorem dX9_lay_18 : decode cX9_lay 18 = .ok (.aload_n 0, 1) := by decide +kernel
theorem dX9_lay_19 : decode cX9_lay 19 = .ok (.getfield 43, 3) := by decide +kernel
theorem dX9_lay_22 : decode cX9_lay 22 = .ok (.iload_n 1, 1) := by decide +kernel
theorem dX9_lay_23 : decode cX9_lay 23 = .ok (.iconst 0, 1) := by decide +kernel
theorem dX9_lay_24 : decode cX9_lay 24 = .ok (.iastore, 1) := by decide +kernel
theorem dX9_lay_25 : decode cX9_lay 25 = .ok (.aload_n 0, 1) := by decide +kernel
theorem dX9_lay_26 : decode cX9_lay 26 = .ok (.getfield 46, 3) := by decide +kernel
theorem dX9_lay_29 : decode cX9_lay 29 = .ok (.iload_n 1, 1) := by decide +kernel
theorem dX9_lay_30 : decode cX9_lay 30 = .ok (.iconst 0, 1) := by decide +kernel
theorem dX9_lay_31 : decode cX9_lay 31 = .ok (.iastore, 1) := by decide +kernel
theorem dX9_lay_32 : decode cX9_lay 32 = .ok (.iinc 1 1, 3) := by decide +kernel
theorem dX9_lay_35 : decode cX9_lay 35 = .ok (.goto (-29), 3) := by decide +kernel
theorem dX9_lay_38 : decode cX9_lay 38 = .ok (.iconst 0, 1) := by decide +kernel
theorem dX9_lay_39 : decode cX9_lay 39 = .ok (.istore_n 1, 1) := by decide +kernel
theorem dX9_lay_40 : decode cX9_lay 40 = .ok (.iload_n 1, 1) := by decide +kernel
theorem dX9_lay_41 : decode cX9_lay 41 = .ok (.iconst 4, 1) := by decide +kernel
theorem dX9_lay_42 : decode cX9_lay 42 = .ok (.if_icmp .ge 14, 3) := by decide +kernel
theorem dX9_lay_45 : decode cX9_lay 45 = .ok (.aload_n 0, 1) := by decide +kernel
theorem dX9_lay_46 : decode cX9_lay 46 = .ok (.iload_n 1, 1) := by decide +kernel
theorem dX9_lay_47 : decode cX9_lay 47 = .ok (.invokevirtual 140, 3) := by decide +kernel
theorem dX9_lay_50 : decode cX9_lay 50 = .ok (.iinc 1 1, 3) := by decide +kernel
theorem dX9_lay_53 : decode cX9_lay 53 = .ok (.goto (-13), 3) := by decide +kernel
theorem dX9_lay_56 : decode cX9_lay 56 = .ok (.aload_n 0, 1) := by decide +kernel
theorem dX9_lay_57 : decode cX9_lay 57 = .ok (.invokevirtual 144, 3) := by decide +kernel
theorem dX9_lay_60 : decode cX9_lay 60 = .ok (.aload_n 0, 1) := by decide +kernel
theorem dX9_lay_61 : decode cX9_lay 61 = .ok (.invokevirtual 147, 3) := by decide +kernel
theorem dX9_lay_64 : decode cX9_lay 64 = .ok (.iconst 0, 1) := by decide +kernel
theorem dX9_lay_65 : decode cX9_lay 65 = .ok (.istore_n 1, 1) := by decide +kernel
theorem dX9_lay_66 : decode cX9_lay 66 = .ok (.iload_n 1, 1) := by decide +kernel
theorem dX9_lay_67 : decode cX9_lay 67 = .ok (.iconst 2, 1) := by decide +kernel
theorem dX9_lay_68 : decode cX9_lay 68 = .ok (.if_icmp .ge 69, 3) := by decide +kernel
theorem dX9_lay_71 : decode cX9_lay 71 = .ok (.iconst 0, 1) := by decide +kernel
theorem dX9_lay_72 : decode cX9_lay 72 = .ok (.istore_n 2, 1) := by decide +kernel
theorem dX9_lay_73 : decode cX9_lay 73 = .ok (.bipush 26, 2) := by decide +kernel
theorem dX9_lay_75 : decode cX9_lay 75 = .ok (.iload_n 1, 1) := by decide +kernel
theorem dX9_lay_76 : decode cX9_lay 76 = .ok (.imul, 1) := by decide +kernel
theorem dX9_lay_77 : decode cX9_lay 77 = .ok (.istore_n 3, 1) := by decide +kernel
theorem dX9_lay_78 : decode cX9_lay 78 = .ok (.iload_n 3, 1) := by decide +kernel
theorem dX9_lay_79 : decode cX9_lay 79 = .ok (.bipush 26, 2) := by decide +kernel
theorem dX9_lay_81 : decode cX9_lay 81 = .ok (.iload_n 1, 1) := by decide +kernel
theorem dX9_lay_82 : decode cX9_lay 82 = .ok (.imul, 1) := by decide +kernel
theorem dX9_lay_83 : decode cX9_lay 83 = .ok (.aload_n 0, 1) := by decide +kernel
theorem dX9_lay_84 : decode cX9_lay 84 = .ok (.getfield 22, 3) := by decide +kernel
theorem dX9_lay_87 : decode cX9_lay 87 = .ok (.iload_n 1, 1) := by decide +kernel
theorem dX9_lay_88 : decode cX9_lay 88 = .ok (.iaload, 1) := by decide +kernel
theorem dX9_lay_89 : decode cX9_lay 89 = .ok (.iadd, 1) := by decide +kernel
theorem dX9_lay_90 : decode cX9_lay 90 = .ok (.if_icmp .ge 41, 3) := by decide +kernel
theorem dX9_lay_93 : decode cX9_lay 93 = .ok (.iload_n 2, 1) := by decide +kernel
theorem dX9_lay_94 : decode cX9_lay 94 = .ok (.aload_n 0, 1) := by decide +kernel
theorem dX9_lay_95 : decode cX9_lay 95 = .ok (.getfield 40, 3) := by decide +kernel
theorem dX9_lay_98 : decode cX9_lay 98 = .ok (.iload_n 3, 1) := by decide +kernel
theorem dX9_lay_99 : decode cX9_lay 99 = .ok (.iaload, 1) := by decide +kernel
theorem dX9_lay_100 : decode cX9_lay 100 = .ok (.aload_n 0, 1) := by decide +kernel
theorem dX9_lay_101 : decode cX9_lay 101 = .ok (.getfield 37, 3) := by decide +kernel
theorem dX9_lay_104 : decode cX9_lay 104 = .ok (.iload_n 3, 1) := by decide +kernel
theorem dX9_lay_105 : decode cX9_lay 105 = .ok (.iaload, 1) := by decide +kernel
theorem dX9_lay_106 : decode cX9_lay 106 = .ok (.iadd, 1) := by decide +kernel
theorem dX9_lay_107 : decode cX9_lay 107 = .ok (.iadd, 1) := by decide +kernel
theorem dX9_lay_108 : decode cX9_lay 108 = .ok (.istore_n 2, 1) := by decide +kernel
theorem dX9_lay_109 : decode cX9_lay 109 = .ok (.aload_n 0, 1) := by decide +kernel
theorem dX9_lay_110 : decode cX9_lay 110 = .ok (.getfield 34, 3) := by decide +kernel
theorem dX9_lay_113 : decode cX9_lay 113 = .ok (.iload_n 3, 1) := by decide +kernel
theorem dX9_lay_114 : decode cX9_lay 114 = .ok (.iload_n 2, 1) := by decide +kernel
theorem dX9_lay_115 : decode cX9_lay 115 = .ok (.iastore, 1) := by decide +kernel
theorem dX9_lay_116 : decode cX9_lay 116 = .ok (.iload_n 2, 1) := by decide +kernel
theorem dX9_lay_117 : decode cX9_lay 117 = .ok (.aload_n 0, 1) := by decide +kernel
theorem dX9_lay_118 : decode cX9_lay 118 = .ok (.getfield 31, 3) := by decide +kernel
theorem dX9_lay_121 : decode cX9_lay 121 = .ok (.iload_n 3, 1) := by decide +kernel
theorem dX9_lay_122 : decode cX9_lay 122 = .ok (.iaload, 1) := by decide +kernel
theorem dX9_lay_123 : decode cX9_lay 123 = .ok (.iadd, 1) := by decide +kernel
theorem dX9_lay_124 : decode cX9_lay 124 = .ok (.istore_n 2, 1) := by decide +kernel
theorem dX9_lay_125 : decode cX9_lay 125 = .ok (.iinc 3 1, 3) := by decide +kernel
theorem dX9_lay_128 : decode cX9_lay 128 = .ok (.goto (-50), 3) := by decide +kernel
theorem dX9_lay_131 : decode cX9_lay 131 = .ok (.iinc 1 1, 3) := by decide +kernel
theorem dX9_lay_134 : decode cX9_lay 134 = .ok (.goto (-68), 3) := by decide +kernel
theorem dX9_lay_137 : decode cX9_lay 137 = .ok (.return_, 1) := by decide +kernel
theorem dX9_isEven_0 : decode cX9_isEven 0 = .ok (.aload_n 0, 1) := by decide +kernel
theorem dX9_isEven_1 : decode cX9_isEven 1 = .ok (.getfield 43, 3) := by decide +kernel
theorem dX9_isEven_4 : decode cX9_isEven 4 = .ok (.iconst 0, 1) := by decide +kernel
theorem dX9_isEven_5 : decode cX9_isEven 5 = .ok (.iaload, 1) := by decide +kernel
theorem dX9_isEven_6 : decode cX9_isEven 6 = .ok (.aload_n 0, 1) := by decide +kernel
theorem dX9_isEven_7 : decode cX9_isEven 7 = .ok (.getfield 43, 3) := by decide +kernel
theorem dX9_isEven_10 : decode cX9_isEven 10 = .ok (.iconst 1, 1) := by decide +kernel
theorem dX9_isEven_11 : decode cX9_isEven 11 = .ok (.iaload, 1) := by decide +kernel
theorem dX9_isEven_12 : decode cX9_isEven 12 = .ok (.if_icmp .ne 7, 3) := by decide +kernel
theorem dX9_isEven_15 : decode cX9_isEven 15 = .ok (.iconst 1, 1) := by decide +kernel
theorem dX9_isEven_16 : decode cX9_isEven 16 = .ok (.goto 4, 3) := by decide +kernel
theorem dX9_isEven_19 : decode cX9_isEven 19 = .ok (.iconst 0, 1) := by decide +kernel
theorem dX9_isEven_20 : decode cX9_isEven 20 = .ok (.ireturn, 1) := by decide +kernel
theorem dX9_longer_0 : decode cX9_longer 0 = .ok (.aload_n 0, 1) := by decide +kernel
theorem dX9_longer_1 : decode cX9_longer 1 = .ok (.getfield 43, 3) := by decide +kernel
theorem dX9_longer_4 : decode cX9_longer 4 = .ok (.iconst 0, 1) := by decide +kernel
theorem dX9_longer_5 : decode cX9_longer 5 = .ok (.iaload, 1) := by decide +kernel
theorem dX9_longer_6 : decode cX9_longer 6 = .ok (.aload_n 0, 1) := by decide +kernel
theorem dX9_longer_7 : decode cX9_longer 7 = .ok (.getfield 43, 3) := by decide +kernel
theorem dX9_longer_10 : decode cX9_longer 10 = .ok (.iconst 1, 1) := by decide +kernel
theorem dX9_longer_11 : decode cX9_longer 11 = .ok (.iaload, 1) := by decide +kernel
theorem dX9_longer_12 : decode cX9_longer 12 = .ok (.if_icmp .le 12, 3) := by decide +kernel
theorem dX9_longer_15 : decode cX9_longer 15 = .ok (.aload_n 0, 1) := by decide +kernel
theorem dX9_longer_16 : decode cX9_longer 16 = .ok (.getfield 43, 3) := by decide +kernel
theorem dX9_longer_19 : decode cX9_longer 19 = .ok (.iconst 0, 1) := by decide +kernel
theorem dX9_longer_20 : decode cX9_longer 20 = .ok (.iaload, 1) := by decide +kernel
theorem dX9_longer_21 : decode cX9_longer 21 = .ok (.goto 9, 3) := by decide +kernel
theorem dX9_longer_24 : decode cX9_longer 24 = .ok (.aload_n 0, 1) := by decide +kernel
theorem dX9_longer_25 : decode cX9_longer 25 = .ok (.getfield 43, 3) := by decide +kernel
theorem dX9_longer_28 : decode cX9_longer 28 = .ok (.iconst 1, 1) := by decide +kernel
theorem dX9_longer_29 : decode cX9_longer 29 = .ok (.iaload, 1) := by decide +kernel
theorem dX9_longer_30 : decode cX9_longer 30 = .ok (.ireturn, 1) := by decide +kernel
theorem dX9_heavier_0 : decode cX9_heavier 0 = .ok (.aload_n 0, 1) := by decide +kernel
theorem dX9_heavier_1 : decode cX9_heavier 1 = .ok (.getfield 46, 3) := by decide +kernel
theorem dX9_heavier_4 : decode cX9_heavier 4 = .ok (.iconst 0, 1) := by decide +kernel
theorem dX9_heavier_5 : decode cX9_heavier 5 = .ok (.iaload, 1) := by decide +kernel
theorem dX9_heavier_6 : decode cX9_heavier 6 = .ok (.aload_n 0, 1) := by decide +kernel
theorem dX9_heavier_7 : decode cX9_heavier 7 = .ok (.getfield 46, 3) := by decide +kernel
theorem dX9_heavier_10 : decode cX9_heavier 10 = .ok (.iconst 1, 1) := by decide +kernel
theorem dX9_heavier_11 : decode cX9_heavier 11 = .ok (.iaload, 1) := by decide +kernel
theorem dX9_heavier_12 : decode cX9_heavier 12 = .ok (.if_icmp .le 19, 3) := by decide +kernel
theorem dX9_heavier_15 : decode cX9_heavier 15 = .ok (.aload_n 0, 1) := by decide +kernel
theorem dX9_heavier_16 : decode cX9_heavier 16 = .ok (.getfield 46, 3) := by decide +kernel
theorem dX9_heavier_19 : decode cX9_heavier 19 = .ok (.iconst 0, 1) := by decide +kernel
theorem dX9_heavier_20 : decode cX9_heavier 20 = .ok (.iaload, 1) := by decide +kernel
theorem dX9_heavier_21 : decode cX9_heavier 21 = .ok (.aload_n 0, 1) := by decide +kernel
theorem dX9_heavier_22 : decode cX9_heavier 22 = .ok (.getfield 46, 3) := by decide +kernel
theorem dX9_heavier_25 : decode cX9_heavier 25 = .ok (.iconst 1, 1) := by decide +kernel
theorem dX9_heavier_26 : decode cX9_heavier 26 = .ok (.iaload, 1) := by decide +kernel
theorem dX9_heavier_27 : decode cX9_heavier 27 = .ok (.isub, 1) := by decide +kernel
theorem dX9_heavier_28 : decode cX9_heavier 28 = .ok (.goto 16, 3) := by decide +kernel
theorem dX9_heavier_31 : decode cX9_heavier 31 = .ok (.aload_n 0, 1) := by decide +kernel
theorem dX9_heavier_32 : decode cX9_heavier 32 = .ok (.getfield 46, 3) := by decide +kernel
theorem dX9_heavier_35 : decode cX9_heavier 35 = .ok (.iconst 1, 1) := by decide +kernel
theorem dX9_heavier_36 : decode cX9_heavier 36 = .ok (.iaload, 1) := by decide +kernel
theorem dX9_heavier_37 : decode cX9_heavier 37 = .ok (.aload_n 0, 1) := by decide +kernel
theorem dX9_heavier_38 : decode cX9_heavier 38 = .ok (.getfield 46, 3) := by decide +kernel
theorem dX9_heavier_41 : decode cX9_heavier 41 = .ok (.iconst 0, 1) := by decide +kernel
theorem dX9_heavier_42 : decode cX9_heavier 42 = .ok (.iaload, 1) := by decide +kernel
theorem dX9_heavier_43 : decode cX9_heavier 43 = .ok (.isub, 1) := by decide +kernel
theorem dX9_heavier_44 : decode cX9_heavier 44 = .ok (.ireturn, 1) := by decide +kernel
set_option maxRecDepth 20000 in
theorem ggX9_isIn_X9_in : GoodIn wsX9_isIn wsX9_in := goodIn_r _ [4] (by decide +kernel) (by decide +kernel)
set_option maxRecDepth 20000 in
theorem gX9_isIn_X9_in : GoodIn wsX9_isIn (va_wsS RX9 64 yX9_in wsX9_in) := goodIn_app (goodIn_of _ (by decide +kernel)) ggX9_isIn_X9_in
theorem dX9_isIn_0 : decode cX9_isIn 0 = .ok (.iload_n 0, 1) := by decide +kernel
theorem dX9_isIn_1 : decode cX9_isIn 1 = .ok (.tableswitch 87 0 5 #[39, 46, 54, 63, 71, 80], 39) := by decide +kernel
theorem dX9_isIn_40 : decode cX9_isIn 40 = .ok (.iload_n 1, 1) := by decide +kernel
theorem dX9_isIn_41 : decode cX9_isIn 41 = .ok (.iconst 0, 1) := by decide +kernel
theorem dX9_isIn_42 : decode cX9_isIn 42 = .ok (.iconst 3, 1) := by decide +kernel
theorem dX9_isIn_43 : decode cX9_isIn 43 = .ok (.invokestatic 64, 3) := by decide +kernel
theorem dX9_isIn_46 : decode cX9_isIn 46 = .ok (.ireturn, 1) := by decide +kernel
theorem dX9_isIn_47 : decode cX9_isIn 47 = .ok (.iload_n 1, 1) := by decide +kernel
theorem dX9_isIn_48 : decode cX9_isIn 48 = .ok (.iconst 1, 1) := by decide +kernel
theorem dX9_isIn_49 : decode cX9_isIn 49 = .ok (.bipush 99, 2) := by decide +kernel
theorem dX9_isIn_51 : decode cX9_isIn 51 = .ok (.invokestatic 64, 3) := by decide +kernel
theorem dX9_isIn_54 : decode cX9_isIn 54 = .ok (.ireturn, 1) := by decide +kernel
theorem dX9_isIn_55 : decode cX9_isIn 55 = .ok (.iload_n 1, 1) := by decide +kernel
theorem dX9_isIn_56 : decode cX9_isIn 56 = .ok (.iconst 1, 1) := by decide +kernel
theorem dX9_isIn_57 : decode cX9_isIn 57 = .ok (.sipush 9999, 3) := by decide +kernel
theorem dX9_isIn_60 : decode cX9_isIn 60 = .ok (.invokestatic 64, 3) := by decide +kernel
theorem dX9_isIn_63 : decode cX9_isIn 63 = .ok (.ireturn, 1) := by decide +kernel
theorem dX9_isIn_64 : decode cX9_isIn 64 = .ok (.iload_n 1, 1) := by decide +kernel
theorem dX9_isIn_65 : decode cX9_isIn 65 = .ok (.iconst 1, 1) := by decide +kernel
theorem dX9_isIn_66 : decode cX9_isIn 66 = .ok (.bipush 15, 2) := by decide +kernel
theorem dX9_isIn_68 : decode cX9_isIn 68 = .ok (.invokestatic 64, 3) := by decide +kernel
theorem dX9_isIn_71 : decode cX9_isIn 71 = .ok (.ireturn, 1) := by decide +kernel
theorem dX9_isIn_72 : decode cX9_isIn 72 = .ok (.iload_n 1, 1) := by decide +kernel
theorem dX9_isIn_73 : decode cX9_isIn 73 = .ok (.iconst 0, 1) := by decide +kernel
theorem dX9_isIn_74 : decode cX9_isIn 74 = .ok (.sipush 255, 3) := by decide +kernel
theorem dX9_isIn_77 : decode cX9_isIn 77 = .ok (.invokestatic 64, 3) := by decide +kernel
theorem dX9_isIn_80 : decode cX9_isIn 80 = .ok (.ireturn, 1) := by decide +kernel
theorem dX9_isIn_81 : decode cX9_isIn 81 = .ok (.iload_n 1, 1) := by decide +kernel
theorem dX9_isIn_82 : decode cX9_isIn 82 = .ok (.iconst 1, 1) := by decide +kernel
theorem dX9_isIn_83 : decode cX9_isIn 83 = .ok (.iconst 5, 1) := by decide +kernel
theorem dX9_isIn_84 : decode cX9_isIn 84 = .ok (.invokestatic 64, 3) := by decide +kernel
theorem dX9_isIn_87 : decode cX9_isIn 87 = .ok (.ireturn, 1) := by decide +kernel
theorem dX9_isIn_88 : decode cX9_isIn 88 = .ok (.iload_n 0, 1) := by decide +kernel
theorem dX9_isIn_89 : decode cX9_isIn 89 = .ok (.bipush 6, 2) := by decide +kernel
theorem dX9_isIn_91 : decode cX9_isIn 91 = .ok (.if_icmp .ne 16, 3) := by decide +kernel
theorem dX9_isIn_94 : decode cX9_isIn 94 = .ok (.iload_n 1, 1) := by decide +kernel
theorem dX9_isIn_95 : decode cX9_isIn 95 = .ok (.iconst 0, 1) := by decide +kernel
theorem dX9_isIn_96 : decode cX9_isIn 96 = .ok (.iconst 1, 1) := by decide +kernel
theorem dX9_isIn_97 : decode cX9_isIn 97 = .ok (.invokestatic 64, 3) := by decide +kernel
theorem dX9_isIn_100 : decode cX9_isIn 100 = .ok (.ifCond .eq 7, 3) := by decide +kernel
theorem dX9_isIn_103 : decode cX9_isIn 103 = .ok (.iconst 1, 1) := by decide +kernel
theorem dX9_isIn_104 : decode cX9_isIn 104 = .ok (.goto 4, 3) := by decide +kernel
theorem dX9_isIn_107 : decode cX9_isIn 107 = .ok (.iconst 0, 1) := by decide +kernel
theorem dX9_isIn_108 : decode cX9_isIn 108 = .ok (.ireturn, 1) := by decide +kernel
theorem dX9_adds_0 : decode cX9_adds 0 = .ok (.iconst 1, 1) := by decide +kernel
theorem dX9_adds_1 : decode cX9_adds 1 = .ok (.bipush 7, 2) := by decide +kernel
theorem dX9_adds_3 : decode cX9_adds 3 = .ok (.aload_n 0, 1) := by decide +kernel
theorem dX9_adds_4 : decode cX9_adds 4 = .ok (.iconst 0, 1) := by decide +kernel
theorem dX9_adds_5 : decode cX9_adds 5 = .ok (.iaload, 1) := by decide +kernel
theorem dX9_adds_6 : decode cX9_adds 6 = .ok (.imul, 1) := by decide +kernel
theorem dX9_adds_7 : decode cX9_adds 7 = .ok (.iadd, 1) := by decide +kernel
theorem dX9_adds_8 : decode cX9_adds 8 = .ok (.istore 7, 2) := by decide +kernel
theorem dX9_adds_10 : decode cX9_adds 10 = .ok (.aload_n 0, 1) := by decide +kernel
theorem dX9_adds_11 : decode cX9_adds 11 = .ok (.iload 7, 2) := by decide +kernel
theorem dX9_adds_13 : decode cX9_adds 13 = .ok (.iconst 0, 1) := by decide +kernel
theorem dX9_adds_14 : decode cX9_adds 14 = .ok (.iadd, 1) := by decide +kernel
theorem dX9_adds_15 : decode cX9_adds 15 = .ok (.iload_n 1, 1) := by decide +kernel
theorem dX9_adds_16 : decode cX9_adds 16 = .ok (.iastore, 1) := by decide +kernel
theorem dX9_adds_17 : decode cX9_adds 17 = .ok (.aload_n 0, 1) := by decide +kernel
theorem dX9_adds_18 : decode cX9_adds 18 = .ok (.iload 7, 2) := by decide +kernel
theorem dX9_adds_20 : decode cX9_adds 20 = .ok (.iconst 1, 1) := by decide +kernel
theorem dX9_adds_21 : decode cX9_adds 21 = .ok (.iadd, 1) := by decide +kernel
theorem dX9_adds_22 : decode cX9_adds 22 = .ok (.iload_n 2, 1) := by decide +kernel
theorem dX9_adds_23 : decode cX9_adds 23 = .ok (.iastore, 1) := by decide +kernel
theorem dX9_adds_24 : decode cX9_adds 24 = .ok (.aload_n 0, 1) := by decide +kernel
theorem dX9_adds_25 : decode cX9_adds 25 = .ok (.iload 7, 2) := by decide +kernel
theorem dX9_adds_27 : decode cX9_adds 27 = .ok (.iconst 2, 1) := by decide +kernel
theorem dX9_adds_28 : decode cX9_adds 28 = .ok (.iadd, 1) := by decide +kernel
theorem dX9_adds_29 : decode cX9_adds 29 = .ok (.iload_n 3, 1) := by decide +kernel
theorem dX9_adds_30 : decode cX9_adds 30 = .ok (.iastore, 1) := by decide +kernel
theorem dX9_adds_31 : decode cX9_adds 31 = .ok (.aload_n 0, 1) := by decide +kernel
theorem dX9_adds_32 : decode cX9_adds 32 = .ok (.iload 7, 2) := by decide +kernel
theorem dX9_adds_34 : decode cX9_adds 34 = .ok (.iconst 3, 1) := by decide +kernel
theorem dX9_adds_35 : decode cX9_adds 35 = .ok (.iadd, 1) := by decide +kernel
theorem dX9_adds_36 : decode cX9_adds 36 = .ok (.iload 4, 2) := by decide +kernel
theorem dX9_adds_38 : decode cX9_adds 38 = .ok (.iastore, 1) := by decide +kernel
theorem dX9_adds_39 : decode cX9_adds 39 = .ok (.aload_n 0, 1) := by decide +kernel
theorem dX9_adds_40 : decode cX9_adds 40 = .ok (.iload 7, 2) := by decide +kernel
theorem dX9_adds_42 : decode cX9_adds 42 = .ok (.iconst 4, 1) := by decide +kernel
theorem dX9_adds_43 : decode cX9_adds 43 = .ok (.iadd, 1) := by decide +kernel
theorem dX9_adds_44 : decode cX9_adds 44 = .ok (.iload 5, 2) := by decide +kernel
theorem dX9_adds_46 : decode cX9_adds 46 = .ok (.iastore, 1) := by decide +kernel
theorem dX9_adds_47 : decode cX9_adds 47 = .ok (.aload_n 0, 1) := by decide +kernel
theorem dX9_adds_48 : decode cX9_adds 48 = .ok (.iload 7, 2) := by decide +kernel
theorem dX9_adds_50 : decode cX9_adds 50 = .ok (.iconst 5, 1) := by decide +kernel
theorem dX9_adds_51 : decode cX9_adds 51 = .ok (.iadd, 1) := by decide +kernel
theorem dX9_adds_52 : decode cX9_adds 52 = .ok (.iload 6, 2) := by decide +kernel
theorem dX9_adds_54 : decode cX9_adds 54 = .ok (.iastore, 1) := by decide +kernel
theorem dX9_adds_55 : decode cX9_adds 55 = .ok (.aload_n 0, 1) := by decide +kernel
theorem dX9_adds_56 : decode cX9_adds 56 = .ok (.iload 7, 2) := by decide +kernel
theorem dX9_adds_58 : decode cX9_adds 58 = .ok (.bipush 6, 2) := by decide +kernel
theorem dX9_adds_60 : decode cX9_adds 60 = .ok (.iadd, 1) := by decide +kernel
theorem dX9_adds_61 : decode cX9_adds 61 = .ok (.iconst 1, 1) := by decide +kernel
theorem dX9_adds_62 : decode cX9_adds 62 = .ok (.iastore, 1) := by decide +kernel
theorem dX9_adds_63 : decode cX9_adds 63 = .ok (.aload_n 0, 1) := by decide +kernel
theorem dX9_adds_64 : decode cX9_adds 64 = .ok (.iconst 0, 1) := by decide +kernel
theorem dX9_adds_65 : decode cX9_adds 65 = .ok (.dup2, 1) := by decide +kernel
theorem dX9_adds_66 : decode cX9_adds 66 = .ok (.iaload, 1) := by decide +kernel
theorem dX9_adds_67 : decode cX9_adds 67 = .ok (.iconst 1, 1) := by decide +kernel
theorem dX9_adds_68 : decode cX9_adds 68 = .ok (.iadd, 1) := by decide +kernel
theorem dX9_adds_69 : decode cX9_adds 69 = .ok (.iastore, 1) := by decide +kernel
theorem dX9_adds_70 : decode cX9_adds 70 = .ok (.return_, 1) := by decide +kernel
set_option maxRecDepth 20000 in
theorem ggX9_addDish_X9_isIn : GoodIn wsX9_addDish wsX9_isIn := goodIn_r _ [5, 6, 7, 4, 8] (by decide +kernel) (by decide +kernel)
set_option maxRecDepth 20000 in
theorem gX9_addDish_X9_isIn : GoodIn wsX9_addDish (va_wsS RX9 150 yX9_isIn wsX9_isIn) := goodIn_app (goodIn_of _ (by decide +kernel)) ggX9_addDish_X9_isIn
set_option maxRecDepth 20000 in
theorem ggX9_addDish_X9_keep : GoodIn wsX9_addDish wsX9_keep := goodIn_r _ [12, 13, 14, 1, 15, 16, 4, 17, 21, 22, 23, 24, 25, 26, 27, 28, 29, 30, 31, 32, 33, 34, 35, 36, 37, 38, 39, 40, 41, 42, 43, 44, 45, 46, 47] (by decide +kernel) (by decide +kernel)
set_option maxRecDepth 20000 in
theorem gX9_addDish_X9_keep : GoodIn wsX9_addDish (wsV RX9 153 RX9 yX9_keep wsX9_keep) := goodIn_app (goodIn_of _ (by decide +kernel)) ggX9_addDish_X9_keep
set_option maxRecDepth 20000 in
theorem ggX9_addDish_X9_adds : GoodIn wsX9_addDish wsX9_adds := goodIn_r _ [20] (by decide +kernel) (by decide +kernel)
set_option maxRecDepth 20000 in
theorem gX9_addDish_X9_adds : GoodIn wsX9_addDish (va_wsS RX9 156 yX9_adds wsX9_adds) := goodIn_app (goodIn_of _ (by decide +kernel)) ggX9_addDish_X9_adds
theorem dX9_addDish_0 : decode cX9_addDish 0 = .ok (.iconst 0, 1) := by decide +kernel
theorem dX9_addDish_1 : decode cX9_addDish 1 = .ok (.iload_n 1, 1) := by decide +kernel
theorem dX9_addDish_2 : decode cX9_addDish 2 = .ok (.invokestatic 150, 3) := by decide +kernel
theorem dX9_addDish_5 : decode cX9_addDish 5 = .ok (.ifCond .eq 50, 3) := by decide +kernel
theorem dX9_addDish_8 : decode cX9_addDish 8 = .ok (.iconst 1, 1) := by decide +kernel
theorem dX9_addDish_9 : decode cX9_addDish 9 = .ok (.iload_n 2, 1) := by decide +kernel
theorem dX9_addDish_10 : decode cX9_addDish 10 = .ok (.invokestatic 150, 3) := by decide +kernel
theorem dX9_addDish_13 : decode cX9_addDish 13 = .ok (.ifCond .eq 42, 3) := by decide +kernel
theorem dX9_addDish_16 : decode cX9_addDish 16 = .ok (.iconst 2, 1) := by decide +kernel
theorem dX9_addDish_17 : decode cX9_addDish 17 = .ok (.iload_n 3, 1) := by decide +kernel
theorem dX9_addDish_18 : decode cX9_addDish 18 = .ok (.invokestatic 150, 3) := by decide +kernel
theorem dX9_addDish_21 : decode cX9_addDish 21 = .ok (.ifCond .eq 34, 3) := by decide +kernel
theorem dX9_addDish_24 : decode cX9_addDish 24 = .ok (.iconst 3, 1) := by decide +kernel
theorem dX9_addDish_25 : decode cX9_addDish 25 = .ok (.iload 4, 2) := by decide +kernel
theorem dX9_addDish_27 : decode cX9_addDish 27 = .ok (.invokestatic 150, 3) := by decide +kernel
theorem dX9_addDish_30 : decode cX9_addDish 30 = .ok (.ifCond .eq 25, 3) := by decide +kernel
theorem dX9_addDish_33 : decode cX9_addDish 33 = .ok (.iconst 4, 1) := by decide +kernel
theorem dX9_addDish_34 : decode cX9_addDish 34 = .ok (.iload 5, 2) := by decide +kernel
theorem dX9_addDish_36 : decode cX9_addDish 36 = .ok (.invokestatic 150, 3) := by decide +kernel
theorem dX9_addDish_39 : decode cX9_addDish 39 = .ok (.ifCond .eq 16, 3) := by decide +kernel
theorem dX9_addDish_42 : decode cX9_addDish 42 = .ok (.iconst 5, 1) := by decide +kernel
theorem dX9_addDish_43 : decode cX9_addDish 43 = .ok (.iload 6, 2) := by decide +kernel
theorem dX9_addDish_45 : decode cX9_addDish 45 = .ok (.invokestatic 150, 3) := by decide +kernel
theorem dX9_addDish_48 : decode cX9_addDish 48 = .ok (.ifCond .eq 7, 3) := by decide +kernel
theorem dX9_addDish_51 : decode cX9_addDish 51 = .ok (.iconst 1, 1) := by decide +kernel
theorem dX9_addDish_52 : decode cX9_addDish 52 = .ok (.goto 4, 3) := by decide +kernel
theorem dX9_addDish_55 : decode cX9_addDish 55 = .ok (.iconst 0, 1) := by decide +kernel
theorem dX9_addDish_56 : decode cX9_addDish 56 = .ok (.istore 7, 2) := by decide +kernel
theorem dX9_addDish_58 : decode cX9_addDish 58 = .ok (.iload 7, 2) := by decide +kernel
theorem dX9_addDish_60 : decode cX9_addDish 60 = .ok (.ifCond .ne 5, 3) := by decide +kernel
theorem dX9_addDish_63 : decode cX9_addDish 63 = .ok (.iconst (-1), 1) := by decide +kernel
theorem dX9_addDish_64 : decode cX9_addDish 64 = .ok (.ireturn, 1) := by decide +kernel
theorem dX9_addDish_65 : decode cX9_addDish 65 = .ok (.aload_n 0, 1) := by decide +kernel
theorem dX9_addDish_66 : decode cX9_addDish 66 = .ok (.getfield 7, 3) := by decide +kernel
theorem dX9_addDish_69 : decode cX9_addDish 69 = .ok (.iconst 0, 1) := by decide +kernel
theorem dX9_addDish_70 : decode cX9_addDish 70 = .ok (.iaload, 1) := by decide +kernel
theorem dX9_addDish_71 : decode cX9_addDish 71 = .ok (.bipush 20, 2) := by decide +kernel
theorem dX9_addDish_73 : decode cX9_addDish 73 = .ok (.if_icmp .ne 6, 3) := by decide +kernel
theorem dX9_addDish_76 : decode cX9_addDish 76 = .ok (.bipush (-3), 2) := by decide +kernel
theorem dX9_addDish_78 : decode cX9_addDish 78 = .ok (.ireturn, 1) := by decide +kernel
theorem dX9_addDish_79 : decode cX9_addDish 79 = .ok (.aload_n 0, 1) := by decide +kernel
theorem dX9_addDish_80 : decode cX9_addDish 80 = .ok (.invokevirtual 153, 3) := by decide +kernel
theorem dX9_addDish_83 : decode cX9_addDish 83 = .ok (.aload_n 0, 1) := by decide +kernel
theorem dX9_addDish_84 : decode cX9_addDish 84 = .ok (.getfield 7, 3) := by decide +kernel
theorem dX9_addDish_87 : decode cX9_addDish 87 = .ok (.iload_n 1, 1) := by decide +kernel
theorem dX9_addDish_88 : decode cX9_addDish 88 = .ok (.iload_n 2, 1) := by decide +kernel
theorem dX9_addDish_89 : decode cX9_addDish 89 = .ok (.iload_n 3, 1) := by decide +kernel
theorem dX9_addDish_90 : decode cX9_addDish 90 = .ok (.iload 4, 2) := by decide +kernel
theorem dX9_addDish_92 : decode cX9_addDish 92 = .ok (.iload 5, 2) := by decide +kernel
theorem dX9_addDish_94 : decode cX9_addDish 94 = .ok (.iload 6, 2) := by decide +kernel
theorem dX9_addDish_96 : decode cX9_addDish 96 = .ok (.invokestatic 156, 3) := by decide +kernel
theorem dX9_addDish_99 : decode cX9_addDish 99 = .ok (.aload_n 0, 1) := by decide +kernel
theorem dX9_addDish_100 : decode cX9_addDish 100 = .ok (.getfield 7, 3) := by decide +kernel
theorem dX9_addDish_103 : decode cX9_addDish 103 = .ok (.iconst 0, 1) := by decide +kernel
theorem dX9_addDish_104 : decode cX9_addDish 104 = .ok (.iaload, 1) := by decide +kernel
theorem dX9_addDish_105 : decode cX9_addDish 105 = .ok (.iconst 1, 1) := by decide +kernel
theorem dX9_addDish_106 : decode cX9_addDish 106 = .ok (.isub, 1) := by decide +kernel
theorem dX9_addDish_107 : decode cX9_addDish 107 = .ok (.ireturn, 1) := by decide +kernel
set_option maxRecDepth 20000 in
theorem ggX9_removeDish_X9_isDish : GoodIn wsX9_removeDish wsX9_isDish := goodIn_r _ [6, 1, 7, 8, 5, 9, 19, 20, 21, 22, 23, 24, 25, 26, 27, 28, 29, 30, 31, 32, 33, 34, 35, 36, 37, 38, 39, 40, 41, 42, 43, 44, 45] (by decide +kernel) (by decide +kernel)
set_option maxRecDepth 20000 in
theorem gX9_removeDish_X9_isDish : GoodIn wsX9_removeDish (wsV RX9 160 RX9 yX9_isDish wsX9_isDish) := goodIn_app (goodIn_of _ (by decide +kernel)) ggX9_removeDish_X9_isDish
set_option maxRecDepth 20000 in
theorem ggX9_removeDish_X9_keep : GoodIn wsX9_removeDish wsX9_keep := goodIn_r _ [13, 14, 15, 1, 16, 17, 5, 18, 19, 20, 21, 22, 23, 24, 25, 26, 27, 28, 29, 30, 31, 32, 33, 34, 35, 36, 37, 38, 39, 40, 41, 42, 43, 44, 45] (by decide +kernel) (by decide +kernel)
set_option maxRecDepth 20000 in
theorem gX9_removeDish_X9_keep : GoodIn wsX9_removeDish (wsV RX9 153 RX9 yX9_keep wsX9_keep) := goodIn_app (goodIn_of _ (by decide +kernel)) ggX9_removeDish_X9_keep
theorem dX9_removeDish_0 : decode cX9_removeDish 0 = .ok (.aload_n 0, 1) := by decide +kernel
theorem dX9_removeDish_1 : decode cX9_removeDish 1 = .ok (.iload_n 1, 1) := by decide +kernel
theorem dX9_removeDish_2 : decode cX9_removeDish 2 = .ok (.invokevirtual 160, 3) := by decide +kernel
theorem dX9_removeDish_5 : decode cX9_removeDish 5 = .ok (.ifCond .ne 5, 3) := by decide +kernel
theorem dX9_removeDish_8 : decode cX9_removeDish 8 = .ok (.iconst (-1), 1) := by decide +kernel
theorem dX9_removeDish_9 : decode cX9_removeDish 9 = .ok (.ireturn, 1) := by decide +kernel
theorem dX9_removeDish_10 : decode cX9_removeDish 10 = .ok (.aload_n 0, 1) := by decide +kernel
theorem dX9_removeDish_11 : decode cX9_removeDish 11 = .ok (.invokevirtual 153, 3) := by decide +kernel
theorem dX9_removeDish_14 : decode cX9_removeDish 14 = .ok (.aload_n 0, 1) := by decide +kernel
theorem dX9_removeDish_15 : decode cX9_removeDish 15 = .ok (.getfield 7, 3) := by decide +kernel
theorem dX9_removeDish_18 : decode cX9_removeDish 18 = .ok (.iconst 0, 1) := by decide +kernel
theorem dX9_removeDish_19 : decode cX9_removeDish 19 = .ok (.dup2, 1) := by decide +kernel
theorem dX9_removeDish_20 : decode cX9_removeDish 20 = .ok (.iaload, 1) := by decide +kernel
theorem dX9_removeDish_21 : decode cX9_removeDish 21 = .ok (.iconst 1, 1) := by decide +kernel
theorem dX9_removeDish_22 : decode cX9_removeDish 22 = .ok (.isub, 1) := by decide +kernel
theorem dX9_removeDish_23 : decode cX9_removeDish 23 = .ok (.iastore, 1) := by decide +kernel
theorem dX9_removeDish_24 : decode cX9_removeDish 24 = .ok (.iconst 1, 1) := by decide +kernel
theorem dX9_removeDish_25 : decode cX9_removeDish 25 = .ok (.bipush 7, 2) := by decide +kernel
theorem dX9_removeDish_27 : decode cX9_removeDish 27 = .ok (.iload_n 1, 1) := by decide +kernel
theorem dX9_removeDish_28 : decode cX9_removeDish 28 = .ok (.imul, 1) := by decide +kernel
theorem dX9_removeDish_29 : decode cX9_removeDish 29 = .ok (.iadd, 1) := by decide +kernel
theorem dX9_removeDish_30 : decode cX9_removeDish 30 = .ok (.istore_n 2, 1) := by decide +kernel
theorem dX9_removeDish_31 : decode cX9_removeDish 31 = .ok (.iload_n 2, 1) := by decide +kernel
theorem dX9_removeDish_32 : decode cX9_removeDish 32 = .ok (.iconst 1, 1) := by decide +kernel
theorem dX9_removeDish_33 : decode cX9_removeDish 33 = .ok (.bipush 7, 2) := by decide +kernel
theorem dX9_removeDish_35 : decode cX9_removeDish 35 = .ok (.aload_n 0, 1) := by decide +kernel
theorem dX9_removeDish_36 : decode cX9_removeDish 36 = .ok (.getfield 7, 3) := by decide +kernel
theorem dX9_removeDish_39 : decode cX9_removeDish 39 = .ok (.iconst 0, 1) := by decide +kernel
theorem dX9_removeDish_40 : decode cX9_removeDish 40 = .ok (.iaload, 1) := by decide +kernel
theorem dX9_removeDish_41 : decode cX9_removeDish 41 = .ok (.imul, 1) := by decide +kernel
theorem dX9_removeDish_42 : decode cX9_removeDish 42 = .ok (.iadd, 1) := by decide +kernel
theorem dX9_removeDish_43 : decode cX9_removeDish 43 = .ok (.if_icmp .ge 24, 3) := by decide +kernel
theorem dX9_removeDish_46 : decode cX9_removeDish 46 = .ok (.aload_n 0, 1) := by decide +kernel
theorem dX9_removeDish_47 : decode cX9_removeDish 47 = .ok (.getfield 7, 3) := by decide +kernel
theorem dX9_removeDish_50 : decode cX9_removeDish 50 = .ok (.iload_n 2, 1) := by decide +kernel
theorem dX9_removeDish_51 : decode cX9_removeDish 51 = .ok (.aload_n 0, 1) := by decide +kernel
theorem dX9_removeDish_52 : decode cX9_removeDish 52 = .ok (.getfield 7, 3) := by decide +kernel
theorem dX9_removeDish_55 : decode cX9_removeDish 55 = .ok (.iload_n 2, 1) := by decide +kernel
theorem dX9_removeDish_56 : decode cX9_removeDish 56 = .ok (.bipush 7, 2) := by decide +kernel
theorem dX9_removeDish_58 : decode cX9_removeDish 58 = .ok (.iadd, 1) := by decide +kernel
theorem dX9_removeDish_59 : decode cX9_removeDish 59 = .ok (.iaload, 1) := by decide +kernel
theorem dX9_removeDish_60 : decode cX9_removeDish 60 = .ok (.iastore, 1) := by decide +kernel
theorem dX9_removeDish_61 : decode cX9_removeDish 61 = .ok (.iinc 2 1, 3) := by decide +kernel
theorem dX9_removeDish_64 : decode cX9_removeDish 64 = .ok (.goto (-33), 3) := by decide +kernel
theorem dX9_removeDish_67 : decode cX9_removeDish 67 = .ok (.aload_n 0, 1) := by decide +kernel
theorem dX9_removeDish_68 : decode cX9_removeDish 68 = .ok (.getfield 7, 3) := by decide +kernel
theorem dX9_removeDish_71 : decode cX9_removeDish 71 = .ok (.iconst 0, 1) := by decide +kernel
theorem dX9_removeDish_72 : decode cX9_removeDish 72 = .ok (.iaload, 1) := by decide +kernel
theorem dX9_removeDish_73 : decode cX9_removeDish 73 = .ok (.ireturn, 1) := by decide +kernel
set_option maxRecDepth 20000 in
theorem ggX9_setDish_X9_isDish : GoodIn wsX9_setDish wsX9_isDish := goodIn_r _ [6, 1, 7, 8, 5, 9, 26, 27, 28, 29, 30, 31, 32, 33, 34, 35, 36, 37, 38, 39, 40, 41, 42, 43, 44, 45, 46, 47, 48, 49, 50, 51, 52] (by decide +kernel) (by decide +kernel)
set_option maxRecDepth 20000 in
theorem gX9_setDish_X9_isDish : GoodIn wsX9_setDish (wsV RX9 160 RX9 yX9_isDish wsX9_isDish) := goodIn_app (goodIn_of _ (by decide +kernel)) ggX9_setDish_X9_isDish
set_option maxRecDepth 20000 in
theorem ggX9_setDish_X9_isIn : GoodIn wsX9_setDish wsX9_isIn := goodIn_r _ [12, 7, 8, 5, 9] (by decide +kernel) (by decide +kernel)
set_option maxRecDepth 20000 in
theorem gX9_setDish_X9_isIn : GoodIn wsX9_setDish (va_wsS RX9 150 yX9_isIn wsX9_isIn) := goodIn_app (goodIn_of _ (by decide +kernel)) ggX9_setDish_X9_isIn
set_option maxRecDepth 20000 in
theorem ggX9_setDish_X9_keep : GoodIn wsX9_setDish wsX9_keep := goodIn_r _ [16, 17, 18, 1, 19, 20, 5, 21, 26, 27, 28, 29, 30, 31, 32, 33, 34, 35, 36, 37, 38, 39, 40, 41, 42, 43, 44, 45, 46, 47, 48, 49, 50, 51, 52] (by decide +kernel) (by decide +kernel)
set_option maxRecDepth 20000 in
theorem gX9_setDish_X9_keep : GoodIn wsX9_setDish (wsV RX9 153 RX9 yX9_keep wsX9_keep) := goodIn_app (goodIn_of _ (by decide +kernel)) ggX9_setDish_X9_keep
set_option maxRecDepth 20000 in
theorem ggX9_setDish_X9_of : GoodIn wsX9_setDish wsX9_of := goodIn_r _ [25, 1, 26, 27, 28, 29, 30, 31, 32, 33, 34, 35, 36, 37, 38, 39, 40, 41, 42, 43, 44, 45, 46, 47, 48, 49, 50, 51, 52] (by decide +kernel) (by decide +kernel)
set_option maxRecDepth 20000 in
theorem gX9_setDish_X9_of : GoodIn wsX9_setDish (wsV RX9 68 RX9 yX9_of wsX9_of) := goodIn_app (goodIn_of _ (by decide +kernel)) ggX9_setDish_X9_of
theorem dX9_setDish_0 : decode cX9_setDish 0 = .ok (.aload_n 0, 1) := by decide +kernel
theorem dX9_setDish_1 : decode cX9_setDish 1 = .ok (.iload_n 1, 1) := by decide +kernel
theorem dX9_setDish_2 : decode cX9_setDish 2 = .ok (.invokevirtual 160, 3) := by decide +kernel
theorem dX9_setDish_5 : decode cX9_setDish 5 = .ok (.ifCond .eq 11, 3) := by decide +kernel
theorem dX9_setDish_8 : decode cX9_setDish 8 = .ok (.iload_n 2, 1) := by decide +kernel
theorem dX9_setDish_9 : decode cX9_setDish 9 = .ok (.iload_n 3, 1) := by decide +kernel
theorem dX9_setDish_10 : decode cX9_setDish 10 = .ok (.invokestatic 150, 3) := by decide +kernel
theorem dX9_setDish_13 : decode cX9_setDish 13 = .ok (.ifCond .ne 5, 3) := by decide +kernel
theorem dX9_setDish_16 : decode cX9_setDish 16 = .ok (.iconst (-1), 1) := by decide +kernel
theorem dX9_setDish_17 : decode cX9_setDish 17 = .ok (.ireturn, 1) := by decide +kernel
theorem dX9_setDish_18 : decode cX9_setDish 18 = .ok (.aload_n 0, 1) := by decide +kernel
theorem dX9_setDish_19 : decode cX9_setDish 19 = .ok (.invokevirtual 153, 3) := by decide +kernel
theorem dX9_setDish_22 : decode cX9_setDish 22 = .ok (.aload_n 0, 1) := by decide +kernel
theorem dX9_setDish_23 : decode cX9_setDish 23 = .ok (.iload_n 1, 1) := by decide +kernel
theorem dX9_setDish_24 : decode cX9_setDish 24 = .ok (.iload_n 2, 1) := by decide +kernel
theorem dX9_setDish_25 : decode cX9_setDish 25 = .ok (.invokevirtual 68, 3) := by decide +kernel
theorem dX9_setDish_28 : decode cX9_setDish 28 = .ok (.istore 4, 2) := by decide +kernel
theorem dX9_setDish_30 : decode cX9_setDish 30 = .ok (.aload_n 0, 1) := by decide +kernel
theorem dX9_setDish_31 : decode cX9_setDish 31 = .ok (.getfield 7, 3) := by decide +kernel
theorem dX9_setDish_34 : decode cX9_setDish 34 = .ok (.iconst 1, 1) := by decide +kernel
theorem dX9_setDish_35 : decode cX9_setDish 35 = .ok (.bipush 7, 2) := by decide +kernel
theorem dX9_setDish_37 : decode cX9_setDish 37 = .ok (.iload_n 1, 1) := by decide +kernel
theorem dX9_setDish_38 : decode cX9_setDish 38 = .ok (.imul, 1) := by decide +kernel
theorem dX9_setDish_39 : decode cX9_setDish 39 = .ok (.iadd, 1) := by decide +kernel
theorem dX9_setDish_40 : decode cX9_setDish 40 = .ok (.iload_n 2, 1) := by decide +kernel
theorem dX9_setDish_41 : decode cX9_setDish 41 = .ok (.iadd, 1) := by decide +kernel
theorem dX9_setDish_42 : decode cX9_setDish 42 = .ok (.iload_n 3, 1) := by decide +kernel
theorem dX9_setDish_43 : decode cX9_setDish 43 = .ok (.iastore, 1) := by decide +kernel
theorem dX9_setDish_44 : decode cX9_setDish 44 = .ok (.iload 4, 2) := by decide +kernel
theorem dX9_setDish_46 : decode cX9_setDish 46 = .ok (.ireturn, 1) := by decide +kernel
set_option maxRecDepth 20000 in
theorem ggX9_isOnCard_X9_in : GoodIn wsX9_isOnCard wsX9_in := goodIn_r _ [4] (by decide +kernel) (by decide +kernel)
set_option maxRecDepth 20000 in
theorem gX9_isOnCard_X9_in : GoodIn wsX9_isOnCard (va_wsS RX9 64 yX9_in wsX9_in) := goodIn_app (goodIn_of _ (by decide +kernel)) ggX9_isOnCard_X9_in
theorem dX9_isOnCard_0 : decode cX9_isOnCard 0 = .ok (.iload_n 0, 1) := by decide +kernel
theorem dX9_isOnCard_1 : decode cX9_isOnCard 1 = .ok (.tableswitch 73 0 4 #[35, 42, 51, 59, 66], 35) := by decide +kernel
theorem dX9_isOnCard_36 : decode cX9_isOnCard 36 = .ok (.iload_n 1, 1) := by decide +kernel
theorem dX9_isOnCard_37 : decode cX9_isOnCard 37 = .ok (.iconst 0, 1) := by decide +kernel
theorem dX9_isOnCard_38 : decode cX9_isOnCard 38 = .ok (.iconst 3, 1) := by decide +kernel
theorem dX9_isOnCard_39 : decode cX9_isOnCard 39 = .ok (.invokestatic 64, 3) := by decide +kernel
theorem dX9_isOnCard_42 : decode cX9_isOnCard 42 = .ok (.ireturn, 1) := by decide +kernel
theorem dX9_isOnCard_43 : decode cX9_isOnCard 43 = .ok (.iload_n 1, 1) := by decide +kernel
theorem dX9_isOnCard_44 : decode cX9_isOnCard 44 = .ok (.bipush 20, 2) := by decide +kernel
theorem dX9_isOnCard_46 : decode cX9_isOnCard 46 = .ok (.bipush 60, 2) := by decide +kernel
theorem dX9_isOnCard_48 : decode cX9_isOnCard 48 = .ok (.invokestatic 64, 3) := by decide +kernel
theorem dX9_isOnCard_51 : decode cX9_isOnCard 51 = .ok (.ireturn, 1) := by decide +kernel
theorem dX9_isOnCard_52 : decode cX9_isOnCard 52 = .ok (.iload_n 1, 1) := by decide +kernel
theorem dX9_isOnCard_53 : decode cX9_isOnCard 53 = .ok (.iconst 1, 1) := by decide +kernel
theorem dX9_isOnCard_54 : decode cX9_isOnCard 54 = .ok (.bipush 9, 2) := by decide +kernel
theorem dX9_isOnCard_56 : decode cX9_isOnCard 56 = .ok (.invokestatic 64, 3) := by decide +kernel
theorem dX9_isOnCard_59 : decode cX9_isOnCard 59 = .ok (.ireturn, 1) := by decide +kernel
theorem dX9_isOnCard_60 : decode cX9_isOnCard 60 = .ok (.iload_n 1, 1) := by decide +kernel
theorem dX9_isOnCard_61 : decode cX9_isOnCard 61 = .ok (.iconst 0, 1) := by decide +kernel
theorem dX9_isOnCard_62 : decode cX9_isOnCard 62 = .ok (.iconst 2, 1) := by decide +kernel
theorem dX9_isOnCard_63 : decode cX9_isOnCard 63 = .ok (.invokestatic 64, 3) := by decide +kernel
theorem dX9_isOnCard_66 : decode cX9_isOnCard 66 = .ok (.ireturn, 1) := by decide +kernel
theorem dX9_isOnCard_67 : decode cX9_isOnCard 67 = .ok (.iload_n 1, 1) := by decide +kernel
theorem dX9_isOnCard_68 : decode cX9_isOnCard 68 = .ok (.iconst 0, 1) := by decide +kernel
theorem dX9_isOnCard_69 : decode cX9_isOnCard 69 = .ok (.iconst 3, 1) := by decide +kernel
theorem dX9_isOnCard_70 : decode cX9_isOnCard 70 = .ok (.invokestatic 64, 3) := by decide +kernel
theorem dX9_isOnCard_73 : decode cX9_isOnCard 73 = .ok (.ireturn, 1) := by decide +kernel
theorem dX9_isOnCard_74 : decode cX9_isOnCard 74 = .ok (.iload_n 0, 1) := by decide +kernel
theorem dX9_isOnCard_75 : decode cX9_isOnCard 75 = .ok (.iconst 5, 1) := by decide +kernel
theorem dX9_isOnCard_76 : decode cX9_isOnCard 76 = .ok (.if_icmp .ne 18, 3) := by decide +kernel
theorem dX9_isOnCard_79 : decode cX9_isOnCard 79 = .ok (.iload_n 1, 1) := by decide +kernel
theorem dX9_isOnCard_80 : decode cX9_isOnCard 80 = .ok (.iconst 0, 1) := by decide +kernel
theorem dX9_isOnCard_81 : decode cX9_isOnCard 81 = .ok (.sipush 255, 3) := by decide +kernel
theorem dX9_isOnCard_84 : decode cX9_isOnCard 84 = .ok (.invokestatic 64, 3) := by decide +kernel
theorem dX9_isOnCard_87 : decode cX9_isOnCard 87 = .ok (.ifCond .eq 7, 3) := by decide +kernel
theorem dX9_isOnCard_90 : decode cX9_isOnCard 90 = .ok (.iconst 1, 1) := by decide +kernel
theorem dX9_isOnCard_91 : decode cX9_isOnCard 91 = .ok (.goto 4, 3) := by decide +kernel
theorem dX9_isOnCard_94 : decode cX9_isOnCard 94 = .ok (.iconst 0, 1) := by decide +kernel
theorem dX9_isOnCard_95 : decode cX9_isOnCard 95 = .ok (.ireturn, 1) := by decide +kernel
set_option maxRecDepth 20000 in
theorem ggX9_setCard_X9_isOnCard : GoodIn wsX9_setCard wsX9_isOnCard := goodIn_r _ [5, 6, 7, 4, 8] (by decide +kernel) (by decide +kernel)
set_option maxRecDepth 20000 in
theorem gX9_setCard_X9_isOnCard : GoodIn wsX9_setCard (va_wsS RX9 163 yX9_isOnCard wsX9_isOnCard) := goodIn_app (goodIn_of _ (by decide +kernel)) ggX9_setCard_X9_isOnCard
set_option maxRecDepth 20000 in
theorem ggX9_setCard_X9_keep : GoodIn wsX9_setCard wsX9_keep := goodIn_r _ [12, 13, 14, 1, 15, 16, 4, 17, 18, 19, 20, 21, 22, 23, 24, 25, 26, 27, 28, 29, 30, 31, 32, 33, 34, 35, 36, 37, 38, 39, 40, 41, 42, 43, 44] (by decide +kernel) (by decide +kernel)
set_option maxRecDepth 20000 in
theorem gX9_setCard_X9_keep : GoodIn wsX9_setCard (wsV RX9 153 RX9 yX9_keep wsX9_keep) := goodIn_app (goodIn_of _ (by decide +kernel)) ggX9_setCard_X9_keep
theorem dX9_setCard_0 : decode cX9_setCard 0 = .ok (.iload_n 1, 1) := by decide +kernel
theorem dX9_setCard_1 : decode cX9_setCard 1 = .ok (.iload_n 2, 1) := by decide +kernel
theorem dX9_setCard_2 : decode cX9_setCard 2 = .ok (.invokestatic 163, 3) := by decide +kernel
theorem dX9_setCard_5 : decode cX9_setCard 5 = .ok (.ifCond .ne 5, 3) := by decide +kernel
theorem dX9_setCard_8 : decode cX9_setCard 8 = .ok (.iconst (-1), 1) := by decide +kernel
theorem dX9_setCard_9 : decode cX9_setCard 9 = .ok (.ireturn, 1) := by decide +kernel
theorem dX9_setCard_10 : decode cX9_setCard 10 = .ok (.aload_n 0, 1) := by decide +kernel
theorem dX9_setCard_11 : decode cX9_setCard 11 = .ok (.invokevirtual 153, 3) := by decide +kernel
theorem dX9_setCard_14 : decode cX9_setCard 14 = .ok (.aload_n 0, 1) := by decide +kernel
theorem dX9_setCard_15 : decode cX9_setCard 15 = .ok (.getfield 7, 3) := by decide +kernel
theorem dX9_setCard_18 : decode cX9_setCard 18 = .ok (.sipush 141, 3) := by decide +kernel
theorem dX9_setCard_21 : decode cX9_setCard 21 = .ok (.iload_n 1, 1) := by decide +kernel
theorem dX9_setCard_22 : decode cX9_setCard 22 = .ok (.iadd, 1) := by decide +kernel
theorem dX9_setCard_23 : decode cX9_setCard 23 = .ok (.iaload, 1) := by decide +kernel
theorem dX9_setCard_24 : decode cX9_setCard 24 = .ok (.istore_n 3, 1) := by decide +kernel
theorem dX9_setCard_25 : decode cX9_setCard 25 = .ok (.aload_n 0, 1) := by decide +kernel
theorem dX9_setCard_26 : decode cX9_setCard 26 = .ok (.getfield 7, 3) := by decide +kernel
theorem dX9_setCard_29 : decode cX9_setCard 29 = .ok (.sipush 141, 3) := by decide +kernel
theorem dX9_setCard_32 : decode cX9_setCard 32 = .ok (.iload_n 1, 1) := by decide +kernel
theorem dX9_setCard_33 : decode cX9_setCard 33 = .ok (.iadd, 1) := by decide +kernel
theorem dX9_setCard_34 : decode cX9_setCard 34 = .ok (.iload_n 2, 1) := by decide +kernel
theorem dX9_setCard_35 : decode cX9_setCard 35 = .ok (.iastore, 1) := by decide +kernel
theorem dX9_setCard_36 : decode cX9_setCard 36 = .ok (.iload_n 3, 1) := by decide +kernel
theorem dX9_setCard_37 : decode cX9_setCard 37 = .ok (.ireturn, 1) := by decide +kernel
set_option maxRecDepth 20000 in
theorem ggX9_setSide_X9_in : GoodIn wsX9_setSide wsX9_in := goodIn_r _ [5] (by decide +kernel) (by decide +kernel)
set_option maxRecDepth 20000 in
theorem gX9_setSide_X9_in : GoodIn wsX9_setSide (va_wsS RX9 64 yX9_in wsX9_in) := goodIn_app (goodIn_of _ (by decide +kernel)) ggX9_setSide_X9_in
set_option maxRecDepth 20000 in
theorem ggX9_setSide_X9_keep : GoodIn wsX9_setSide wsX9_keep := goodIn_r _ [9, 10, 11, 1, 12, 13, 4, 14, 15, 16, 17, 18, 19, 20, 21, 22, 23, 24, 25, 26, 27, 28, 29, 30, 31, 32, 33, 34, 35, 36, 37, 38, 39, 40, 41] (by decide +kernel) (by decide +kernel)
set_option maxRecDepth 20000 in
theorem gX9_setSide_X9_keep : GoodIn wsX9_setSide (wsV RX9 153 RX9 yX9_keep wsX9_keep) := goodIn_app (goodIn_of _ (by decide +kernel)) ggX9_setSide_X9_keep
theorem dX9_setSide_0 : decode cX9_setSide 0 = .ok (.iload_n 1, 1) := by decide +kernel
theorem dX9_setSide_1 : decode cX9_setSide 1 = .ok (.iconst 0, 1) := by decide +kernel
theorem dX9_setSide_2 : decode cX9_setSide 2 = .ok (.iconst 3, 1) := by decide +kernel
theorem dX9_setSide_3 : decode cX9_setSide 3 = .ok (.invokestatic 64, 3) := by decide +kernel
theorem dX9_setSide_6 : decode cX9_setSide 6 = .ok (.ifCond .eq 12, 3) := by decide +kernel
theorem dX9_setSide_9 : decode cX9_setSide 9 = .ok (.iload_n 2, 1) := by decide +kernel
theorem dX9_setSide_10 : decode cX9_setSide 10 = .ok (.iconst 0, 1) := by decide +kernel
theorem dX9_setSide_11 : decode cX9_setSide 11 = .ok (.iconst 1, 1) := by decide +kernel
theorem dX9_setSide_12 : decode cX9_setSide 12 = .ok (.invokestatic 64, 3) := by decide +kernel
theorem dX9_setSide_15 : decode cX9_setSide 15 = .ok (.ifCond .ne 5, 3) := by decide +kernel
theorem dX9_setSide_18 : decode cX9_setSide 18 = .ok (.iconst (-1), 1) := by decide +kernel
theorem dX9_setSide_19 : decode cX9_setSide 19 = .ok (.ireturn, 1) := by decide +kernel
theorem dX9_setSide_20 : decode cX9_setSide 20 = .ok (.aload_n 0, 1) := by decide +kernel
theorem dX9_setSide_21 : decode cX9_setSide 21 = .ok (.invokevirtual 153, 3) := by decide +kernel
theorem dX9_setSide_24 : decode cX9_setSide 24 = .ok (.aload_n 0, 1) := by decide +kernel
theorem dX9_setSide_25 : decode cX9_setSide 25 = .ok (.getfield 7, 3) := by decide +kernel
theorem dX9_setSide_28 : decode cX9_setSide 28 = .ok (.sipush 147, 3) := by decide +kernel
theorem dX9_setSide_31 : decode cX9_setSide 31 = .ok (.iload_n 1, 1) := by decide +kernel
theorem dX9_setSide_32 : decode cX9_setSide 32 = .ok (.iadd, 1) := by decide +kernel
theorem dX9_setSide_33 : decode cX9_setSide 33 = .ok (.iaload, 1) := by decide +kernel
theorem dX9_setSide_34 : decode cX9_setSide 34 = .ok (.istore_n 3, 1) := by decide +kernel
theorem dX9_setSide_35 : decode cX9_setSide 35 = .ok (.aload_n 0, 1) := by decide +kernel
theorem dX9_setSide_36 : decode cX9_setSide 36 = .ok (.getfield 7, 3) := by decide +kernel
theorem dX9_setSide_39 : decode cX9_setSide 39 = .ok (.sipush 147, 3) := by decide +kernel
theorem dX9_setSide_42 : decode cX9_setSide 42 = .ok (.iload_n 1, 1) := by decide +kernel
theorem dX9_setSide_43 : decode cX9_setSide 43 = .ok (.iadd, 1) := by decide +kernel
theorem dX9_setSide_44 : decode cX9_setSide 44 = .ok (.iload_n 2, 1) := by decide +kernel
theorem dX9_setSide_45 : decode cX9_setSide 45 = .ok (.iastore, 1) := by decide +kernel
theorem dX9_setSide_46 : decode cX9_setSide 46 = .ok (.iload_n 3, 1) := by decide +kernel
theorem dX9_setSide_47 : decode cX9_setSide 47 = .ok (.ireturn, 1) := by decide +kernel
theorem dX9_putSides_0 : decode cX9_putSides 0 = .ok (.iconst 0, 1) := by decide +kernel
theorem dX9_putSides_1 : decode cX9_putSides 1 = .ok (.istore_n 2, 1) := by decide +kernel
theorem dX9_putSides_2 : decode cX9_putSides 2 = .ok (.iload_n 2, 1) := by decide +kernel
theorem dX9_putSides_3 : decode cX9_putSides 3 = .ok (.iconst 4, 1) := by decide +kernel
theorem dX9_putSides_4 : decode cX9_putSides 4 = .ok (.if_icmp .ge 24, 3) := by decide +kernel
theorem dX9_putSides_7 : decode cX9_putSides 7 = .ok (.aload_n 0, 1) := by decide +kernel
theorem dX9_putSides_8 : decode cX9_putSides 8 = .ok (.getfield 7, 3) := by decide +kernel
theorem dX9_putSides_11 : decode cX9_putSides 11 = .ok (.sipush 147, 3) := by decide +kernel
theorem dX9_putSides_14 : decode cX9_putSides 14 = .ok (.iload_n 2, 1) := by decide +kernel
theorem dX9_putSides_15 : decode cX9_putSides 15 = .ok (.iadd, 1) := by decide +kernel
theorem dX9_putSides_16 : decode cX9_putSides 16 = .ok (.iload_n 1, 1) := by decide +kernel
theorem dX9_putSides_17 : decode cX9_putSides 17 = .ok (.iload_n 2, 1) := by decide +kernel
theorem dX9_putSides_18 : decode cX9_putSides 18 = .ok (.ishr, 1) := by decide +kernel
theorem dX9_putSides_19 : decode cX9_putSides 19 = .ok (.iconst 1, 1) := by decide +kernel
theorem dX9_putSides_20 : decode cX9_putSides 20 = .ok (.iand, 1) := by decide +kernel
theorem dX9_putSides_21 : decode cX9_putSides 21 = .ok (.iastore, 1) := by decide +kernel
theorem dX9_putSides_22 : decode cX9_putSides 22 = .ok (.iinc 2 1, 3) := by decide +kernel
theorem dX9_putSides_25 : decode cX9_putSides 25 = .ok (.goto (-23), 3) := by decide +kernel
theorem dX9_putSides_28 : decode cX9_putSides 28 = .ok (.return_, 1) := by decide +kernel
theorem dX9_wayNow_0 : decode cX9_wayNow 0 = .ok (.aload_n 0, 1) := by decide +kernel
theorem dX9_wayNow_1 : decode cX9_wayNow 1 = .ok (.getfield 7, 3) := by decide +kernel
theorem dX9_wayNow_4 : decode cX9_wayNow 4 = .ok (.sipush 147, 3) := by decide +kernel
theorem dX9_wayNow_7 : decode cX9_wayNow 7 = .ok (.iaload, 1) := by decide +kernel
theorem dX9_wayNow_8 : decode cX9_wayNow 8 = .ok (.iconst 2, 1) := by decide +kernel
theorem dX9_wayNow_9 : decode cX9_wayNow 9 = .ok (.aload_n 0, 1) := by decide +kernel
theorem dX9_wayNow_10 : decode cX9_wayNow 10 = .ok (.getfield 7, 3) := by decide +kernel
theorem dX9_wayNow_13 : decode cX9_wayNow 13 = .ok (.sipush 148, 3) := by decide +kernel
theorem dX9_wayNow_16 : decode cX9_wayNow 16 = .ok (.iaload, 1) := by decide +kernel
theorem dX9_wayNow_17 : decode cX9_wayNow 17 = .ok (.imul, 1) := by decide +kernel
theorem dX9_wayNow_18 : decode cX9_wayNow 18 = .ok (.iadd, 1) := by decide +kernel
theorem dX9_wayNow_19 : decode cX9_wayNow 19 = .ok (.iconst 4, 1) := by decide +kernel
theorem dX9_wayNow_20 : decode cX9_wayNow 20 = .ok (.aload_n 0, 1) := by decide +kernel
theorem dX9_wayNow_21 : decode cX9_wayNow 21 = .ok (.getfield 7, 3) := by decide +kernel
theorem dX9_wayNow_24 : decode cX9_wayNow 24 = .ok (.sipush 149, 3) := by decide +kernel
theorem dX9_wayNow_27 : decode cX9_wayNow 27 = .ok (.iaload, 1) := by decide +kernel
theorem dX9_wayNow_28 : decode cX9_wayNow 28 = .ok (.imul, 1) := by decide +kernel
theorem dX9_wayNow_29 : decode cX9_wayNow 29 = .ok (.iadd, 1) := by decide +kernel
theorem dX9_wayNow_30 : decode cX9_wayNow 30 = .ok (.bipush 8, 2) := by decide +kernel
theorem dX9_wayNow_32 : decode cX9_wayNow 32 = .ok (.aload_n 0, 1) := by decide +kernel
theorem dX9_wayNow_33 : decode cX9_wayNow 33 = .ok (.getfield 7, 3) := by decide +kernel
theorem dX9_wayNow_36 : decode cX9_wayNow 36 = .ok (.sipush 150, 3) := by decide +kernel
theorem dX9_wayNow_39 : decode cX9_wayNow 39 = .ok (.iaload, 1) := by decide +kernel
theorem dX9_wayNow_40 : decode cX9_wayNow 40 = .ok (.imul, 1) := by decide +kernel
theorem dX9_wayNow_41 : decode cX9_wayNow 41 = .ok (.iadd, 1) := by decide +kernel
theorem dX9_wayNow_42 : decode cX9_wayNow 42 = .ok (.ireturn, 1) := by decide +kernel
set_option maxRecDepth 20000 in
theorem ggX9_rating_X9_isEven : GoodIn wsX9_rating wsX9_isEven := goodIn_r _ [6, 7, 17, 18, 19, 20, 21, 22, 23, 24, 25, 26, 27, 28, 29, 30, 31, 32, 33, 34, 35, 36, 37, 38, 39, 40, 41, 42, 43] (by decide +kernel) (by decide +kernel)
set_option maxRecDepth 20000 in
theorem gX9_rating_X9_isEven : GoodIn wsX9_rating (wsV RX9 166 RX9 yX9_isEven wsX9_isEven) := goodIn_app (goodIn_of _ (by decide +kernel)) ggX9_rating_X9_isEven
set_option maxRecDepth 20000 in
theorem ggX9_rating_X9_heavier : GoodIn wsX9_rating wsX9_heavier := goodIn_r _ [11, 12, 17, 18, 19, 20, 21, 22, 23, 24, 25, 26, 27, 28, 29, 30, 31, 32, 33, 34, 35, 36, 37, 38, 39, 40, 41, 42, 43] (by decide +kernel) (by decide +kernel)
set_option maxRecDepth 20000 in
theorem gX9_rating_X9_heavier : GoodIn wsX9_rating (wsV RX9 171 RX9 yX9_heavier wsX9_heavier) := goodIn_app (goodIn_of _ (by decide +kernel)) ggX9_rating_X9_heavier
set_option maxRecDepth 20000 in
theorem ggX9_rating_X9_longer : GoodIn wsX9_rating wsX9_longer := goodIn_r _ [16, 7, 17, 18, 19, 20, 21, 22, 23, 24, 25, 26, 27, 28, 29, 30, 31, 32, 33, 34, 35, 36, 37, 38, 39, 40, 41, 42, 43] (by decide +kernel) (by decide +kernel)
set_option maxRecDepth 20000 in
theorem gX9_rating_X9_longer : GoodIn wsX9_rating (wsV RX9 174 RX9 yX9_longer wsX9_longer) := goodIn_app (goodIn_of _ (by decide +kernel)) ggX9_rating_X9_longer
theorem dX9_rating_0 : decode cX9_rating 0 = .ok (.aload_n 0, 1) := by decide +kernel
theorem dX9_rating_1 : decode cX9_rating 1 = .ok (.invokevirtual 166, 3) := by decide +kernel
theorem dX9_rating_4 : decode cX9_rating 4 = .ok (.ifCond .eq 7, 3) := by decide +kernel
theorem dX9_rating_7 : decode cX9_rating 7 = .ok (.iconst 0, 1) := by decide +kernel
theorem dX9_rating_8 : decode cX9_rating 8 = .ok (.goto 5, 3) := by decide +kernel
theorem dX9_rating_11 : decode cX9_rating 11 = .ok (.ldc 170, 2) := by decide +kernel
theorem dX9_rating_13 : decode cX9_rating 13 = .ok (.sipush 10000, 3) := by decide +kernel
theorem dX9_rating_16 : decode cX9_rating 16 = .ok (.aload_n 0, 1) := by decide +kernel
theorem dX9_rating_17 : decode cX9_rating 17 = .ok (.invokevirtual 171, 3) := by decide +kernel
theorem dX9_rating_20 : decode cX9_rating 20 = .ok (.imul, 1) := by decide +kernel
theorem dX9_rating_21 : decode cX9_rating 21 = .ok (.iadd, 1) := by decide +kernel
theorem dX9_rating_22 : decode cX9_rating 22 = .ok (.aload_n 0, 1) := by decide +kernel
theorem dX9_rating_23 : decode cX9_rating 23 = .ok (.invokevirtual 174, 3) := by decide +kernel
theorem dX9_rating_26 : decode cX9_rating 26 = .ok (.iadd, 1) := by decide +kernel
theorem dX9_rating_27 : decode cX9_rating 27 = .ok (.ireturn, 1) := by decide +kernel
set_option maxRecDepth 20000 in
theorem ggX9_bestWay_X9_wayNow : GoodIn wsX9_bestWay wsX9_wayNow := goodIn_r _ [5, 6, 117, 118, 119, 120, 121, 122, 123, 124, 125, 126, 127, 128, 129, 130, 131, 132, 133, 134, 135, 136, 137, 138, 139, 140, 141, 142, 143] (by decide +kernel) (by decide +kernel)
set_option maxRecDepth 20000 in
theorem gX9_bestWay_X9_wayNow : GoodIn wsX9_bestWay (wsV RX9 177 RX9 yX9_wayNow wsX9_wayNow) := goodIn_app (goodIn_of _ (by decide +kernel)) ggX9_bestWay_X9_wayNow
set_option maxRecDepth 20000 in
theorem ggX9_bestWay_X9_putSides : GoodIn wsX9_bestWay wsX9_putSides := goodIn_r _ [10, 6, 117, 118, 119, 120, 121, 122, 123, 124, 125, 126, 127, 128, 129, 130, 131, 132, 133, 134, 135, 136, 137, 138, 139, 140, 141, 142, 143] (by decide +kernel) (by decide +kernel)
set_option maxRecDepth 20000 in
theorem gX9_bestWay_X9_putSides : GoodIn wsX9_bestWay (wsV RX9 180 RX9 yX9_putSides wsX9_putSides) := goodIn_app (goodIn_of _ (by decide +kernel)) ggX9_bestWay_X9_putSides
set_option maxRecDepth 20000 in
theorem ggX9_bestWay_X9_lay : GoodIn wsX9_bestWay wsX9_lay := goodIn_r _ [14, 15, 16, 17, 18, 19, 20, 21, 22, 23, 24, 4, 25, 26, 27, 6, 28, 29, 30, 31, 32, 33, 34, 35, 36, 37, 38, 39, 40, 41, 42, 43, 44, 45, 46, 47, 48, 49, 50, 51, 52, 53, 54, 55, 56, 57, 58, 59, 60, 61, 62, 63, 64, 65, 66, 67, 68, 69, 70, 71, 72, 73, 74, 75, 76, 77, 78, 79, 80, 81, 82, 83, 84, 85, 86, 87, 88, 89, 90, 91, 92, 93, 94, 95, 96, 97, 98, 99, 117, 118, 119, 120, 121, 122, 123, 124, 125, 126, 127, 128, 129, 130, 131, 132, 133, 134, 135, 136, 137, 138, 139, 140, 141, 142, 143] (by decide +kernel) (by decide +kernel)
set_option maxRecDepth 20000 in
theorem gX9_bestWay_X9_lay : GoodIn wsX9_bestWay (wsV RX9 183 RX9 yX9_lay wsX9_lay) := goodIn_app (goodIn_of _ (by decide +kernel)) ggX9_bestWay_X9_lay
set_option maxRecDepth 20000 in
theorem ggX9_bestWay_X9_rating : GoodIn wsX9_bestWay wsX9_rating := goodIn_r _ [103, 104, 105, 106, 107, 4, 108, 16, 109, 110, 111, 112, 17, 113, 114, 115, 116, 117, 118, 119, 120, 121, 122, 123, 124, 125, 126, 127, 128, 129, 130, 131, 132, 133, 134, 135, 136, 137, 138, 139, 140, 141, 142, 143] (by decide +kernel) (by decide +kernel)
set_option maxRecDepth 20000 in
theorem gX9_bestWay_X9_rating : GoodIn wsX9_bestWay (wsV RX9 186 RX9 yX9_rating wsX9_rating) := goodIn_app (goodIn_of _ (by decide +kernel)) ggX9_bestWay_X9_rating
theorem dX9_bestWay_0 : decode cX9_bestWay 0 = .ok (.aload_n 0, 1) := by decide +kernel
theorem dX9_bestWay_1 : decode cX9_bestWay 1 = .ok (.invokevirtual 177, 3) := by decide +kernel
theorem dX9_bestWay_4 : decode cX9_bestWay 4 = .ok (.istore_n 1, 1) := by decide +kernel
theorem dX9_bestWay_5 : decode cX9_bestWay 5 = .ok (.iconst 0, 1) := by decide +kernel
theorem dX9_bestWay_6 : decode cX9_bestWay 6 = .ok (.istore_n 2, 1) := by decide +kernel
theorem dX9_bestWay_7 : decode cX9_bestWay 7 = .ok (.iconst (-1), 1) := by decide +kernel
theorem dX9_bestWay_8 : decode cX9_bestWay 8 = .ok (.istore_n 3, 1) := by decide +kernel
theorem dX9_bestWay_9 : decode cX9_bestWay 9 = .ok (.iconst 0, 1) := by decide +kernel
theorem dX9_bestWay_10 : decode cX9_bestWay 10 = .ok (.istore 4, 2) := by decide +kernel
theorem dX9_bestWay_12 : decode cX9_bestWay 12 = .ok (.iload 4, 2) := by decide +kernel
theorem dX9_bestWay_14 : decode cX9_bestWay 14 = .ok (.bipush 16, 2) := by decide +kernel
theorem dX9_bestWay_16 : decode cX9_bestWay 16 = .ok (.if_icmp .ge 59, 3) := by decide +kernel
theorem dX9_bestWay_19 : decode cX9_bestWay 19 = .ok (.aload_n 0, 1) := by decide +kernel
theorem dX9_bestWay_20 : decode cX9_bestWay 20 = .ok (.iload 4, 2) := by decide +kernel
theorem dX9_bestWay_22 : decode cX9_bestWay 22 = .ok (.invokevirtual 180, 3) := by decide +kernel
theorem dX9_bestWay_25 : decode cX9_bestWay 25 = .ok (.aload_n 0, 1) := by decide +kernel
theorem dX9_bestWay_26 : decode cX9_bestWay 26 = .ok (.invokevirtual 183, 3) := by decide +kernel
theorem dX9_bestWay_29 : decode cX9_bestWay 29 = .ok (.aload_n 0, 1) := by decide +kernel
theorem dX9_bestWay_30 : decode cX9_bestWay 30 = .ok (.invokevirtual 186, 3) := by decide +kernel
theorem dX9_bestWay_33 : decode cX9_bestWay 33 = .ok (.istore 5, 2) := by decide +kernel
theorem dX9_bestWay_35 : decode cX9_bestWay 35 = .ok (.iload_n 3, 1) := by decide +kernel
theorem dX9_bestWay_36 : decode cX9_bestWay 36 = .ok (.ifCond .lt 9, 3) := by decide +kernel
theorem dX9_bestWay_39 : decode cX9_bestWay 39 = .ok (.iload 5, 2) := by decide +kernel
theorem dX9_bestWay_41 : decode cX9_bestWay 41 = .ok (.iload_n 3, 1) := by decide +kernel
theorem dX9_bestWay_42 : decode cX9_bestWay 42 = .ok (.if_icmp .ge 8, 3) := by decide +kernel
theorem dX9_bestWay_45 : decode cX9_bestWay 45 = .ok (.iload 4, 2) := by decide +kernel
theorem dX9_bestWay_47 : decode cX9_bestWay 47 = .ok (.goto 4, 3) := by decide +kernel
theorem dX9_bestWay_50 : decode cX9_bestWay 50 = .ok (.iload_n 2, 1) := by decide +kernel
theorem dX9_bestWay_51 : decode cX9_bestWay 51 = .ok (.istore_n 2, 1) := by decide +kernel
theorem dX9_bestWay_52 : decode cX9_bestWay 52 = .ok (.iload_n 3, 1) := by decide +kernel
theorem dX9_bestWay_53 : decode cX9_bestWay 53 = .ok (.ifCond .lt 9, 3) := by decide +kernel
theorem dX9_bestWay_56 : decode cX9_bestWay 56 = .ok (.iload 5, 2) := by decide +kernel
theorem dX9_bestWay_58 : decode cX9_bestWay 58 = .ok (.iload_n 3, 1) := by decide +kernel
theorem dX9_bestWay_59 : decode cX9_bestWay 59 = .ok (.if_icmp .ge 8, 3) := by decide +kernel
theorem dX9_bestWay_62 : decode cX9_bestWay 62 = .ok (.iload 5, 2) := by decide +kernel
theorem dX9_bestWay_64 : decode cX9_bestWay 64 = .ok (.goto 4, 3) := by decide +kernel
theorem dX9_bestWay_67 : decode cX9_bestWay 67 = .ok (.iload_n 3, 1) := by decide +kernel
theorem dX9_bestWay_68 : decode cX9_bestWay 68 = .ok (.istore_n 3, 1) := by decide +kernel
theorem dX9_bestWay_69 : decode cX9_bestWay 69 = .ok (.iinc 4 1, 3) := by decide +kernel
theorem dX9_bestWay_72 : decode cX9_bestWay 72 = .ok (.goto (-60), 3) := by decide +kernel
theorem dX9_bestWay_75 : decode cX9_bestWay 75 = .ok (.aload_n 0, 1) := by decide +kernel
theorem dX9_bestWay_76 : decode cX9_bestWay 76 = .ok (.iload_n 1, 1) := by decide +kernel
theorem dX9_bestWay_77 : decode cX9_bestWay 77 = .ok (.invokevirtual 180, 3) := by decide +kernel
theorem dX9_bestWay_80 : decode cX9_bestWay 80 = .ok (.iload_n 2, 1) := by decide +kernel
theorem dX9_bestWay_81 : decode cX9_bestWay 81 = .ok (.ireturn, 1) := by decide +kernel
set_option maxRecDepth 20000 in
theorem ggX9_arrange_X9_bestWay : GoodIn wsX9_arrange wsX9_bestWay := goodIn_r _ [5, 6, 7, 8, 4, 9, 10, 11, 12, 13, 14, 15, 16, 17, 18, 19, 20, 21, 22, 23, 24, 25, 26, 27, 28, 29, 30, 31, 32, 33, 34, 35, 36, 37, 38, 39, 40, 41, 42, 43, 44, 45, 46, 47, 48, 49, 50, 51, 52, 53, 54, 55, 56, 57, 58, 59, 60, 61, 62, 63, 64, 65, 66, 67, 68, 69, 70, 71, 72, 73, 74, 75, 76, 77, 78, 79, 80, 81, 82, 83, 84, 85, 86, 87, 88, 89, 90, 91, 92, 93, 94, 95, 96, 97, 98, 99, 100, 101, 102, 103, 104, 105, 106, 107, 108, 109, 110, 111, 112, 113, 114, 115, 116, 117, 118, 119, 120, 130, 131, 132, 133, 134, 135, 136, 137, 138, 139, 140, 141, 142, 143, 144, 145, 146, 147, 148, 149, 150, 151, 152, 153, 154, 155, 156] (by decide +kernel) (by decide +kernel)
set_option maxRecDepth 20000 in
theorem gX9_arrange_X9_bestWay : GoodIn wsX9_arrange (wsV RX9 189 RX9 yX9_bestWay wsX9_bestWay) := goodIn_app (goodIn_of _ (by decide +kernel)) ggX9_arrange_X9_bestWay
set_option maxRecDepth 20000 in
theorem ggX9_arrange_X9_keep : GoodIn wsX9_arrange wsX9_keep := goodIn_r _ [124, 125, 126, 10, 127, 128, 4, 129, 130, 131, 132, 133, 134, 135, 136, 137, 138, 139, 140, 141, 142, 143, 144, 145, 146, 147, 148, 149, 150, 151, 152, 153, 154, 155, 156] (by decide +kernel) (by decide +kernel)
set_option maxRecDepth 20000 in
theorem gX9_arrange_X9_keep : GoodIn wsX9_arrange (wsV RX9 153 RX9 yX9_keep wsX9_keep) := goodIn_app (goodIn_of _ (by decide +kernel)) ggX9_arrange_X9_keep
set_option maxRecDepth 20000 in
theorem ggX9_arrange_X9_putSides : GoodIn wsX9_arrange wsX9_putSides := goodIn_r _ [14, 10, 130, 131, 132, 133, 134, 135, 136, 137, 138, 139, 140, 141, 142, 143, 144, 145, 146, 147, 148, 149, 150, 151, 152, 153, 154, 155, 156] (by decide +kernel) (by decide +kernel)
set_option maxRecDepth 20000 in
theorem gX9_arrange_X9_putSides : GoodIn wsX9_arrange (wsV RX9 180 RX9 yX9_putSides wsX9_putSides) := goodIn_app (goodIn_of _ (by decide +kernel)) ggX9_arrange_X9_putSides
set_option maxRecDepth 20000 in
theorem ggX9_arrange_X9_lay : GoodIn wsX9_arrange wsX9_lay := goodIn_r _ [18, 19, 20, 21, 22, 23, 24, 25, 26, 27, 28, 4, 29, 30, 31, 10, 32, 33, 34, 35, 36, 37, 38, 39, 40, 41, 42, 43, 44, 45, 46, 47, 48, 49, 50, 51, 52, 53, 54, 55, 56, 57, 58, 59, 60, 61, 62, 63, 64, 65, 66, 67, 68, 69, 70, 71, 72, 73, 74, 75, 76, 77, 78, 79, 80, 81, 82, 83, 84, 85, 86, 87, 88, 89, 90, 91, 92, 93, 94, 95, 96, 97, 98, 99, 100, 101, 102, 103, 130, 131, 132, 133, 134, 135, 136, 137, 138, 139, 140, 141, 142, 143, 144, 145, 146, 147, 148, 149, 150, 151, 152, 153, 154, 155, 156] (by decide +kernel) (by decide +kernel)
set_option maxRecDepth 20000 in
theorem gX9_arrange_X9_lay : GoodIn wsX9_arrange (wsV RX9 183 RX9 yX9_lay wsX9_lay) := goodIn_app (goodIn_of _ (by decide +kernel)) ggX9_arrange_X9_lay
set_option maxRecDepth 20000 in
theorem ggX9_arrange_X9_heavier : GoodIn wsX9_arrange wsX9_heavier := goodIn_r _ [116, 21, 130, 131, 132, 133, 134, 135, 136, 137, 138, 139, 140, 141, 142, 143, 144, 145, 146, 147, 148, 149, 150, 151, 152, 153, 154, 155, 156] (by decide +kernel) (by decide +kernel)
set_option maxRecDepth 20000 in
theorem gX9_arrange_X9_heavier : GoodIn wsX9_arrange (wsV RX9 171 RX9 yX9_heavier wsX9_heavier) := goodIn_app (goodIn_of _ (by decide +kernel)) ggX9_arrange_X9_heavier
theorem dX9_arrange_0 : decode cX9_arrange 0 = .ok (.aload_n 0, 1) := by decide +kernel
theorem dX9_arrange_1 : decode cX9_arrange 1 = .ok (.invokevirtual 189, 3) := by decide +kernel
theorem dX9_arrange_4 : decode cX9_arrange 4 = .ok (.istore_n 1, 1) := by decide +kernel
theorem dX9_arrange_5 : decode cX9_arrange 5 = .ok (.aload_n 0, 1) := by decide +kernel
theorem dX9_arrange_6 : decode cX9_arrange 6 = .ok (.invokevirtual 153, 3) := by decide +kernel
theorem dX9_arrange_9 : decode cX9_arrange 9 = .ok (.aload_n 0, 1) := by decide +kernel
theorem dX9_arrange_10 : decode cX9_arrange 10 = .ok (.iload_n 1, 1) := by decide +kernel
theorem dX9_arrange_11 : decode cX9_arrange 11 = .ok (.invokevirtual 180, 3) := by decide +kernel
theorem dX9_arrange_14 : decode cX9_arrange 14 = .ok (.aload_n 0, 1) := by decide +kernel
theorem dX9_arrange_15 : decode cX9_arrange 15 = .ok (.invokevirtual 183, 3) := by decide +kernel
theorem dX9_arrange_18 : decode cX9_arrange 18 = .ok (.aload_n 0, 1) := by decide +kernel
theorem dX9_arrange_19 : decode cX9_arrange 19 = .ok (.invokevirtual 171, 3) := by decide +kernel
theorem dX9_arrange_22 : decode cX9_arrange 22 = .ok (.ireturn, 1) := by decide +kernel
set_option maxRecDepth 20000 in
theorem ggX9_findCandidates_X9_of : GoodIn wsX9_findCandidates wsX9_of := goodIn_r _ [8, 2, 19, 20, 21, 22, 23, 24, 25, 26, 27, 28, 29, 30, 31, 32, 33, 34, 35, 36, 37, 38, 39, 40, 41, 42, 43, 44, 45] (by decide +kernel) (by decide +kernel)
set_option maxRecDepth 20000 in
theorem gX9_findCandidates_X9_of : GoodIn wsX9_findCandidates (wsV RX9 68 RX9 yX9_of wsX9_of) := goodIn_app (goodIn_of _ (by decide +kernel)) ggX9_findCandidates_X9_of
set_option maxRecDepth 20000 in
theorem ggX9_findCandidates_X9_mayBe : GoodIn wsX9_findCandidates wsX9_mayBe := goodIn_r _ [12, 2, 4, 5, 6, 7, 8, 13, 14, 15, 19, 20, 21, 22, 23, 24, 25, 26, 27, 28, 29, 30, 31, 32, 33, 34, 35, 36, 37, 38, 39, 40, 41, 42, 43, 44, 45] (by decide +kernel) (by decide +kernel)
set_option maxRecDepth 20000 in
theorem gX9_findCandidates_X9_mayBe : GoodIn wsX9_findCandidates (wsV RX9 76 RX9 yX9_mayBe wsX9_mayBe) := goodIn_app (goodIn_of _ (by decide +kernel)) ggX9_findCandidates_X9_mayBe
set_option maxRecDepth 20000 in
theorem ggX9_findCandidates_X9_figures : GoodIn wsX9_findCandidates wsX9_figures := goodIn_r _ [18] (by decide +kernel) (by decide +kernel)
set_option maxRecDepth 20000 in
theorem gX9_findCandidates_X9_figures : GoodIn wsX9_findCandidates (va_wsS RX9 119 yX9_figures wsX9_figures) := goodIn_app (goodIn_of _ (by decide +kernel)) ggX9_findCandidates_X9_figures
theorem dX9_findCandidates_0 : decode cX9_findCandidates 0 = .ok (.aload_n 0, 1) := by decide +kernel
theorem dX9_findCandidates_1 : decode cX9_findCandidates 1 = .ok (.iconst 0, 1) := by decide +kernel
theorem dX9_findCandidates_2 : decode cX9_findCandidates 2 = .ok (.putfield 192, 3) := by decide +kernel
theorem dX9_findCandidates_5 : decode cX9_findCandidates 5 = .ok (.iconst 0, 1) := by decide +kernel
theorem dX9_findCandidates_6 : decode cX9_findCandidates 6 = .ok (.istore_n 3, 1) := by decide +kernel
theorem dX9_findCandidates_7 : decode cX9_findCandidates 7 = .ok (.iload_n 3, 1) := by decide +kernel
theorem dX9_findCandidates_8 : decode cX9_findCandidates 8 = .ok (.iconst 4, 1) := by decide +kernel
theorem dX9_findCandidates_9 : decode cX9_findCandidates 9 = .ok (.if_icmp .ge 98, 3) := by decide +kernel
theorem dX9_findCandidates_12 : decode cX9_findCandidates 12 = .ok (.iconst 0, 1) := by decide +kernel
theorem dX9_findCandidates_13 : decode cX9_findCandidates 13 = .ok (.istore 4, 2) := by decide +kernel
theorem dX9_findCandidates_15 : decode cX9_findCandidates 15 = .ok (.iload 4, 2) := by decide +kernel
theorem dX9_findCandidates_17 : decode cX9_findCandidates 17 = .ok (.aload_n 0, 1) := by decide +kernel
theorem dX9_findCandidates_18 : decode cX9_findCandidates 18 = .ok (.getfield 7, 3) := by decide +kernel
theorem dX9_findCandidates_21 : decode cX9_findCandidates 21 = .ok (.iconst 0, 1) := by decide +kernel
theorem dX9_findCandidates_22 : decode cX9_findCandidates 22 = .ok (.iaload, 1) := by decide +kernel
theorem dX9_findCandidates_23 : decode cX9_findCandidates 23 = .ok (.if_icmp .ge 78, 3) := by decide +kernel
theorem dX9_findCandidates_26 : decode cX9_findCandidates 26 = .ok (.aload_n 0, 1) := by decide +kernel
theorem dX9_findCandidates_27 : decode cX9_findCandidates 27 = .ok (.iload 4, 2) := by decide +kernel
theorem dX9_findCandidates_29 : decode cX9_findCandidates 29 = .ok (.iconst 0, 1) := by decide +kernel
theorem dX9_findCandidates_30 : decode cX9_findCandidates 30 = .ok (.invokevirtual 68, 3) := by decide +kernel
theorem dX9_findCandidates_33 : decode cX9_findCandidates 33 = .ok (.iload_n 3, 1) := by decide +kernel
theorem dX9_findCandidates_34 : decode cX9_findCandidates 34 = .ok (.if_icmp .ne 61, 3) := by decide +kernel
theorem dX9_findCandidates_37 : decode cX9_findCandidates 37 = .ok (.aload_n 0, 1) := by decide +kernel
theorem dX9_findCandidates_38 : decode cX9_findCandidates 38 = .ok (.getfield 7, 3) := by decide +kernel
theorem dX9_findCandidates_41 : decode cX9_findCandidates 41 = .ok (.sipush 147, 3) := by decide +kernel
theorem dX9_findCandidates_44 : decode cX9_findCandidates 44 = .ok (.iload_n 3, 1) := by decide +kernel
theorem dX9_findCandidates_45 : decode cX9_findCandidates 45 = .ok (.iadd, 1) := by decide +kernel
theorem dX9_findCandidates_46 : decode cX9_findCandidates 46 = .ok (.iaload, 1) := by decide +kernel
theorem dX9_findCandidates_47 : decode cX9_findCandidates 47 = .ok (.iload_n 1, 1) := by decide +kernel
theorem dX9_findCandidates_48 : decode cX9_findCandidates 48 = .ok (.if_icmp .ne 47, 3) := by decide +kernel
theorem dX9_findCandidates_51 : decode cX9_findCandidates 51 = .ok (.aload_n 0, 1) := by decide +kernel
theorem dX9_findCandidates_52 : decode cX9_findCandidates 52 = .ok (.iload 4, 2) := by decide +kernel
theorem dX9_findCandidates_54 : decode cX9_findCandidates 54 = .ok (.invokevirtual 76, 3) := by decide +kernel
theorem dX9_findCandidates_57 : decode cX9_findCandidates 57 = .ok (.ifCond .eq 38, 3) := by decide +kernel
theorem dX9_findCandidates_60 : decode cX9_findCandidates 60 = .ok (.aload_n 0, 1) := by decide +kernel
theorem dX9_findCandidates_61 : decode cX9_findCandidates 61 = .ok (.iload 4, 2) := by decide +kernel
theorem dX9_findCandidates_63 : decode cX9_findCandidates 63 = .ok (.iconst 2, 1) := by decide +kernel
theorem dX9_findCandidates_64 : decode cX9_findCandidates 64 = .ok (.invokevirtual 68, 3) := by decide +kernel
theorem dX9_findCandidates_67 : decode cX9_findCandidates 67 = .ok (.invokestatic 119, 3) := by decide +kernel
theorem dX9_findCandidates_70 : decode cX9_findCandidates 70 = .ok (.iload_n 2, 1) := by decide +kernel
theorem dX9_findCandidates_71 : decode cX9_findCandidates 71 = .ok (.if_icmp .gt 24, 3) := by decide +kernel
theorem dX9_findCandidates_74 : decode cX9_findCandidates 74 = .ok (.aload_n 0, 1) := by decide +kernel
theorem dX9_findCandidates_75 : decode cX9_findCandidates 75 = .ok (.getfield 53, 3) := by decide +kernel
theorem dX9_findCandidates_78 : decode cX9_findCandidates 78 = .ok (.aload_n 0, 1) := by decide +kernel
theorem dX9_findCandidates_79 : decode cX9_findCandidates 79 = .ok (.getfield 192, 3) := by decide +kernel
theorem dX9_findCandidates_82 : decode cX9_findCandidates 82 = .ok (.iload 4, 2) := by decide +kernel
theorem dX9_findCandidates_84 : decode cX9_findCandidates 84 = .ok (.iastore, 1) := by decide +kernel
theorem dX9_findCandidates_85 : decode cX9_findCandidates 85 = .ok (.aload_n 0, 1) := by decide +kernel
theorem dX9_findCandidates_86 : decode cX9_findCandidates 86 = .ok (.dup, 1) := by decide +kernel
theorem dX9_findCandidates_87 : decode cX9_findCandidates 87 = .ok (.getfield 192, 3) := by decide +kernel
theorem dX9_findCandidates_90 : decode cX9_findCandidates 90 = .ok (.iconst 1, 1) := by decide +kernel
theorem dX9_findCandidates_91 : decode cX9_findCandidates 91 = .ok (.iadd, 1) := by decide +kernel
theorem dX9_findCandidates_92 : decode cX9_findCandidates 92 = .ok (.putfield 192, 3) := by decide +kernel
theorem dX9_findCandidates_95 : decode cX9_findCandidates 95 = .ok (.iinc 4 1, 3) := by decide +kernel
theorem dX9_findCandidates_98 : decode cX9_findCandidates 98 = .ok (.goto (-83), 3) := by decide +kernel
theorem dX9_findCandidates_101 : decode cX9_findCandidates 101 = .ok (.iinc 3 1, 3) := by decide +kernel
theorem dX9_findCandidates_104 : decode cX9_findCandidates 104 = .ok (.goto (-97), 3) := by decide +kernel
theorem dX9_findCandidates_107 : decode cX9_findCandidates 107 = .ok (.return_, 1) := by decide +kernel
theorem dX9_beginsCourse_0 : decode cX9_beginsCourse 0 = .ok (.iconst 0, 1) := by decide +kernel
theorem dX9_beginsCourse_1 : decode cX9_beginsCourse 1 = .ok (.istore_n 1, 1) := by decide +kernel
theorem dX9_beginsCourse_2 : decode cX9_beginsCourse 2 = .ok (.iload_n 1, 1) := by decide +kernel
theorem dX9_beginsCourse_3 : decode cX9_beginsCourse 3 = .ok (.sipush 150, 3) := by decide +kernel
theorem dX9_beginsCourse_6 : decode cX9_beginsCourse 6 = .ok (.if_icmp .gt 77, 3) := by decide +kernel
theorem dX9_beginsCourse_9 : decode cX9_beginsCourse 9 = .ok (.iconst 1, 1) := by decide +kernel
theorem dX9_beginsCourse_10 : decode cX9_beginsCourse 10 = .ok (.istore_n 2, 1) := by decide +kernel
theorem dX9_beginsCourse_11 : decode cX9_beginsCourse 11 = .ok (.iload_n 2, 1) := by decide +kernel
theorem dX9_beginsCourse_12 : decode cX9_beginsCourse 12 = .ok (.bipush 10, 2) := by decide +kernel
theorem dX9_beginsCourse_14 : decode cX9_beginsCourse 14 = .ok (.if_icmp .ge 63, 3) := by decide +kernel
theorem dX9_beginsCourse_17 : decode cX9_beginsCourse 17 = .ok (.sipush 151, 3) := by decide +kernel
theorem dX9_beginsCourse_20 : decode cX9_beginsCourse 20 = .ok (.iload_n 2, 1) := by decide +kernel
theorem dX9_beginsCourse_21 : decode cX9_beginsCourse 21 = .ok (.imul, 1) := by decide +kernel
theorem dX9_beginsCourse_22 : decode cX9_beginsCourse 22 = .ok (.iload_n 1, 1) := by decide +kernel
theorem dX9_beginsCourse_23 : decode cX9_beginsCourse 23 = .ok (.iadd, 1) := by decide +kernel
theorem dX9_beginsCourse_24 : decode cX9_beginsCourse 24 = .ok (.istore_n 3, 1) := by decide +kernel
theorem dX9_beginsCourse_25 : decode cX9_beginsCourse 25 = .ok (.aload_n 0, 1) := by decide +kernel
theorem dX9_beginsCourse_26 : decode cX9_beginsCourse 26 = .ok (.getfield 49, 3) := by decide +kernel
theorem dX9_beginsCourse_29 : decode cX9_beginsCourse 29 = .ok (.iload_n 1, 1) := by decide +kernel
theorem dX9_beginsCourse_30 : decode cX9_beginsCourse 30 = .ok (.aload_n 0, 1) := by decide +kernel
theorem dX9_beginsCourse_31 : decode cX9_beginsCourse 31 = .ok (.getfield 49, 3) := by decide +kernel
theorem dX9_beginsCourse_34 : decode cX9_beginsCourse 34 = .ok (.iload_n 3, 1) := by decide +kernel
theorem dX9_beginsCourse_35 : decode cX9_beginsCourse 35 = .ok (.laload, 1) := by decide +kernel
theorem dX9_beginsCourse_36 : decode cX9_beginsCourse 36 = .ok (.aload_n 0, 1) := by decide +kernel
theorem dX9_beginsCourse_37 : decode cX9_beginsCourse 37 = .ok (.getfield 49, 3) := by decide +kernel
theorem dX9_beginsCourse_40 : decode cX9_beginsCourse 40 = .ok (.iload_n 1, 1) := by decide +kernel
theorem dX9_beginsCourse_41 : decode cX9_beginsCourse 41 = .ok (.laload, 1) := by decide +kernel
theorem dX9_beginsCourse_42 : decode cX9_beginsCourse 42 = .ok (.lcmp, 1) := by decide +kernel
theorem dX9_beginsCourse_43 : decode cX9_beginsCourse 43 = .ok (.ifCond .le 12, 3) := by decide +kernel
theorem dX9_beginsCourse_46 : decode cX9_beginsCourse 46 = .ok (.aload_n 0, 1) := by decide +kernel
theorem dX9_beginsCourse_47 : decode cX9_beginsCourse 47 = .ok (.getfield 49, 3) := by decide +kernel
theorem dX9_beginsCourse_50 : decode cX9_beginsCourse 50 = .ok (.iload_n 3, 1) := by decide +kernel
theorem dX9_beginsCourse_51 : decode cX9_beginsCourse 51 = .ok (.laload, 1) := by decide +kernel
theorem dX9_beginsCourse_52 : decode cX9_beginsCourse 52 = .ok (.goto 9, 3) := by decide +kernel
theorem dX9_beginsCourse_55 : decode cX9_beginsCourse 55 = .ok (.aload_n 0, 1) := by decide +kernel
theorem dX9_beginsCourse_56 : decode cX9_beginsCourse 56 = .ok (.getfield 49, 3) := by decide +kernel
theorem dX9_beginsCourse_59 : decode cX9_beginsCourse 59 = .ok (.iload_n 1, 1) := by decide +kernel
theorem dX9_beginsCourse_60 : decode cX9_beginsCourse 60 = .ok (.laload, 1) := by decide +kernel
theorem dX9_beginsCourse_61 : decode cX9_beginsCourse 61 = .ok (.lastore, 1) := by decide +kernel
theorem dX9_beginsCourse_62 : decode cX9_beginsCourse 62 = .ok (.aload_n 0, 1) := by decide +kernel
theorem dX9_beginsCourse_63 : decode cX9_beginsCourse 63 = .ok (.getfield 49, 3) := by decide +kernel
theorem dX9_beginsCourse_66 : decode cX9_beginsCourse 66 = .ok (.iload_n 3, 1) := by decide +kernel
theorem dX9_beginsCourse_67 : decode cX9_beginsCourse 67 = .ok (.ldc2_w 195, 3) := by decide +kernel
theorem dX9_beginsCourse_70 : decode cX9_beginsCourse 70 = .ok (.lastore, 1) := by decide +kernel
theorem dX9_beginsCourse_71 : decode cX9_beginsCourse 71 = .ok (.iinc 2 1, 3) := by decide +kernel
theorem dX9_beginsCourse_74 : decode cX9_beginsCourse 74 = .ok (.goto (-63), 3) := by decide +kernel
theorem dX9_beginsCourse_77 : decode cX9_beginsCourse 77 = .ok (.iinc 1 1, 3) := by decide +kernel
theorem dX9_beginsCourse_80 : decode cX9_beginsCourse 80 = .ok (.goto (-78), 3) := by decide +kernel
theorem dX9_beginsCourse_83 : decode cX9_beginsCourse 83 = .ok (.return_, 1) := by decide +kernel
set_option maxRecDepth 20000 in
theorem ggX9_takes_X9_linesBy : GoodIn wsX9_takes wsX9_linesBy := goodIn_r _ [8, 9, 10, 11, 7, 12, 13, 14, 15, 16, 2, 17, 18, 19, 20, 21, 22, 23, 24, 25, 26, 27, 28, 29, 30, 31, 32, 33, 34, 35, 36, 37, 38, 39, 40, 41, 42, 43, 44, 45, 46, 47, 48, 49, 50] (by decide +kernel) (by decide +kernel)
set_option maxRecDepth 20000 in
theorem gX9_takes_X9_linesBy : GoodIn wsX9_takes (wsV RX9 110 RX9 yX9_linesBy wsX9_linesBy) := goodIn_app (goodIn_of _ (by decide +kernel)) ggX9_takes_X9_linesBy
set_option maxRecDepth 20000 in
theorem ggX9_takes_X9_of : GoodIn wsX9_takes wsX9_of := goodIn_r _ [16, 2, 24, 25, 26, 27, 28, 29, 30, 31, 32, 33, 34, 35, 36, 37, 38, 39, 40, 41, 42, 43, 44, 45, 46, 47, 48, 49, 50] (by decide +kernel) (by decide +kernel)
set_option maxRecDepth 20000 in
theorem gX9_takes_X9_of : GoodIn wsX9_takes (wsV RX9 68 RX9 yX9_of wsX9_of) := goodIn_app (goodIn_of _ (by decide +kernel)) ggX9_takes_X9_of
theorem dX9_takes_0 : decode cX9_takes 0 = .ok (.aload_n 0, 1) := by decide +kernel
theorem dX9_takes_1 : decode cX9_takes 1 = .ok (.getfield 53, 3) := by decide +kernel
theorem dX9_takes_4 : decode cX9_takes 4 = .ok (.iload_n 1, 1) := by decide +kernel
theorem dX9_takes_5 : decode cX9_takes 5 = .ok (.iaload, 1) := by decide +kernel
theorem dX9_takes_6 : decode cX9_takes 6 = .ok (.istore_n 3, 1) := by decide +kernel
theorem dX9_takes_7 : decode cX9_takes 7 = .ok (.aload_n 0, 1) := by decide +kernel
theorem dX9_takes_8 : decode cX9_takes 8 = .ok (.iload_n 3, 1) := by decide +kernel
theorem dX9_takes_9 : decode cX9_takes 9 = .ok (.iload_n 2, 1) := by decide +kernel
theorem dX9_takes_10 : decode cX9_takes 10 = .ok (.invokevirtual 110, 3) := by decide +kernel
theorem dX9_takes_13 : decode cX9_takes 13 = .ok (.istore 4, 2) := by decide +kernel
theorem dX9_takes_15 : decode cX9_takes 15 = .ok (.aload_n 0, 1) := by decide +kernel
theorem dX9_takes_16 : decode cX9_takes 16 = .ok (.iload_n 3, 1) := by decide +kernel
theorem dX9_takes_17 : decode cX9_takes 17 = .ok (.iconst 2, 1) := by decide +kernel
theorem dX9_takes_18 : decode cX9_takes 18 = .ok (.invokevirtual 68, 3) := by decide +kernel
theorem dX9_takes_21 : decode cX9_takes 21 = .ok (.i2l, 1) := by decide +kernel
theorem dX9_takes_22 : decode cX9_takes 22 = .ok (.bipush 20, 2) := by decide +kernel
theorem dX9_takes_24 : decode cX9_takes 24 = .ok (.lshl, 1) := by decide +kernel
theorem dX9_takes_25 : decode cX9_takes 25 = .ok (.lconst 1, 1) := by decide +kernel
theorem dX9_takes_26 : decode cX9_takes 26 = .ok (.iload_n 1, 1) := by decide +kernel
theorem dX9_takes_27 : decode cX9_takes 27 = .ok (.lshl, 1) := by decide +kernel
theorem dX9_takes_28 : decode cX9_takes 28 = .ok (.lsub, 1) := by decide +kernel
theorem dX9_takes_29 : decode cX9_takes 29 = .ok (.lstore 5, 2) := by decide +kernel
theorem dX9_takes_31 : decode cX9_takes 31 = .ok (.aload_n 0, 1) := by decide +kernel
theorem dX9_takes_32 : decode cX9_takes 32 = .ok (.getfield 7, 3) := by decide +kernel
theorem dX9_takes_35 : decode cX9_takes 35 = .ok (.sipush 143, 3) := by decide +kernel
theorem dX9_takes_38 : decode cX9_takes 38 = .ok (.iaload, 1) := by decide +kernel
theorem dX9_takes_39 : decode cX9_takes 39 = .ok (.iconst 1, 1) := by decide +kernel
theorem dX9_takes_40 : decode cX9_takes 40 = .ok (.isub, 1) := by decide +kernel
theorem dX9_takes_41 : decode cX9_takes 41 = .ok (.istore 7, 2) := by decide +kernel
theorem dX9_takes_43 : decode cX9_takes 43 = .ok (.iload 7, 2) := by decide +kernel
theorem dX9_takes_45 : decode cX9_takes 45 = .ok (.ifCond .lt 127, 3) := by decide +kernel
theorem dX9_takes_48 : decode cX9_takes 48 = .ok (.iload 4, 2) := by decide +kernel
theorem dX9_takes_50 : decode cX9_takes 50 = .ok (.iload 7, 2) := by decide +kernel
theorem dX9_takes_52 : decode cX9_takes 52 = .ok (.ifCond .ne 7, 3) := by decide +kernel
theorem dX9_takes_55 : decode cX9_takes 55 = .ok (.iconst 2, 1) := by decide +kernel
theorem dX9_takes_56 : decode cX9_takes 56 = .ok (.goto 11, 3) := by decide +kernel
theorem dX9_takes_59 : decode cX9_takes 59 = .ok (.aload_n 0, 1) := by decide +kernel
theorem dX9_takes_60 : decode cX9_takes 60 = .ok (.getfield 7, 3) := by decide +kernel
theorem dX9_takes_63 : decode cX9_takes 63 = .ok (.sipush 144, 3) := by decide +kernel
theorem dX9_takes_66 : decode cX9_takes 66 = .ok (.iaload, 1) := by decide +kernel
theorem dX9_takes_67 : decode cX9_takes 67 = .ok (.iadd, 1) := by decide +kernel
theorem dX9_takes_68 : decode cX9_takes 68 = .ok (.istore 8, 2) := by decide +kernel
theorem dX9_takes_70 : decode cX9_takes 70 = .ok (.sipush 150, 3) := by decide +kernel
theorem dX9_takes_73 : decode cX9_takes 73 = .ok (.iload 8, 2) := by decide +kernel
theorem dX9_takes_75 : decode cX9_takes 75 = .ok (.isub, 1) := by decide +kernel
theorem dX9_takes_76 : decode cX9_takes 76 = .ok (.istore 9, 2) := by decide +kernel
theorem dX9_takes_78 : decode cX9_takes 78 = .ok (.iload 9, 2) := by decide +kernel
theorem dX9_takes_80 : decode cX9_takes 80 = .ok (.ifCond .lt 86, 3) := by decide +kernel
theorem dX9_takes_83 : decode cX9_takes 83 = .ok (.aload_n 0, 1) := by decide +kernel
theorem dX9_takes_84 : decode cX9_takes 84 = .ok (.getfield 49, 3) := by decide +kernel
theorem dX9_takes_87 : decode cX9_takes 87 = .ok (.sipush 151, 3) := by decide +kernel
theorem dX9_takes_90 : decode cX9_takes 90 = .ok (.iload 7, 2) := by decide +kernel
theorem dX9_takes_92 : decode cX9_takes 92 = .ok (.imul, 1) := by decide +kernel
theorem dX9_takes_93 : decode cX9_takes 93 = .ok (.iload 9, 2) := by decide +kernel
theorem dX9_takes_95 : decode cX9_takes 95 = .ok (.iadd, 1) := by decide +kernel
theorem dX9_takes_96 : decode cX9_takes 96 = .ok (.laload, 1) := by decide +kernel
theorem dX9_takes_97 : decode cX9_takes 97 = .ok (.lstore 10, 2) := by decide +kernel
theorem dX9_takes_99 : decode cX9_takes 99 = .ok (.sipush 151, 3) := by decide +kernel
theorem dX9_takes_102 : decode cX9_takes 102 = .ok (.iload 7, 2) := by decide +kernel
theorem dX9_takes_104 : decode cX9_takes 104 = .ok (.iconst 1, 1) := by decide +kernel
theorem dX9_takes_105 : decode cX9_takes 105 = .ok (.iadd, 1) := by decide +kernel
theorem dX9_takes_106 : decode cX9_takes 106 = .ok (.imul, 1) := by decide +kernel
theorem dX9_takes_107 : decode cX9_takes 107 = .ok (.iload 9, 2) := by decide +kernel
theorem dX9_takes_109 : decode cX9_takes 109 = .ok (.iadd, 1) := by decide +kernel
theorem dX9_takes_110 : decode cX9_takes 110 = .ok (.iload 8, 2) := by decide +kernel
theorem dX9_takes_112 : decode cX9_takes 112 = .ok (.iadd, 1) := by decide +kernel
theorem dX9_takes_113 : decode cX9_takes 113 = .ok (.istore 12, 2) := by decide +kernel
theorem dX9_takes_115 : decode cX9_takes 115 = .ok (.aload_n 0, 1) := by decide +kernel
theorem dX9_takes_116 : decode cX9_takes 116 = .ok (.getfield 49, 3) := by decide +kernel
theorem dX9_takes_119 : decode cX9_takes 119 = .ok (.iload 12, 2) := by decide +kernel
theorem dX9_takes_121 : decode cX9_takes 121 = .ok (.lload 10, 2) := by decide +kernel
theorem dX9_takes_123 : decode cX9_takes 123 = .ok (.lconst 0, 1) := by decide +kernel
theorem dX9_takes_124 : decode cX9_takes 124 = .ok (.lcmp, 1) := by decide +kernel
theorem dX9_takes_125 : decode cX9_takes 125 = .ok (.ifCond .lt 27, 3) := by decide +kernel
theorem dX9_takes_128 : decode cX9_takes 128 = .ok (.lload 10, 2) := by decide +kernel
theorem dX9_takes_130 : decode cX9_takes 130 = .ok (.lload 5, 2) := by decide +kernel
theorem dX9_takes_132 : decode cX9_takes 132 = .ok (.ladd, 1) := by decide +kernel
theorem dX9_takes_133 : decode cX9_takes 133 = .ok (.aload_n 0, 1) := by decide +kernel
theorem dX9_takes_134 : decode cX9_takes 134 = .ok (.getfield 49, 3) := by decide +kernel
theorem dX9_takes_137 : decode cX9_takes 137 = .ok (.iload 12, 2) := by decide +kernel
theorem dX9_takes_139 : decode cX9_takes 139 = .ok (.laload, 1) := by decide +kernel
theorem dX9_takes_140 : decode cX9_takes 140 = .ok (.lcmp, 1) := by decide +kernel
theorem dX9_takes_141 : decode cX9_takes 141 = .ok (.ifCond .le 11, 3) := by decide +kernel
theorem dX9_takes_144 : decode cX9_takes 144 = .ok (.lload 10, 2) := by decide +kernel
theorem dX9_takes_146 : decode cX9_takes 146 = .ok (.lload 5, 2) := by decide +kernel
theorem dX9_takes_148 : decode cX9_takes 148 = .ok (.ladd, 1) := by decide +kernel
theorem dX9_takes_149 : decode cX9_takes 149 = .ok (.goto 10, 3) := by decide +kernel
theorem dX9_takes_152 : decode cX9_takes 152 = .ok (.aload_n 0, 1) := by decide +kernel
theorem dX9_takes_153 : decode cX9_takes 153 = .ok (.getfield 49, 3) := by decide +kernel
theorem dX9_takes_156 : decode cX9_takes 156 = .ok (.iload 12, 2) := by decide +kernel
theorem dX9_takes_158 : decode cX9_takes 158 = .ok (.laload, 1) := by decide +kernel
theorem dX9_takes_159 : decode cX9_takes 159 = .ok (.lastore, 1) := by decide +kernel
theorem dX9_takes_160 : decode cX9_takes 160 = .ok (.iinc 9 (-1), 3) := by decide +kernel
theorem dX9_takes_163 : decode cX9_takes 163 = .ok (.goto (-85), 3) := by decide +kernel
theorem dX9_takes_166 : decode cX9_takes 166 = .ok (.iinc 7 (-1), 3) := by decide +kernel
theorem dX9_takes_169 : decode cX9_takes 169 = .ok (.goto (-126), 3) := by decide +kernel
theorem dX9_takes_172 : decode cX9_takes 172 = .ok (.return_, 1) := by decide +kernel
set_option maxRecDepth 20000 in
theorem ggX9_bestOf_X9_findCandidates : GoodIn wsX9_bestOf wsX9_findCandidates := goodIn_r _ [9, 3, 10, 4, 11, 12, 13, 8, 14, 15, 16, 17, 18, 19, 20, 21, 22, 23, 24, 48, 49, 50, 51, 52, 53, 54, 55, 56, 57, 58, 59, 60, 61, 62, 63, 64, 65, 66, 67, 68, 69, 70, 71, 72, 73, 74] (by decide +kernel) (by decide +kernel)
set_option maxRecDepth 20000 in
theorem gX9_bestOf_X9_findCandidates : GoodIn wsX9_bestOf (wsV RX9 197 RX9 yX9_findCandidates wsX9_findCandidates) := goodIn_app (goodIn_of _ (by decide +kernel)) ggX9_bestOf_X9_findCandidates
set_option maxRecDepth 20000 in
theorem ggX9_bestOf_X9_of : GoodIn wsX9_bestOf wsX9_of := goodIn_r _ [14, 10, 48, 49, 50, 51, 52, 53, 54, 55, 56, 57, 58, 59, 60, 61, 62, 63, 64, 65, 66, 67, 68, 69, 70, 71, 72, 73, 74] (by decide +kernel) (by decide +kernel)
set_option maxRecDepth 20000 in
theorem gX9_bestOf_X9_of : GoodIn wsX9_bestOf (wsV RX9 68 RX9 yX9_of wsX9_of) := goodIn_app (goodIn_of _ (by decide +kernel)) ggX9_bestOf_X9_of
set_option maxRecDepth 20000 in
theorem ggX9_bestOf_X9_beginsCourse : GoodIn wsX9_bestOf wsX9_beginsCourse := goodIn_r _ [28, 1, 2, 48, 49, 50, 51, 52, 53, 54, 55, 56, 57, 58, 59, 60, 61, 62, 63, 64, 65, 66, 67, 68, 69, 70, 71, 72, 73, 74] (by decide +kernel) (by decide +kernel)
set_option maxRecDepth 20000 in
theorem gX9_bestOf_X9_beginsCourse : GoodIn wsX9_bestOf (wsV RX9 201 RX9 yX9_beginsCourse wsX9_beginsCourse) := goodIn_app (goodIn_of _ (by decide +kernel)) ggX9_bestOf_X9_beginsCourse
set_option maxRecDepth 20000 in
theorem ggX9_bestOf_X9_takes : GoodIn wsX9_bestOf wsX9_takes := goodIn_r _ [32, 4, 10, 1, 33, 34, 35, 8, 36, 37, 38, 39, 40, 11, 12, 13, 14, 41, 42, 43, 44, 45, 46, 47, 48, 49, 50, 51, 52, 53, 54, 55, 56, 57, 58, 59, 60, 61, 62, 63, 64, 65, 66, 67, 68, 69, 70, 71, 72, 73, 74] (by decide +kernel) (by decide +kernel)
set_option maxRecDepth 20000 in
theorem gX9_bestOf_X9_takes : GoodIn wsX9_bestOf (wsV RX9 204 RX9 yX9_takes wsX9_takes) := goodIn_app (goodIn_of _ (by decide +kernel)) ggX9_bestOf_X9_takes
theorem dX9_bestOf_0 : decode cX9_bestOf 0 = .ok (.aload_n 0, 1) := by decide +kernel
theorem dX9_bestOf_1 : decode cX9_bestOf 1 = .ok (.iload_n 1, 1) := by decide +kernel
theorem dX9_bestOf_2 : decode cX9_bestOf 2 = .ok (.iload_n 3, 1) := by decide +kernel
theorem dX9_bestOf_3 : decode cX9_bestOf 3 = .ok (.invokevirtual 197, 3) := by decide +kernel
theorem dX9_bestOf_6 : decode cX9_bestOf 6 = .ok (.iconst 0, 1) := by decide +kernel
theorem dX9_bestOf_7 : decode cX9_bestOf 7 = .ok (.istore 4, 2) := by decide +kernel
theorem dX9_bestOf_9 : decode cX9_bestOf 9 = .ok (.iload 4, 2) := by decide +kernel
theorem dX9_bestOf_11 : decode cX9_bestOf 11 = .ok (.sipush 1510, 3) := by decide +kernel
theorem dX9_bestOf_14 : decode cX9_bestOf 14 = .ok (.if_icmp .ge 28, 3) := by decide +kernel
theorem dX9_bestOf_17 : decode cX9_bestOf 17 = .ok (.aload_n 0, 1) := by decide +kernel
theorem dX9_bestOf_18 : decode cX9_bestOf 18 = .ok (.getfield 49, 3) := by decide +kernel
theorem dX9_bestOf_21 : decode cX9_bestOf 21 = .ok (.iload 4, 2) := by decide +kernel
theorem dX9_bestOf_23 : decode cX9_bestOf 23 = .ok (.iload 4, 2) := by decide +kernel
theorem dX9_bestOf_25 : decode cX9_bestOf 25 = .ok (.ifCond .ne 7, 3) := by decide +kernel
theorem dX9_bestOf_28 : decode cX9_bestOf 28 = .ok (.lconst 0, 1) := by decide +kernel
theorem dX9_bestOf_29 : decode cX9_bestOf 29 = .ok (.goto 6, 3) := by decide +kernel
theorem dX9_bestOf_32 : decode cX9_bestOf 32 = .ok (.ldc2_w 195, 3) := by decide +kernel
theorem dX9_bestOf_35 : decode cX9_bestOf 35 = .ok (.lastore, 1) := by decide +kernel
theorem dX9_bestOf_36 : decode cX9_bestOf 36 = .ok (.iinc 4 1, 3) := by decide +kernel
theorem dX9_bestOf_39 : decode cX9_bestOf 39 = .ok (.goto (-30), 3) := by decide +kernel
theorem dX9_bestOf_42 : decode cX9_bestOf 42 = .ok (.iconst 0, 1) := by decide +kernel
theorem dX9_bestOf_43 : decode cX9_bestOf 43 = .ok (.istore 4, 2) := by decide +kernel
theorem dX9_bestOf_45 : decode cX9_bestOf 45 = .ok (.iload 4, 2) := by decide +kernel
theorem dX9_bestOf_47 : decode cX9_bestOf 47 = .ok (.aload_n 0, 1) := by decide +kernel
theorem dX9_bestOf_48 : decode cX9_bestOf 48 = .ok (.getfield 192, 3) := by decide +kernel
theorem dX9_bestOf_51 : decode cX9_bestOf 51 = .ok (.if_icmp .ge 54, 3) := by decide +kernel
theorem dX9_bestOf_54 : decode cX9_bestOf 54 = .ok (.iload 4, 2) := by decide +kernel
theorem dX9_bestOf_56 : decode cX9_bestOf 56 = .ok (.ifCond .le 36, 3) := by decide +kernel
theorem dX9_bestOf_59 : decode cX9_bestOf 59 = .ok (.aload_n 0, 1) := by decide +kernel
theorem dX9_bestOf_60 : decode cX9_bestOf 60 = .ok (.aload_n 0, 1) := by decide +kernel
theorem dX9_bestOf_61 : decode cX9_bestOf 61 = .ok (.getfield 53, 3) := by decide +kernel
theorem dX9_bestOf_64 : decode cX9_bestOf 64 = .ok (.iload 4, 2) := by decide +kernel
theorem dX9_bestOf_66 : decode cX9_bestOf 66 = .ok (.iaload, 1) := by decide +kernel
theorem dX9_bestOf_67 : decode cX9_bestOf 67 = .ok (.iconst 0, 1) := by decide +kernel
theorem dX9_bestOf_68 : decode cX9_bestOf 68 = .ok (.invokevirtual 68, 3) := by decide +kernel
theorem dX9_bestOf_71 : decode cX9_bestOf 71 = .ok (.aload_n 0, 1) := by decide +kernel
theorem dX9_bestOf_72 : decode cX9_bestOf 72 = .ok (.aload_n 0, 1) := by decide +kernel
theorem dX9_bestOf_73 : decode cX9_bestOf 73 = .ok (.getfield 53, 3) := by decide +kernel
theorem dX9_bestOf_76 : decode cX9_bestOf 76 = .ok (.iload 4, 2) := by decide +kernel
theorem dX9_bestOf_78 : decode cX9_bestOf 78 = .ok (.iconst 1, 1) := by decide +kernel
theorem dX9_bestOf_79 : decode cX9_bestOf 79 = .ok (.isub, 1) := by decide +kernel
theorem dX9_bestOf_80 : decode cX9_bestOf 80 = .ok (.iaload, 1) := by decide +kernel
theorem dX9_bestOf_81 : decode cX9_bestOf 81 = .ok (.iconst 0, 1) := by decide +kernel
theorem dX9_bestOf_82 : decode cX9_bestOf 82 = .ok (.invokevirtual 68, 3) := by decide +kernel
theorem dX9_bestOf_85 : decode cX9_bestOf 85 = .ok (.if_icmp .eq 7, 3) := by decide +kernel
theorem dX9_bestOf_88 : decode cX9_bestOf 88 = .ok (.aload_n 0, 1) := by decide +kernel
theorem dX9_bestOf_89 : decode cX9_bestOf 89 = .ok (.invokevirtual 201, 3) := by decide +kernel
theorem dX9_bestOf_92 : decode cX9_bestOf 92 = .ok (.aload_n 0, 1) := by decide +kernel
theorem dX9_bestOf_93 : decode cX9_bestOf 93 = .ok (.iload 4, 2) := by decide +kernel
theorem dX9_bestOf_95 : decode cX9_bestOf 95 = .ok (.iload_n 3, 1) := by decide +kernel
theorem dX9_bestOf_96 : decode cX9_bestOf 96 = .ok (.invokevirtual 204, 3) := by decide +kernel
theorem dX9_bestOf_99 : decode cX9_bestOf 99 = .ok (.iinc 4 1, 3) := by decide +kernel
theorem dX9_bestOf_102 : decode cX9_bestOf 102 = .ok (.goto (-57), 3) := by decide +kernel
theorem dX9_bestOf_105 : decode cX9_bestOf 105 = .ok (.aload_n 0, 1) := by decide +kernel
theorem dX9_bestOf_106 : decode cX9_bestOf 106 = .ok (.invokevirtual 201, 3) := by decide +kernel
theorem dX9_bestOf_109 : decode cX9_bestOf 109 = .ok (.aload_n 0, 1) := by decide +kernel
theorem dX9_bestOf_110 : decode cX9_bestOf 110 = .ok (.getfield 49, 3) := by decide +kernel
theorem dX9_bestOf_113 : decode cX9_bestOf 113 = .ok (.iload_n 2, 1) := by decide +kernel
theorem dX9_bestOf_114 : decode cX9_bestOf 114 = .ok (.laload, 1) := by decide +kernel
theorem dX9_bestOf_115 : decode cX9_bestOf 115 = .ok (.lreturn, 1) := by decide +kernel
theorem dX9_pricesOf_0 : decode cX9_pricesOf 0 = .ok (.lload_n 0, 1) := by decide +kernel
theorem dX9_pricesOf_1 : decode cX9_pricesOf 1 = .ok (.ldc2_w 207, 3) := by decide +kernel
theorem dX9_pricesOf_4 : decode cX9_pricesOf 4 = .ok (.ladd, 1) := by decide +kernel
theorem dX9_pricesOf_5 : decode cX9_pricesOf 5 = .ok (.bipush 20, 2) := by decide +kernel
theorem dX9_pricesOf_7 : decode cX9_pricesOf 7 = .ok (.lshr, 1) := by decide +kernel
theorem dX9_pricesOf_8 : decode cX9_pricesOf 8 = .ok (.l2i, 1) := by decide +kernel
theorem dX9_pricesOf_9 : decode cX9_pricesOf 9 = .ok (.ireturn, 1) := by decide +kernel
set_option maxRecDepth 20000 in
theorem ggX9_setOf_X9_pricesOf : GoodIn wsX9_setOf wsX9_pricesOf := goodIn_r _ [6, 7] (by decide +kernel) (by decide +kernel)
set_option maxRecDepth 20000 in
theorem gX9_setOf_X9_pricesOf : GoodIn wsX9_setOf (va_wsS RX9 209 yX9_pricesOf wsX9_pricesOf) := goodIn_app (goodIn_of _ (by decide +kernel)) ggX9_setOf_X9_pricesOf
set_option maxRecDepth 20000 in
theorem ggX9_setOf_X9_has : GoodIn wsX9_setOf wsX9_has := goodIn_r _ [10] (by decide +kernel) (by decide +kernel)
set_option maxRecDepth 20000 in
theorem gX9_setOf_X9_has : GoodIn wsX9_setOf (va_wsS RX9 72 yX9_has wsX9_has) := goodIn_app (goodIn_of _ (by decide +kernel)) ggX9_setOf_X9_has
theorem dX9_setOf_0 : decode cX9_setOf 0 = .ok (.lload_n 1, 1) := by decide +kernel
theorem dX9_setOf_1 : decode cX9_setOf 1 = .ok (.invokestatic 209, 3) := by decide +kernel
theorem dX9_setOf_4 : decode cX9_setOf 4 = .ok (.i2l, 1) := by decide +kernel
theorem dX9_setOf_5 : decode cX9_setOf 5 = .ok (.bipush 20, 2) := by decide +kernel
theorem dX9_setOf_7 : decode cX9_setOf 7 = .ok (.lshl, 1) := by decide +kernel
theorem dX9_setOf_8 : decode cX9_setOf 8 = .ok (.lload_n 1, 1) := by decide +kernel
theorem dX9_setOf_9 : decode cX9_setOf 9 = .ok (.lsub, 1) := by decide +kernel
theorem dX9_setOf_10 : decode cX9_setOf 10 = .ok (.l2i, 1) := by decide +kernel
theorem dX9_setOf_11 : decode cX9_setOf 11 = .ok (.istore_n 3, 1) := by decide +kernel
theorem dX9_setOf_12 : decode cX9_setOf 12 = .ok (.iconst 0, 1) := by decide +kernel
theorem dX9_setOf_13 : decode cX9_setOf 13 = .ok (.istore 4, 2) := by decide +kernel
theorem dX9_setOf_15 : decode cX9_setOf 15 = .ok (.iconst 0, 1) := by decide +kernel
theorem dX9_setOf_16 : decode cX9_setOf 16 = .ok (.istore 5, 2) := by decide +kernel
theorem dX9_setOf_18 : decode cX9_setOf 18 = .ok (.iload 5, 2) := by decide +kernel
theorem dX9_setOf_20 : decode cX9_setOf 20 = .ok (.aload_n 0, 1) := by decide +kernel
theorem dX9_setOf_21 : decode cX9_setOf 21 = .ok (.getfield 192, 3) := by decide +kernel
theorem dX9_setOf_24 : decode cX9_setOf 24 = .ok (.if_icmp .ge 36, 3) := by decide +kernel
theorem dX9_setOf_27 : decode cX9_setOf 27 = .ok (.iload 4, 2) := by decide +kernel
theorem dX9_setOf_29 : decode cX9_setOf 29 = .ok (.iload_n 3, 1) := by decide +kernel
theorem dX9_setOf_30 : decode cX9_setOf 30 = .ok (.iload 5, 2) := by decide +kernel
theorem dX9_setOf_32 : decode cX9_setOf 32 = .ok (.invokestatic 72, 3) := by decide +kernel
theorem dX9_setOf_35 : decode cX9_setOf 35 = .ok (.ifCond .eq 15, 3) := by decide +kernel
theorem dX9_setOf_38 : decode cX9_setOf 38 = .ok (.iconst 1, 1) := by decide +kernel
theorem dX9_setOf_39 : decode cX9_setOf 39 = .ok (.aload_n 0, 1) := by decide +kernel
theorem dX9_setOf_40 : decode cX9_setOf 40 = .ok (.getfield 53, 3) := by decide +kernel
theorem dX9_setOf_43 : decode cX9_setOf 43 = .ok (.iload 5, 2) := by decide +kernel
theorem dX9_setOf_45 : decode cX9_setOf 45 = .ok (.iaload, 1) := by decide +kernel
theorem dX9_setOf_46 : decode cX9_setOf 46 = .ok (.ishl, 1) := by decide +kernel
theorem dX9_setOf_47 : decode cX9_setOf 47 = .ok (.goto 4, 3) := by decide +kernel
theorem dX9_setOf_50 : decode cX9_setOf 50 = .ok (.iconst 0, 1) := by decide +kernel
theorem dX9_setOf_51 : decode cX9_setOf 51 = .ok (.ior, 1) := by decide +kernel
theorem dX9_setOf_52 : decode cX9_setOf 52 = .ok (.istore 4, 2) := by decide +kernel
theorem dX9_setOf_54 : decode cX9_setOf 54 = .ok (.iinc 5 1, 3) := by decide +kernel
theorem dX9_setOf_57 : decode cX9_setOf 57 = .ok (.goto (-39), 3) := by decide +kernel
theorem dX9_setOf_60 : decode cX9_setOf 60 = .ok (.iload 4, 2) := by decide +kernel
theorem dX9_setOf_62 : decode cX9_setOf 62 = .ok (.ireturn, 1) := by decide +kernel
set_option maxRecDepth 20000 in
theorem ggX9_isAsked_X9_in : GoodIn wsX9_isAsked wsX9_in := goodIn_r _ [4] (by decide +kernel) (by decide +kernel)
set_option maxRecDepth 20000 in
theorem gX9_isAsked_X9_in : GoodIn wsX9_isAsked (va_wsS RX9 64 yX9_in wsX9_in) := goodIn_app (goodIn_of _ (by decide +kernel)) ggX9_isAsked_X9_in
theorem dX9_isAsked_0 : decode cX9_isAsked 0 = .ok (.iload_n 0, 1) := by decide +kernel
theorem dX9_isAsked_1 : decode cX9_isAsked 1 = .ok (.iconst 0, 1) := by decide +kernel
theorem dX9_isAsked_2 : decode cX9_isAsked 2 = .ok (.iconst 1, 1) := by decide +kernel
theorem dX9_isAsked_3 : decode cX9_isAsked 3 = .ok (.invokestatic 64, 3) := by decide +kernel
theorem dX9_isAsked_6 : decode cX9_isAsked 6 = .ok (.ifCond .eq 27, 3) := by decide +kernel
theorem dX9_isAsked_9 : decode cX9_isAsked 9 = .ok (.iload_n 1, 1) := by decide +kernel
theorem dX9_isAsked_10 : decode cX9_isAsked 10 = .ok (.iconst 0, 1) := by decide +kernel
theorem dX9_isAsked_11 : decode cX9_isAsked 11 = .ok (.sipush 150, 3) := by decide +kernel
theorem dX9_isAsked_14 : decode cX9_isAsked 14 = .ok (.invokestatic 64, 3) := by decide +kernel
theorem dX9_isAsked_17 : decode cX9_isAsked 17 = .ok (.ifCond .eq 16, 3) := by decide +kernel
theorem dX9_isAsked_20 : decode cX9_isAsked 20 = .ok (.iload_n 2, 1) := by decide +kernel
theorem dX9_isAsked_21 : decode cX9_isAsked 21 = .ok (.iconst 1, 1) := by decide +kernel
theorem dX9_isAsked_22 : decode cX9_isAsked 22 = .ok (.iconst 4, 1) := by decide +kernel
theorem dX9_isAsked_23 : decode cX9_isAsked 23 = .ok (.invokestatic 64, 3) := by decide +kernel
theorem dX9_isAsked_26 : decode cX9_isAsked 26 = .ok (.ifCond .eq 7, 3) := by decide +kernel
theorem dX9_isAsked_29 : decode cX9_isAsked 29 = .ok (.iconst 1, 1) := by decide +kernel
theorem dX9_isAsked_30 : decode cX9_isAsked 30 = .ok (.goto 4, 3) := by decide +kernel
theorem dX9_isAsked_33 : decode cX9_isAsked 33 = .ok (.iconst 0, 1) := by decide +kernel
theorem dX9_isAsked_34 : decode cX9_isAsked 34 = .ok (.ireturn, 1) := by decide +kernel
set_option maxRecDepth 20000 in
theorem ggX9_choose_X9_isAsked : GoodIn wsX9_choose wsX9_isAsked := goodIn_r _ [7, 8, 9, 6, 10] (by decide +kernel) (by decide +kernel)
set_option maxRecDepth 20000 in
theorem gX9_choose_X9_isAsked : GoodIn wsX9_choose (va_wsS RX9 213 yX9_isAsked wsX9_isAsked) := goodIn_app (goodIn_of _ (by decide +kernel)) ggX9_choose_X9_isAsked
set_option maxRecDepth 20000 in
theorem ggX9_choose_X9_bestOf : GoodIn wsX9_choose wsX9_bestOf := goodIn_r _ [14, 15, 16, 1, 3, 17, 18, 19, 6, 20, 2, 21, 22, 23, 24, 25, 26, 27, 28, 29, 30, 31, 32, 33, 34, 35, 36, 37, 38, 39, 40, 41, 42, 43, 44, 45, 46, 47, 48, 49, 50, 51, 52, 53, 54, 55, 56, 57, 75, 76, 77, 78, 79, 80, 81, 82, 83, 84, 85, 86, 87, 88, 89, 90, 91, 92, 93, 94, 95, 96, 97, 98, 99, 100, 101] (by decide +kernel) (by decide +kernel)
set_option maxRecDepth 20000 in
theorem gX9_choose_X9_bestOf : GoodIn wsX9_choose (wsV RX9 216 RX9 yX9_bestOf wsX9_bestOf) := goodIn_app (goodIn_of _ (by decide +kernel)) ggX9_choose_X9_bestOf
set_option maxRecDepth 20000 in
theorem ggX9_choose_X9_keep : GoodIn wsX9_choose wsX9_keep := goodIn_r _ [61, 62, 63, 2, 64, 65, 6, 66, 75, 76, 77, 78, 79, 80, 81, 82, 83, 84, 85, 86, 87, 88, 89, 90, 91, 92, 93, 94, 95, 96, 97, 98, 99, 100, 101] (by decide +kernel) (by decide +kernel)
set_option maxRecDepth 20000 in
theorem gX9_choose_X9_keep : GoodIn wsX9_choose (wsV RX9 153 RX9 yX9_keep wsX9_keep) := goodIn_app (goodIn_of _ (by decide +kernel)) ggX9_choose_X9_keep
set_option maxRecDepth 20000 in
theorem ggX9_choose_X9_setOf : GoodIn wsX9_choose wsX9_setOf := goodIn_r _ [70, 1, 3, 71, 72, 6, 73, 74, 29, 30, 31, 75, 76, 77, 78, 79, 80, 81, 82, 83, 84, 85, 86, 87, 88, 89, 90, 91, 92, 93, 94, 95, 96, 97, 98, 99, 100, 101] (by decide +kernel) (by decide +kernel)
set_option maxRecDepth 20000 in
theorem gX9_choose_X9_setOf : GoodIn wsX9_choose (wsV RX9 220 RX9 yX9_setOf wsX9_setOf) := goodIn_app (goodIn_of _ (by decide +kernel)) ggX9_choose_X9_setOf
set_option maxRecDepth 20000 in
theorem ggX9_choose_X9_pricesOf : GoodIn wsX9_choose wsX9_pricesOf := goodIn_r _ [73, 74] (by decide +kernel) (by decide +kernel)
set_option maxRecDepth 20000 in
theorem gX9_choose_X9_pricesOf : GoodIn wsX9_choose (va_wsS RX9 209 yX9_pricesOf wsX9_pricesOf) := goodIn_app (goodIn_of _ (by decide +kernel)) ggX9_choose_X9_pricesOf
theorem dX9_choose_0 : decode cX9_choose 0 = .ok (.iload_n 1, 1) := by decide +kernel
theorem dX9_choose_1 : decode cX9_choose 1 = .ok (.iload_n 2, 1) := by decide +kernel
theorem dX9_choose_2 : decode cX9_choose 2 = .ok (.iload_n 3, 1) := by decide +kernel
theorem dX9_choose_3 : decode cX9_choose 3 = .ok (.invokestatic 213, 3) := by decide +kernel
theorem dX9_choose_6 : decode cX9_choose 6 = .ok (.ifCond .ne 5, 3) := by decide +kernel
theorem dX9_choose_9 : decode cX9_choose 9 = .ok (.iconst (-1), 1) := by decide +kernel
theorem dX9_choose_10 : decode cX9_choose 10 = .ok (.ireturn, 1) := by decide +kernel
theorem dX9_choose_11 : decode cX9_choose 11 = .ok (.aload_n 0, 1) := by decide +kernel
theorem dX9_choose_12 : decode cX9_choose 12 = .ok (.iload_n 1, 1) := by decide +kernel
theorem dX9_choose_13 : decode cX9_choose 13 = .ok (.iload_n 2, 1) := by decide +kernel
theorem dX9_choose_14 : decode cX9_choose 14 = .ok (.iload_n 3, 1) := by decide +kernel
theorem dX9_choose_15 : decode cX9_choose 15 = .ok (.invokevirtual 216, 3) := by decide +kernel
theorem dX9_choose_18 : decode cX9_choose 18 = .ok (.lstore 4, 2) := by decide +kernel
theorem dX9_choose_20 : decode cX9_choose 20 = .ok (.lload 4, 2) := by decide +kernel
theorem dX9_choose_22 : decode cX9_choose 22 = .ok (.lconst 0, 1) := by decide +kernel
theorem dX9_choose_23 : decode cX9_choose 23 = .ok (.lcmp, 1) := by decide +kernel
theorem dX9_choose_24 : decode cX9_choose 24 = .ok (.ifCond .ge 6, 3) := by decide +kernel
theorem dX9_choose_27 : decode cX9_choose 27 = .ok (.bipush (-2), 2) := by decide +kernel
theorem dX9_choose_29 : decode cX9_choose 29 = .ok (.ireturn, 1) := by decide +kernel
theorem dX9_choose_30 : decode cX9_choose 30 = .ok (.aload_n 0, 1) := by decide +kernel
theorem dX9_choose_31 : decode cX9_choose 31 = .ok (.invokevirtual 153, 3) := by decide +kernel
theorem dX9_choose_34 : decode cX9_choose 34 = .ok (.aload_n 0, 1) := by decide +kernel
theorem dX9_choose_35 : decode cX9_choose 35 = .ok (.lload 4, 2) := by decide +kernel
theorem dX9_choose_37 : decode cX9_choose 37 = .ok (.invokevirtual 220, 3) := by decide +kernel
theorem dX9_choose_40 : decode cX9_choose 40 = .ok (.istore 6, 2) := by decide +kernel
theorem dX9_choose_42 : decode cX9_choose 42 = .ok (.iconst 0, 1) := by decide +kernel
theorem dX9_choose_43 : decode cX9_choose 43 = .ok (.istore 7, 2) := by decide +kernel
theorem dX9_choose_45 : decode cX9_choose 45 = .ok (.iload 7, 2) := by decide +kernel
theorem dX9_choose_47 : decode cX9_choose 47 = .ok (.aload_n 0, 1) := by decide +kernel
theorem dX9_choose_48 : decode cX9_choose 48 = .ok (.getfield 192, 3) := by decide +kernel
theorem dX9_choose_51 : decode cX9_choose 51 = .ok (.if_icmp .ge 41, 3) := by decide +kernel
theorem dX9_choose_54 : decode cX9_choose 54 = .ok (.aload_n 0, 1) := by decide +kernel
theorem dX9_choose_55 : decode cX9_choose 55 = .ok (.getfield 7, 3) := by decide +kernel
theorem dX9_choose_58 : decode cX9_choose 58 = .ok (.iconst 1, 1) := by decide +kernel
theorem dX9_choose_59 : decode cX9_choose 59 = .ok (.bipush 7, 2) := by decide +kernel
theorem dX9_choose_61 : decode cX9_choose 61 = .ok (.aload_n 0, 1) := by decide +kernel
theorem dX9_choose_62 : decode cX9_choose 62 = .ok (.getfield 53, 3) := by decide +kernel
theorem dX9_choose_65 : decode cX9_choose 65 = .ok (.iload 7, 2) := by decide +kernel
theorem dX9_choose_67 : decode cX9_choose 67 = .ok (.iaload, 1) := by decide +kernel
theorem dX9_choose_68 : decode cX9_choose 68 = .ok (.imul, 1) := by decide +kernel
theorem dX9_choose_69 : decode cX9_choose 69 = .ok (.iadd, 1) := by decide +kernel
theorem dX9_choose_70 : decode cX9_choose 70 = .ok (.bipush 6, 2) := by decide +kernel
theorem dX9_choose_72 : decode cX9_choose 72 = .ok (.iadd, 1) := by decide +kernel
theorem dX9_choose_73 : decode cX9_choose 73 = .ok (.iload 6, 2) := by decide +kernel
theorem dX9_choose_75 : decode cX9_choose 75 = .ok (.aload_n 0, 1) := by decide +kernel
theorem dX9_choose_76 : decode cX9_choose 76 = .ok (.getfield 53, 3) := by decide +kernel
theorem dX9_choose_79 : decode cX9_choose 79 = .ok (.iload 7, 2) := by decide +kernel
theorem dX9_choose_81 : decode cX9_choose 81 = .ok (.iaload, 1) := by decide +kernel
theorem dX9_choose_82 : decode cX9_choose 82 = .ok (.ishr, 1) := by decide +kernel
theorem dX9_choose_83 : decode cX9_choose 83 = .ok (.iconst 1, 1) := by decide +kernel
theorem dX9_choose_84 : decode cX9_choose 84 = .ok (.iand, 1) := by decide +kernel
theorem dX9_choose_85 : decode cX9_choose 85 = .ok (.iastore, 1) := by decide +kernel
theorem dX9_choose_86 : decode cX9_choose 86 = .ok (.iinc 7 1, 3) := by decide +kernel
theorem dX9_choose_89 : decode cX9_choose 89 = .ok (.goto (-44), 3) := by decide +kernel
theorem dX9_choose_92 : decode cX9_choose 92 = .ok (.lload 4, 2) := by decide +kernel
theorem dX9_choose_94 : decode cX9_choose 94 = .ok (.invokestatic 209, 3) := by decide +kernel
theorem dX9_choose_97 : decode cX9_choose 97 = .ok (.ireturn, 1) := by decide +kernel
set_option maxRecDepth 20000 in
theorem ggX9_take_X9_in : GoodIn wsX9_take wsX9_in := goodIn_r _ [5] (by decide +kernel) (by decide +kernel)
set_option maxRecDepth 20000 in
theorem gX9_take_X9_in : GoodIn wsX9_take (va_wsS RX9 64 yX9_in wsX9_in) := goodIn_app (goodIn_of _ (by decide +kernel)) ggX9_take_X9_in
set_option maxRecDepth 20000 in
theorem ggX9_take_X9_keep : GoodIn wsX9_take wsX9_keep := goodIn_r _ [9, 10, 11, 1, 12, 13, 4, 14, 45, 46, 47, 48, 49, 50, 51, 52, 53, 54, 55, 56, 57, 58, 59, 60, 61, 62, 63, 64, 65, 66, 67, 68, 69, 70, 71] (by decide +kernel) (by decide +kernel)
set_option maxRecDepth 20000 in
theorem gX9_take_X9_keep : GoodIn wsX9_take (wsV RX9 153 RX9 yX9_keep wsX9_keep) := goodIn_app (goodIn_of _ (by decide +kernel)) ggX9_take_X9_keep
set_option maxRecDepth 20000 in
theorem ggX9_take_X9_bring : GoodIn wsX9_take wsX9_bring := goodIn_r _ [14] (by decide +kernel) (by decide +kernel)
set_option maxRecDepth 20000 in
theorem gX9_take_X9_bring : GoodIn wsX9_take (va_wsS RX9 60 yX9_bring wsX9_bring) := goodIn_app (goodIn_of _ (by decide +kernel)) ggX9_take_X9_bring
set_option maxRecDepth 20000 in
theorem ggX9_take_X9_printedNow : GoodIn wsX9_take wsX9_printedNow := goodIn_r _ [18, 1, 19, 20, 21, 4, 22, 23, 24, 25, 26, 27, 28, 29, 30, 31, 32, 33, 34, 35, 36, 37, 38, 39, 40, 41, 45, 46, 47, 48, 49, 50, 51, 52, 53, 54, 55, 56, 57, 58, 59, 60, 61, 62, 63, 64, 65, 66, 67, 68, 69, 70, 71] (by decide +kernel) (by decide +kernel)
set_option maxRecDepth 20000 in
theorem gX9_take_X9_printedNow : GoodIn wsX9_take (wsV RX9 113 RX9 yX9_printedNow wsX9_printedNow) := goodIn_app (goodIn_of _ (by decide +kernel)) ggX9_take_X9_printedNow
set_option maxRecDepth 20000 in
theorem ggX9_take_X9_size : GoodIn wsX9_take wsX9_size := goodIn_r _ [44] (by decide +kernel) (by decide +kernel)
set_option maxRecDepth 20000 in
theorem gX9_take_X9_size : GoodIn wsX9_take (va_wsS RX9 90 yX9_size wsX9_size) := goodIn_app (goodIn_of _ (by decide +kernel)) ggX9_take_X9_size
theorem dX9_take_0 : decode cX9_take 0 = .ok (.iload_n 1, 1) := by decide +kernel
theorem dX9_take_1 : decode cX9_take 1 = .ok (.iconst 0, 1) := by decide +kernel
theorem dX9_take_2 : decode cX9_take 2 = .ok (.iconst 1, 1) := by decide +kernel
theorem dX9_take_3 : decode cX9_take 3 = .ok (.invokestatic 64, 3) := by decide +kernel
theorem dX9_take_6 : decode cX9_take 6 = .ok (.ifCond .ne 5, 3) := by decide +kernel
theorem dX9_take_9 : decode cX9_take 9 = .ok (.iconst (-1), 1) := by decide +kernel
theorem dX9_take_10 : decode cX9_take 10 = .ok (.ireturn, 1) := by decide +kernel
theorem dX9_take_11 : decode cX9_take 11 = .ok (.aload_n 0, 1) := by decide +kernel
theorem dX9_take_12 : decode cX9_take 12 = .ok (.invokevirtual 153, 3) := by decide +kernel
theorem dX9_take_15 : decode cX9_take 15 = .ok (.sipush 151, 3) := by decide +kernel
theorem dX9_take_18 : decode cX9_take 18 = .ok (.sipush 152, 3) := by decide +kernel
theorem dX9_take_21 : decode cX9_take 21 = .ok (.iload_n 1, 1) := by decide +kernel
theorem dX9_take_22 : decode cX9_take 22 = .ok (.imul, 1) := by decide +kernel
theorem dX9_take_23 : decode cX9_take 23 = .ok (.iadd, 1) := by decide +kernel
theorem dX9_take_24 : decode cX9_take 24 = .ok (.istore_n 2, 1) := by decide +kernel
theorem dX9_take_25 : decode cX9_take 25 = .ok (.aload_n 0, 1) := by decide +kernel
theorem dX9_take_26 : decode cX9_take 26 = .ok (.getfield 7, 3) := by decide +kernel
theorem dX9_take_29 : decode cX9_take 29 = .ok (.iload_n 2, 1) := by decide +kernel
theorem dX9_take_30 : decode cX9_take 30 = .ok (.iconst 1, 1) := by decide +kernel
theorem dX9_take_31 : decode cX9_take 31 = .ok (.iastore, 1) := by decide +kernel
theorem dX9_take_32 : decode cX9_take 32 = .ok (.aload_n 0, 1) := by decide +kernel
theorem dX9_take_33 : decode cX9_take 33 = .ok (.getfield 7, 3) := by decide +kernel
theorem dX9_take_36 : decode cX9_take 36 = .ok (.iconst 0, 1) := by decide +kernel
theorem dX9_take_37 : decode cX9_take 37 = .ok (.aload_n 0, 1) := by decide +kernel
theorem dX9_take_38 : decode cX9_take 38 = .ok (.getfield 7, 3) := by decide +kernel
theorem dX9_take_41 : decode cX9_take 41 = .ok (.iload_n 2, 1) := by decide +kernel
theorem dX9_take_42 : decode cX9_take 42 = .ok (.iconst 1, 1) := by decide +kernel
theorem dX9_take_43 : decode cX9_take 43 = .ok (.iadd, 1) := by decide +kernel
theorem dX9_take_44 : decode cX9_take 44 = .ok (.sipush 151, 3) := by decide +kernel
theorem dX9_take_47 : decode cX9_take 47 = .ok (.invokestatic 60, 3) := by decide +kernel
theorem dX9_take_50 : decode cX9_take 50 = .ok (.aload_n 0, 1) := by decide +kernel
theorem dX9_take_51 : decode cX9_take 51 = .ok (.invokevirtual 113, 3) := by decide +kernel
theorem dX9_take_54 : decode cX9_take 54 = .ok (.invokestatic 90, 3) := by decide +kernel
theorem dX9_take_57 : decode cX9_take 57 = .ok (.ireturn, 1) := by decide +kernel
set_option maxRecDepth 20000 in
theorem ggX9_restore_X9_in : GoodIn wsX9_restore wsX9_in := goodIn_r _ [5] (by decide +kernel) (by decide +kernel)
set_option maxRecDepth 20000 in
theorem gX9_restore_X9_in : GoodIn wsX9_restore (va_wsS RX9 64 yX9_in wsX9_in) := goodIn_app (goodIn_of _ (by decide +kernel)) ggX9_restore_X9_in
set_option maxRecDepth 20000 in
theorem ggX9_restore_X9_keep : GoodIn wsX9_restore wsX9_keep := goodIn_r _ [9, 10, 11, 1, 12, 13, 4, 14, 45, 46, 47, 48, 49, 50, 51, 52, 53, 54, 55, 56, 57, 58, 59, 60, 61, 62, 63, 64, 65, 66, 67, 68, 69, 70, 71] (by decide +kernel) (by decide +kernel)
set_option maxRecDepth 20000 in
theorem gX9_restore_X9_keep : GoodIn wsX9_restore (wsV RX9 153 RX9 yX9_keep wsX9_keep) := goodIn_app (goodIn_of _ (by decide +kernel)) ggX9_restore_X9_keep
set_option maxRecDepth 20000 in
theorem ggX9_restore_X9_bring : GoodIn wsX9_restore wsX9_bring := goodIn_r _ [14] (by decide +kernel) (by decide +kernel)
set_option maxRecDepth 20000 in
theorem gX9_restore_X9_bring : GoodIn wsX9_restore (va_wsS RX9 60 yX9_bring wsX9_bring) := goodIn_app (goodIn_of _ (by decide +kernel)) ggX9_restore_X9_bring
set_option maxRecDepth 20000 in
theorem ggX9_restore_X9_printedNow : GoodIn wsX9_restore wsX9_printedNow := goodIn_r _ [18, 1, 19, 20, 21, 4, 22, 23, 24, 25, 26, 27, 28, 29, 30, 31, 32, 33, 34, 35, 36, 37, 38, 39, 40, 41, 45, 46, 47, 48, 49, 50, 51, 52, 53, 54, 55, 56, 57, 58, 59, 60, 61, 62, 63, 64, 65, 66, 67, 68, 69, 70, 71] (by decide +kernel) (by decide +kernel)
set_option maxRecDepth 20000 in
theorem gX9_restore_X9_printedNow : GoodIn wsX9_restore (wsV RX9 113 RX9 yX9_printedNow wsX9_printedNow) := goodIn_app (goodIn_of _ (by decide +kernel)) ggX9_restore_X9_printedNow
set_option maxRecDepth 20000 in
theorem ggX9_restore_X9_size : GoodIn wsX9_restore wsX9_size := goodIn_r _ [44] (by decide +kernel) (by decide +kernel)
set_option maxRecDepth 20000 in
theorem gX9_restore_X9_size : GoodIn wsX9_restore (va_wsS RX9 90 yX9_size wsX9_size) := goodIn_app (goodIn_of _ (by decide +kernel)) ggX9_restore_X9_size
theorem dX9_restore_0 : decode cX9_restore 0 = .ok (.iload_n 1, 1) := by decide +kernel
theorem dX9_restore_1 : decode cX9_restore 1 = .ok (.iconst 0, 1) := by decide +kernel
theorem dX9_restore_2 : decode cX9_restore 2 = .ok (.iconst 1, 1) := by decide +kernel
theorem dX9_restore_3 : decode cX9_restore 3 = .ok (.invokestatic 64, 3) := by decide +kernel
theorem dX9_restore_6 : decode cX9_restore 6 = .ok (.ifCond .ne 5, 3) := by decide +kernel
theorem dX9_restore_9 : decode cX9_restore 9 = .ok (.iconst (-1), 1) := by decide +kernel
theorem dX9_restore_10 : decode cX9_restore 10 = .ok (.ireturn, 1) := by decide +kernel
theorem dX9_restore_11 : decode cX9_restore 11 = .ok (.sipush 151, 3) := by decide +kernel
theorem dX9_restore_14 : decode cX9_restore 14 = .ok (.sipush 152, 3) := by decide +kernel
theorem dX9_restore_17 : decode cX9_restore 17 = .ok (.iload_n 1, 1) := by decide +kernel
theorem dX9_restore_18 : decode cX9_restore 18 = .ok (.imul, 1) := by decide +kernel
theorem dX9_restore_19 : decode cX9_restore 19 = .ok (.iadd, 1) := by decide +kernel
theorem dX9_restore_20 : decode cX9_restore 20 = .ok (.istore_n 2, 1) := by decide +kernel
theorem dX9_restore_21 : decode cX9_restore 21 = .ok (.aload_n 0, 1) := by decide +kernel
theorem dX9_restore_22 : decode cX9_restore 22 = .ok (.getfield 7, 3) := by decide +kernel
theorem dX9_restore_25 : decode cX9_restore 25 = .ok (.iload_n 2, 1) := by decide +kernel
theorem dX9_restore_26 : decode cX9_restore 26 = .ok (.iaload, 1) := by decide +kernel
theorem dX9_restore_27 : decode cX9_restore 27 = .ok (.ifCond .ne 6, 3) := by decide +kernel
theorem dX9_restore_30 : decode cX9_restore 30 = .ok (.bipush (-2), 2) := by decide +kernel
theorem dX9_restore_32 : decode cX9_restore 32 = .ok (.ireturn, 1) := by decide +kernel
theorem dX9_restore_33 : decode cX9_restore 33 = .ok (.aload_n 0, 1) := by decide +kernel
theorem dX9_restore_34 : decode cX9_restore 34 = .ok (.invokevirtual 153, 3) := by decide +kernel
theorem dX9_restore_37 : decode cX9_restore 37 = .ok (.aload_n 0, 1) := by decide +kernel
theorem dX9_restore_38 : decode cX9_restore 38 = .ok (.getfield 7, 3) := by decide +kernel
theorem dX9_restore_41 : decode cX9_restore 41 = .ok (.iload_n 2, 1) := by decide +kernel
theorem dX9_restore_42 : decode cX9_restore 42 = .ok (.iconst 1, 1) := by decide +kernel
theorem dX9_restore_43 : decode cX9_restore 43 = .ok (.iadd, 1) := by decide +kernel
theorem dX9_restore_44 : decode cX9_restore 44 = .ok (.aload_n 0, 1) := by decide +kernel
theorem dX9_restore_45 : decode cX9_restore 45 = .ok (.getfield 7, 3) := by decide +kernel
theorem dX9_restore_48 : decode cX9_restore 48 = .ok (.iconst 0, 1) := by decide +kernel
theorem dX9_restore_49 : decode cX9_restore 49 = .ok (.sipush 151, 3) := by decide +kernel
theorem dX9_restore_52 : decode cX9_restore 52 = .ok (.invokestatic 60, 3) := by decide +kernel
theorem dX9_restore_55 : decode cX9_restore 55 = .ok (.aload_n 0, 1) := by decide +kernel
theorem dX9_restore_56 : decode cX9_restore 56 = .ok (.invokevirtual 113, 3) := by decide +kernel
theorem dX9_restore_59 : decode cX9_restore 59 = .ok (.invokestatic 90, 3) := by decide +kernel
theorem dX9_restore_62 : decode cX9_restore 62 = .ok (.ireturn, 1) := by decide +kernel
set_option maxRecDepth 20000 in
theorem ggX9_undo_X9_bring : GoodIn wsX9_undo wsX9_bring := goodIn_r _ [7] (by decide +kernel) (by decide +kernel)
set_option maxRecDepth 20000 in
theorem gX9_undo_X9_bring : GoodIn wsX9_undo (va_wsS RX9 60 yX9_bring wsX9_bring) := goodIn_app (goodIn_of _ (by decide +kernel)) ggX9_undo_X9_bring
theorem dX9_undo_0 : decode cX9_undo 0 = .ok (.aload_n 0, 1) := by decide +kernel
theorem dX9_undo_1 : decode cX9_undo 1 = .ok (.getfield 56, 3) := by decide +kernel
theorem dX9_undo_4 : decode cX9_undo 4 = .ok (.ifCond .ne 6, 3) := by decide +kernel
theorem dX9_undo_7 : decode cX9_undo 7 = .ok (.bipush (-2), 2) := by decide +kernel
theorem dX9_undo_9 : decode cX9_undo 9 = .ok (.ireturn, 1) := by decide +kernel
theorem dX9_undo_10 : decode cX9_undo 10 = .ok (.aload_n 0, 1) := by decide +kernel
theorem dX9_undo_11 : decode cX9_undo 11 = .ok (.dup, 1) := by decide +kernel
theorem dX9_undo_12 : decode cX9_undo 12 = .ok (.getfield 56, 3) := by decide +kernel
theorem dX9_undo_15 : decode cX9_undo 15 = .ok (.iconst 1, 1) := by decide +kernel
theorem dX9_undo_16 : decode cX9_undo 16 = .ok (.isub, 1) := by decide +kernel
theorem dX9_undo_17 : decode cX9_undo 17 = .ok (.putfield 56, 3) := by decide +kernel
theorem dX9_undo_20 : decode cX9_undo 20 = .ok (.aload_n 0, 1) := by decide +kernel
theorem dX9_undo_21 : decode cX9_undo 21 = .ok (.getfield 16, 3) := by decide +kernel
theorem dX9_undo_24 : decode cX9_undo 24 = .ok (.sipush 455, 3) := by decide +kernel
theorem dX9_undo_27 : decode cX9_undo 27 = .ok (.aload_n 0, 1) := by decide +kernel
theorem dX9_undo_28 : decode cX9_undo 28 = .ok (.getfield 56, 3) := by decide +kernel
theorem dX9_undo_31 : decode cX9_undo 31 = .ok (.imul, 1) := by decide +kernel
theorem dX9_undo_32 : decode cX9_undo 32 = .ok (.aload_n 0, 1) := by decide +kernel
theorem dX9_undo_33 : decode cX9_undo 33 = .ok (.getfield 7, 3) := by decide +kernel
theorem dX9_undo_36 : decode cX9_undo 36 = .ok (.iconst 0, 1) := by decide +kernel
theorem dX9_undo_37 : decode cX9_undo 37 = .ok (.sipush 455, 3) := by decide +kernel
theorem dX9_undo_40 : decode cX9_undo 40 = .ok (.invokestatic 60, 3) := by decide +kernel
theorem dX9_undo_43 : decode cX9_undo 43 = .ok (.aload_n 0, 1) := by decide +kernel
theorem dX9_undo_44 : decode cX9_undo 44 = .ok (.getfield 56, 3) := by decide +kernel
theorem dX9_undo_47 : decode cX9_undo 47 = .ok (.ireturn, 1) := by decide +kernel
set_option maxRecDepth 20000 in
theorem ggX9_append_X9_in : GoodIn wsX9_append wsX9_in := goodIn_r _ [6] (by decide +kernel) (by decide +kernel)
set_option maxRecDepth 20000 in
theorem gX9_append_X9_in : GoodIn wsX9_append (va_wsS RX9 64 yX9_in wsX9_in) := goodIn_app (goodIn_of _ (by decide +kernel)) ggX9_append_X9_in
theorem dX9_append_0 : decode cX9_append 0 = .ok (.iload_n 1, 1) := by decide +kernel
theorem dX9_append_1 : decode cX9_append 1 = .ok (.iconst 1, 1) := by decide +kernel
theorem dX9_append_2 : decode cX9_append 2 = .ok (.sipush 255, 3) := by decide +kernel
theorem dX9_append_5 : decode cX9_append 5 = .ok (.invokestatic 64, 3) := by decide +kernel
theorem dX9_append_8 : decode cX9_append 8 = .ok (.ifCond .ne 5, 3) := by decide +kernel
theorem dX9_append_11 : decode cX9_append 11 = .ok (.iconst (-1), 1) := by decide +kernel
theorem dX9_append_12 : decode cX9_append 12 = .ok (.ireturn, 1) := by decide +kernel
theorem dX9_append_13 : decode cX9_append 13 = .ok (.aload_n 0, 1) := by decide +kernel
theorem dX9_append_14 : decode cX9_append 14 = .ok (.getfield 223, 3) := by decide +kernel
theorem dX9_append_17 : decode cX9_append 17 = .ok (.sipush 140, 3) := by decide +kernel
theorem dX9_append_20 : decode cX9_append 20 = .ok (.if_icmp .ne 6, 3) := by decide +kernel
theorem dX9_append_23 : decode cX9_append 23 = .ok (.bipush (-3), 2) := by decide +kernel
theorem dX9_append_25 : decode cX9_append 25 = .ok (.ireturn, 1) := by decide +kernel
theorem dX9_append_26 : decode cX9_append 26 = .ok (.aload_n 0, 1) := by decide +kernel
theorem dX9_append_27 : decode cX9_append 27 = .ok (.getfield 19, 3) := by decide +kernel
theorem dX9_append_30 : decode cX9_append 30 = .ok (.aload_n 0, 1) := by decide +kernel
theorem dX9_append_31 : decode cX9_append 31 = .ok (.getfield 223, 3) := by decide +kernel
theorem dX9_append_34 : decode cX9_append 34 = .ok (.iload_n 1, 1) := by decide +kernel
theorem dX9_append_35 : decode cX9_append 35 = .ok (.iastore, 1) := by decide +kernel
theorem dX9_append_36 : decode cX9_append 36 = .ok (.aload_n 0, 1) := by decide +kernel
theorem dX9_append_37 : decode cX9_append 37 = .ok (.dup, 1) := by decide +kernel
theorem dX9_append_38 : decode cX9_append 38 = .ok (.getfield 223, 3) := by decide +kernel
theorem dX9_append_41 : decode cX9_append 41 = .ok (.iconst 1, 1) := by decide +kernel
theorem dX9_append_42 : decode cX9_append 42 = .ok (.iadd, 1) := by decide +kernel
theorem dX9_append_43 : decode cX9_append 43 = .ok (.putfield 223, 3) := by decide +kernel
theorem dX9_append_46 : decode cX9_append 46 = .ok (.aload_n 0, 1) := by decide +kernel
theorem dX9_append_47 : decode cX9_append 47 = .ok (.getfield 223, 3) := by decide +kernel
theorem dX9_append_50 : decode cX9_append 50 = .ok (.ireturn, 1) := by decide +kernel
theorem dX9_clearText_0 : decode cX9_clearText 0 = .ok (.aload_n 0, 1) := by decide +kernel
theorem dX9_clearText_1 : decode cX9_clearText 1 = .ok (.getfield 223, 3) := by decide +kernel
theorem dX9_clearText_4 : decode cX9_clearText 4 = .ok (.istore_n 1, 1) := by decide +kernel
theorem dX9_clearText_5 : decode cX9_clearText 5 = .ok (.aload_n 0, 1) := by decide +kernel
theorem dX9_clearText_6 : decode cX9_clearText 6 = .ok (.iconst 0, 1) := by decide +kernel
theorem dX9_clearText_7 : decode cX9_clearText 7 = .ok (.putfield 223, 3) := by decide +kernel
theorem dX9_clearText_10 : decode cX9_clearText 10 = .ok (.iload_n 1, 1) := by decide +kernel
theorem dX9_clearText_11 : decode cX9_clearText 11 = .ok (.ireturn, 1) := by decide +kernel
theorem dX9_here_0 : decode cX9_here 0 = .ok (.aload_n 0, 1) := by decide +kernel
theorem dX9_here_1 : decode cX9_here 1 = .ok (.getfield 226, 3) := by decide +kernel
theorem dX9_here_4 : decode cX9_here 4 = .ok (.aload_n 0, 1) := by decide +kernel
theorem dX9_here_5 : decode cX9_here 5 = .ok (.getfield 223, 3) := by decide +kernel
theorem dX9_here_8 : decode cX9_here 8 = .ok (.if_icmp .ge 15, 3) := by decide +kernel
theorem dX9_here_11 : decode cX9_here 11 = .ok (.aload_n 0, 1) := by decide +kernel
theorem dX9_here_12 : decode cX9_here 12 = .ok (.getfield 19, 3) := by decide +kernel
theorem dX9_here_15 : decode cX9_here 15 = .ok (.aload_n 0, 1) := by decide +kernel
theorem dX9_here_16 : decode cX9_here 16 = .ok (.getfield 226, 3) := by decide +kernel
theorem dX9_here_19 : decode cX9_here 19 = .ok (.iaload, 1) := by decide +kernel
theorem dX9_here_20 : decode cX9_here 20 = .ok (.goto 4, 3) := by decide +kernel
theorem dX9_here_23 : decode cX9_here 23 = .ok (.iconst 0, 1) := by decide +kernel
theorem dX9_here_24 : decode cX9_here 24 = .ok (.ireturn, 1) := by decide +kernel
set_option maxRecDepth 20000 in
theorem ggX9_overSpaces_X9_here : GoodIn wsX9_overSpaces wsX9_here := goodIn_r _ [6, 1, 7, 8, 9, 10, 11, 12, 13, 14, 15, 16, 17, 18, 19, 20, 21, 22, 23, 24, 25, 26, 27, 28, 29, 30, 31, 32, 33, 34, 35] (by decide +kernel) (by decide +kernel)
set_option maxRecDepth 20000 in
theorem gX9_overSpaces_X9_here : GoodIn wsX9_overSpaces (wsV RX9 229 RX9 yX9_here wsX9_here) := goodIn_app (goodIn_of _ (by decide +kernel)) ggX9_overSpaces_X9_here
theorem dX9_overSpaces_0 : decode cX9_overSpaces 0 = .ok (.aload_n 0, 1) := by decide +kernel
theorem dX9_overSpaces_1 : decode cX9_overSpaces 1 = .ok (.invokevirtual 229, 3) := by decide +kernel
theorem dX9_overSpaces_4 : decode cX9_overSpaces 4 = .ok (.bipush 32, 2) := by decide +kernel
theorem dX9_overSpaces_6 : decode cX9_overSpaces 6 = .ok (.if_icmp .ne 16, 3) := by decide +kernel
theorem dX9_overSpaces_9 : decode cX9_overSpaces 9 = .ok (.aload_n 0, 1) := by decide +kernel
theorem dX9_overSpaces_10 : decode cX9_overSpaces 10 = .ok (.dup, 1) := by decide +kernel
theorem dX9_overSpaces_11 : decode cX9_overSpaces 11 = .ok (.getfield 226, 3) := by decide +kernel
theorem dX9_overSpaces_14 : decode cX9_overSpaces 14 = .ok (.iconst 1, 1) := by decide +kernel
theorem dX9_overSpaces_15 : decode cX9_overSpaces 15 = .ok (.iadd, 1) := by decide +kernel
theorem dX9_overSpaces_16 : decode cX9_overSpaces 16 = .ok (.putfield 226, 3) := by decide +kernel
theorem dX9_overSpaces_19 : decode cX9_overSpaces 19 = .ok (.goto (-19), 3) := by decide +kernel
theorem dX9_overSpaces_22 : decode cX9_overSpaces 22 = .ok (.return_, 1) := by decide +kernel
set_option maxRecDepth 20000 in
theorem ggX9_isFigure_X9_here : GoodIn wsX9_isFigure wsX9_here := goodIn_r _ [5, 6, 7, 8, 12, 13, 14, 15, 16, 17, 18, 19, 20, 21, 22, 23, 24, 25, 26, 27, 28, 29, 30, 31, 32, 33, 34, 35, 36, 37, 38] (by decide +kernel) (by decide +kernel)
set_option maxRecDepth 20000 in
theorem gX9_isFigure_X9_here : GoodIn wsX9_isFigure (wsV RX9 229 RX9 yX9_here wsX9_here) := goodIn_app (goodIn_of _ (by decide +kernel)) ggX9_isFigure_X9_here
set_option maxRecDepth 20000 in
theorem ggX9_isFigure_X9_in : GoodIn wsX9_isFigure wsX9_in := goodIn_r _ [11] (by decide +kernel) (by decide +kernel)
set_option maxRecDepth 20000 in
theorem gX9_isFigure_X9_in : GoodIn wsX9_isFigure (va_wsS RX9 64 yX9_in wsX9_in) := goodIn_app (goodIn_of _ (by decide +kernel)) ggX9_isFigure_X9_in
theorem dX9_isFigure_0 : decode cX9_isFigure 0 = .ok (.aload_n 0, 1) := by decide +kernel
theorem dX9_isFigure_1 : decode cX9_isFigure 1 = .ok (.invokevirtual 229, 3) := by decide +kernel
theorem dX9_isFigure_4 : decode cX9_isFigure 4 = .ok (.bipush 48, 2) := by decide +kernel
theorem dX9_isFigure_6 : decode cX9_isFigure 6 = .ok (.bipush 57, 2) := by decide +kernel
theorem dX9_isFigure_8 : decode cX9_isFigure 8 = .ok (.invokestatic 64, 3) := by decide +kernel
theorem dX9_isFigure_11 : decode cX9_isFigure 11 = .ok (.ireturn, 1) := by decide +kernel
set_option maxRecDepth 20000 in
theorem ggX9_readNumber_X9_overSpaces : GoodIn wsX9_readNumber wsX9_overSpaces := goodIn_r _ [8, 1, 9, 10, 11, 7, 12, 13, 3, 21, 22, 23, 24, 25, 26, 27, 28, 29, 30, 31, 32, 33, 34, 35, 36, 37, 38, 39, 40, 41, 42, 43, 44, 45, 46, 47] (by decide +kernel) (by decide +kernel)
set_option maxRecDepth 20000 in
theorem gX9_readNumber_X9_overSpaces : GoodIn wsX9_readNumber (wsV RX9 232 RX9 yX9_overSpaces wsX9_overSpaces) := goodIn_app (goodIn_of _ (by decide +kernel)) ggX9_readNumber_X9_overSpaces
set_option maxRecDepth 20000 in
theorem ggX9_readNumber_X9_isFigure : GoodIn wsX9_readNumber wsX9_isFigure := goodIn_r _ [17, 9, 10, 11, 7, 12, 1, 13, 3, 18, 19, 20, 21, 22, 23, 24, 25, 26, 27, 28, 29, 30, 31, 32, 33, 34, 35, 36, 37, 38, 39, 40, 41, 42, 43, 44, 45, 46, 47] (by decide +kernel) (by decide +kernel)
set_option maxRecDepth 20000 in
theorem gX9_readNumber_X9_isFigure : GoodIn wsX9_readNumber (wsV RX9 238 RX9 yX9_isFigure wsX9_isFigure) := goodIn_app (goodIn_of _ (by decide +kernel)) ggX9_readNumber_X9_isFigure
set_option maxRecDepth 20000 in
theorem ggX9_readNumber_X9_here : GoodIn wsX9_readNumber wsX9_here := goodIn_r _ [12, 1, 13, 3, 21, 22, 23, 24, 25, 26, 27, 28, 29, 30, 31, 32, 33, 34, 35, 36, 37, 38, 39, 40, 41, 42, 43, 44, 45, 46, 47] (by decide +kernel) (by decide +kernel)
set_option maxRecDepth 20000 in
theorem gX9_readNumber_X9_here : GoodIn wsX9_readNumber (wsV RX9 229 RX9 yX9_here wsX9_here) := goodIn_app (goodIn_of _ (by decide +kernel)) ggX9_readNumber_X9_here
set_option maxRecDepth 20000 in
theorem ggX9_readNumber_X9_in : GoodIn wsX9_readNumber wsX9_in := goodIn_r _ [20] (by decide +kernel) (by decide +kernel)
set_option maxRecDepth 20000 in
theorem gX9_readNumber_X9_in : GoodIn wsX9_readNumber (va_wsS RX9 64 yX9_in wsX9_in) := goodIn_app (goodIn_of _ (by decide +kernel)) ggX9_readNumber_X9_in
theorem dX9_readNumber_0 : decode cX9_readNumber 0 = .ok (.aload_n 0, 1) := by decide +kernel
theorem dX9_readNumber_1 : decode cX9_readNumber 1 = .ok (.invokevirtual 232, 3) := by decide +kernel
theorem dX9_readNumber_4 : decode cX9_readNumber 4 = .ok (.aload_n 0, 1) := by decide +kernel
theorem dX9_readNumber_5 : decode cX9_readNumber 5 = .ok (.getfield 226, 3) := by decide +kernel
theorem dX9_readNumber_8 : decode cX9_readNumber 8 = .ok (.istore_n 3, 1) := by decide +kernel
theorem dX9_readNumber_9 : decode cX9_readNumber 9 = .ok (.aload_n 0, 1) := by decide +kernel
theorem dX9_readNumber_10 : decode cX9_readNumber 10 = .ok (.iconst 0, 1) := by decide +kernel
theorem dX9_readNumber_11 : decode cX9_readNumber 11 = .ok (.putfield 235, 3) := by decide +kernel
theorem dX9_readNumber_14 : decode cX9_readNumber 14 = .ok (.aload_n 0, 1) := by decide +kernel
theorem dX9_readNumber_15 : decode cX9_readNumber 15 = .ok (.invokevirtual 238, 3) := by decide +kernel
theorem dX9_readNumber_18 : decode cX9_readNumber 18 = .ok (.ifCond .eq 52, 3) := by decide +kernel
theorem dX9_readNumber_21 : decode cX9_readNumber 21 = .ok (.aload_n 0, 1) := by decide +kernel
theorem dX9_readNumber_22 : decode cX9_readNumber 22 = .ok (.aload_n 0, 1) := by decide +kernel
theorem dX9_readNumber_23 : decode cX9_readNumber 23 = .ok (.getfield 235, 3) := by decide +kernel
theorem dX9_readNumber_26 : decode cX9_readNumber 26 = .ok (.sipush 9999, 3) := by decide +kernel
theorem dX9_readNumber_29 : decode cX9_readNumber 29 = .ok (.if_icmp .le 10, 3) := by decide +kernel
theorem dX9_readNumber_32 : decode cX9_readNumber 32 = .ok (.aload_n 0, 1) := by decide +kernel
theorem dX9_readNumber_33 : decode cX9_readNumber 33 = .ok (.getfield 235, 3) := by decide +kernel
theorem dX9_readNumber_36 : decode cX9_readNumber 36 = .ok (.goto 18, 3) := by decide +kernel
theorem dX9_readNumber_39 : decode cX9_readNumber 39 = .ok (.bipush 10, 2) := by decide +kernel
theorem dX9_readNumber_41 : decode cX9_readNumber 41 = .ok (.aload_n 0, 1) := by decide +kernel
theorem dX9_readNumber_42 : decode cX9_readNumber 42 = .ok (.getfield 235, 3) := by decide +kernel
theorem dX9_readNumber_45 : decode cX9_readNumber 45 = .ok (.imul, 1) := by decide +kernel
theorem dX9_readNumber_46 : decode cX9_readNumber 46 = .ok (.aload_n 0, 1) := by decide +kernel
theorem dX9_readNumber_47 : decode cX9_readNumber 47 = .ok (.invokevirtual 229, 3) := by decide +kernel
theorem dX9_readNumber_50 : decode cX9_readNumber 50 = .ok (.iadd, 1) := by decide +kernel
theorem dX9_readNumber_51 : decode cX9_readNumber 51 = .ok (.bipush 48, 2) := by decide +kernel
theorem dX9_readNumber_53 : decode cX9_readNumber 53 = .ok (.isub, 1) := by decide +kernel
theorem dX9_readNumber_54 : decode cX9_readNumber 54 = .ok (.putfield 235, 3) := by decide +kernel
theorem dX9_readNumber_57 : decode cX9_readNumber 57 = .ok (.aload_n 0, 1) := by decide +kernel
theorem dX9_readNumber_58 : decode cX9_readNumber 58 = .ok (.dup, 1) := by decide +kernel
theorem dX9_readNumber_59 : decode cX9_readNumber 59 = .ok (.getfield 226, 3) := by decide +kernel
theorem dX9_readNumber_62 : decode cX9_readNumber 62 = .ok (.iconst 1, 1) := by decide +kernel
theorem dX9_readNumber_63 : decode cX9_readNumber 63 = .ok (.iadd, 1) := by decide +kernel
theorem dX9_readNumber_64 : decode cX9_readNumber 64 = .ok (.putfield 226, 3) := by decide +kernel
theorem dX9_readNumber_67 : decode cX9_readNumber 67 = .ok (.goto (-53), 3) := by decide +kernel
theorem dX9_readNumber_70 : decode cX9_readNumber 70 = .ok (.aload_n 0, 1) := by decide +kernel
theorem dX9_readNumber_71 : decode cX9_readNumber 71 = .ok (.getfield 226, 3) := by decide +kernel
theorem dX9_readNumber_74 : decode cX9_readNumber 74 = .ok (.iload_n 3, 1) := by decide +kernel
theorem dX9_readNumber_75 : decode cX9_readNumber 75 = .ok (.if_icmp .le 40, 3) := by decide +kernel
theorem dX9_readNumber_78 : decode cX9_readNumber 78 = .ok (.aload_n 0, 1) := by decide +kernel
theorem dX9_readNumber_79 : decode cX9_readNumber 79 = .ok (.getfield 235, 3) := by decide +kernel
theorem dX9_readNumber_82 : decode cX9_readNumber 82 = .ok (.iload_n 1, 1) := by decide +kernel
theorem dX9_readNumber_83 : decode cX9_readNumber 83 = .ok (.iload_n 2, 1) := by decide +kernel
theorem dX9_readNumber_84 : decode cX9_readNumber 84 = .ok (.invokestatic 64, 3) := by decide +kernel
theorem dX9_readNumber_87 : decode cX9_readNumber 87 = .ok (.ifCond .eq 28, 3) := by decide +kernel
theorem dX9_readNumber_90 : decode cX9_readNumber 90 = .ok (.aload_n 0, 1) := by decide +kernel
theorem dX9_readNumber_91 : decode cX9_readNumber 91 = .ok (.getfield 19, 3) := by decide +kernel
theorem dX9_readNumber_94 : decode cX9_readNumber 94 = .ok (.iload_n 3, 1) := by decide +kernel
theorem dX9_readNumber_95 : decode cX9_readNumber 95 = .ok (.iaload, 1) := by decide +kernel
theorem dX9_readNumber_96 : decode cX9_readNumber 96 = .ok (.bipush 48, 2) := by decide +kernel
theorem dX9_readNumber_98 : decode cX9_readNumber 98 = .ok (.if_icmp .ne 13, 3) := by decide +kernel
theorem dX9_readNumber_101 : decode cX9_readNumber 101 = .ok (.aload_n 0, 1) := by decide +kernel
theorem dX9_readNumber_102 : decode cX9_readNumber 102 = .ok (.getfield 226, 3) := by decide +kernel
theorem dX9_readNumber_105 : decode cX9_readNumber 105 = .ok (.iload_n 3, 1) := by decide +kernel
theorem dX9_readNumber_106 : decode cX9_readNumber 106 = .ok (.iconst 1, 1) := by decide +kernel
theorem dX9_readNumber_107 : decode cX9_readNumber 107 = .ok (.iadd, 1) := by decide +kernel
theorem dX9_readNumber_108 : decode cX9_readNumber 108 = .ok (.if_icmp .ne 7, 3) := by decide +kernel
theorem dX9_readNumber_111 : decode cX9_readNumber 111 = .ok (.iconst 1, 1) := by decide +kernel
theorem dX9_readNumber_112 : decode cX9_readNumber 112 = .ok (.goto 4, 3) := by decide +kernel
theorem dX9_readNumber_115 : decode cX9_readNumber 115 = .ok (.iconst 0, 1) := by decide +kernel
theorem dX9_readNumber_116 : decode cX9_readNumber 116 = .ok (.istore 4, 2) := by decide +kernel
theorem dX9_readNumber_118 : decode cX9_readNumber 118 = .ok (.aload_n 0, 1) := by decide +kernel
theorem dX9_readNumber_119 : decode cX9_readNumber 119 = .ok (.iload 4, 2) := by decide +kernel
theorem dX9_readNumber_121 : decode cX9_readNumber 121 = .ok (.ifCond .eq 10, 3) := by decide +kernel
theorem dX9_readNumber_124 : decode cX9_readNumber 124 = .ok (.aload_n 0, 1) := by decide +kernel
theorem dX9_readNumber_125 : decode cX9_readNumber 125 = .ok (.getfield 226, 3) := by decide +kernel
theorem dX9_readNumber_128 : decode cX9_readNumber 128 = .ok (.goto 4, 3) := by decide +kernel
theorem dX9_readNumber_131 : decode cX9_readNumber 131 = .ok (.iload_n 3, 1) := by decide +kernel
theorem dX9_readNumber_132 : decode cX9_readNumber 132 = .ok (.putfield 226, 3) := by decide +kernel
theorem dX9_readNumber_135 : decode cX9_readNumber 135 = .ok (.aload_n 0, 1) := by decide +kernel
theorem dX9_readNumber_136 : decode cX9_readNumber 136 = .ok (.invokevirtual 232, 3) := by decide +kernel
theorem dX9_readNumber_139 : decode cX9_readNumber 139 = .ok (.iload 4, 2) := by decide +kernel
theorem dX9_readNumber_141 : decode cX9_readNumber 141 = .ok (.ireturn, 1) := by decide +kernel
set_option maxRecDepth 20000 in
theorem ggX9_reads_X9_here : GoodIn wsX9_reads wsX9_here := goodIn_r _ [6, 1, 7, 8, 9, 10, 11, 12, 13, 14, 15, 16, 17, 18, 19, 20, 21, 22, 23, 24, 25, 26, 27, 28, 29, 30, 31, 32, 33, 34, 35] (by decide +kernel) (by decide +kernel)
set_option maxRecDepth 20000 in
theorem gX9_reads_X9_here : GoodIn wsX9_reads (wsV RX9 229 RX9 yX9_here wsX9_here) := goodIn_app (goodIn_of _ (by decide +kernel)) ggX9_reads_X9_here
theorem dX9_reads_0 : decode cX9_reads 0 = .ok (.aload_n 0, 1) := by decide +kernel
theorem dX9_reads_1 : decode cX9_reads 1 = .ok (.invokevirtual 229, 3) := by decide +kernel
theorem dX9_reads_4 : decode cX9_reads 4 = .ok (.iload_n 1, 1) := by decide +kernel
theorem dX9_reads_5 : decode cX9_reads 5 = .ok (.if_icmp .ne 7, 3) := by decide +kernel
theorem dX9_reads_8 : decode cX9_reads 8 = .ok (.iconst 1, 1) := by decide +kernel
theorem dX9_reads_9 : decode cX9_reads 9 = .ok (.goto 4, 3) := by decide +kernel
theorem dX9_reads_12 : decode cX9_reads 12 = .ok (.iconst 0, 1) := by decide +kernel
theorem dX9_reads_13 : decode cX9_reads 13 = .ok (.istore_n 2, 1) := by decide +kernel
theorem dX9_reads_14 : decode cX9_reads 14 = .ok (.aload_n 0, 1) := by decide +kernel
theorem dX9_reads_15 : decode cX9_reads 15 = .ok (.dup, 1) := by decide +kernel
theorem dX9_reads_16 : decode cX9_reads 16 = .ok (.getfield 226, 3) := by decide +kernel
theorem dX9_reads_19 : decode cX9_reads 19 = .ok (.iload_n 2, 1) := by decide +kernel
theorem dX9_reads_20 : decode cX9_reads 20 = .ok (.ifCond .eq 7, 3) := by decide +kernel
theorem dX9_reads_23 : decode cX9_reads 23 = .ok (.iconst 1, 1) := by decide +kernel
theorem dX9_reads_24 : decode cX9_reads 24 = .ok (.goto 4, 3) := by decide +kernel
theorem dX9_reads_27 : decode cX9_reads 27 = .ok (.iconst 0, 1) := by decide +kernel
theorem dX9_reads_28 : decode cX9_reads 28 = .ok (.iadd, 1) := by decide +kernel
theorem dX9_reads_29 : decode cX9_reads 29 = .ok (.putfield 226, 3) := by decide +kernel
theorem dX9_reads_32 : decode cX9_reads 32 = .ok (.iload_n 2, 1) := by decide +kernel
theorem dX9_reads_33 : decode cX9_reads 33 = .ok (.ireturn, 1) := by decide +kernel
set_option maxRecDepth 20000 in
theorem ggX9_letterOf_X9_in : GoodIn wsX9_letterOf wsX9_in := goodIn_r _ [4] (by decide +kernel) (by decide +kernel)
set_option maxRecDepth 20000 in
theorem gX9_letterOf_X9_in : GoodIn wsX9_letterOf (va_wsS RX9 64 yX9_in wsX9_in) := goodIn_app (goodIn_of _ (by decide +kernel)) ggX9_letterOf_X9_in
theorem dX9_letterOf_0 : decode cX9_letterOf 0 = .ok (.iload_n 1, 1) := by decide +kernel
theorem dX9_letterOf_1 : decode cX9_letterOf 1 = .ok (.ifCond .ne 24, 3) := by decide +kernel
theorem dX9_letterOf_4 : decode cX9_letterOf 4 = .ok (.iload_n 0, 1) := by decide +kernel
theorem dX9_letterOf_5 : decode cX9_letterOf 5 = .ok (.bipush 97, 2) := by decide +kernel
theorem dX9_letterOf_7 : decode cX9_letterOf 7 = .ok (.bipush 104, 2) := by decide +kernel
theorem dX9_letterOf_9 : decode cX9_letterOf 9 = .ok (.invokestatic 64, 3) := by decide +kernel
theorem dX9_letterOf_12 : decode cX9_letterOf 12 = .ok (.ifCond .eq 10, 3) := by decide +kernel
theorem dX9_letterOf_15 : decode cX9_letterOf 15 = .ok (.iload_n 0, 1) := by decide +kernel
theorem dX9_letterOf_16 : decode cX9_letterOf 16 = .ok (.bipush 97, 2) := by decide +kernel
theorem dX9_letterOf_18 : decode cX9_letterOf 18 = .ok (.isub, 1) := by decide +kernel
theorem dX9_letterOf_19 : decode cX9_letterOf 19 = .ok (.goto 5, 3) := by decide +kernel
theorem dX9_letterOf_22 : decode cX9_letterOf 22 = .ok (.bipush (-99), 2) := by decide +kernel
theorem dX9_letterOf_24 : decode cX9_letterOf 24 = .ok (.ireturn, 1) := by decide +kernel
theorem dX9_letterOf_25 : decode cX9_letterOf 25 = .ok (.iload_n 0, 1) := by decide +kernel
theorem dX9_letterOf_26 : decode cX9_letterOf 26 = .ok (.bipush 112, 2) := by decide +kernel
theorem dX9_letterOf_28 : decode cX9_letterOf 28 = .ok (.if_icmp .ne 7, 3) := by decide +kernel
theorem dX9_letterOf_31 : decode cX9_letterOf 31 = .ok (.iconst 0, 1) := by decide +kernel
theorem dX9_letterOf_32 : decode cX9_letterOf 32 = .ok (.goto 35, 3) := by decide +kernel
theorem dX9_letterOf_35 : decode cX9_letterOf 35 = .ok (.iload_n 0, 1) := by decide +kernel
theorem dX9_letterOf_36 : decode cX9_letterOf 36 = .ok (.bipush 115, 2) := by decide +kernel
theorem dX9_letterOf_38 : decode cX9_letterOf 38 = .ok (.if_icmp .ne 7, 3) := by decide +kernel
theorem dX9_letterOf_41 : decode cX9_letterOf 41 = .ok (.iconst 1, 1) := by decide +kernel
theorem dX9_letterOf_42 : decode cX9_letterOf 42 = .ok (.goto 25, 3) := by decide +kernel
theorem dX9_letterOf_45 : decode cX9_letterOf 45 = .ok (.iload_n 0, 1) := by decide +kernel
theorem dX9_letterOf_46 : decode cX9_letterOf 46 = .ok (.bipush 97, 2) := by decide +kernel
theorem dX9_letterOf_48 : decode cX9_letterOf 48 = .ok (.if_icmp .ne 7, 3) := by decide +kernel
theorem dX9_letterOf_51 : decode cX9_letterOf 51 = .ok (.iconst 2, 1) := by decide +kernel
theorem dX9_letterOf_52 : decode cX9_letterOf 52 = .ok (.goto 15, 3) := by decide +kernel
theorem dX9_letterOf_55 : decode cX9_letterOf 55 = .ok (.iload_n 0, 1) := by decide +kernel
theorem dX9_letterOf_56 : decode cX9_letterOf 56 = .ok (.bipush 119, 2) := by decide +kernel
theorem dX9_letterOf_58 : decode cX9_letterOf 58 = .ok (.if_icmp .ne 7, 3) := by decide +kernel
theorem dX9_letterOf_61 : decode cX9_letterOf 61 = .ok (.iconst 3, 1) := by decide +kernel
theorem dX9_letterOf_62 : decode cX9_letterOf 62 = .ok (.goto 5, 3) := by decide +kernel
theorem dX9_letterOf_65 : decode cX9_letterOf 65 = .ok (.bipush (-99), 2) := by decide +kernel
theorem dX9_letterOf_67 : decode cX9_letterOf 67 = .ok (.ireturn, 1) := by decide +kernel
set_option maxRecDepth 20000 in
theorem ggX9_readLetters_X9_overSpaces : GoodIn wsX9_readLetters wsX9_overSpaces := goodIn_r _ [7, 2, 8, 9, 10, 6, 11, 12, 13, 23, 24, 25, 26, 27, 28, 29, 30, 31, 32, 33, 34, 35, 36, 37, 38, 39, 40, 41, 42, 43, 44, 45, 46, 47, 48, 49] (by decide +kernel) (by decide +kernel)
set_option maxRecDepth 20000 in
theorem gX9_readLetters_X9_overSpaces : GoodIn wsX9_readLetters (wsV RX9 232 RX9 yX9_overSpaces wsX9_overSpaces) := goodIn_app (goodIn_of _ (by decide +kernel)) ggX9_readLetters_X9_overSpaces
set_option maxRecDepth 20000 in
theorem ggX9_readLetters_X9_here : GoodIn wsX9_readLetters wsX9_here := goodIn_r _ [11, 2, 12, 13, 23, 24, 25, 26, 27, 28, 29, 30, 31, 32, 33, 34, 35, 36, 37, 38, 39, 40, 41, 42, 43, 44, 45, 46, 47, 48, 49] (by decide +kernel) (by decide +kernel)
set_option maxRecDepth 20000 in
theorem gX9_readLetters_X9_here : GoodIn wsX9_readLetters (wsV RX9 229 RX9 yX9_here wsX9_here) := goodIn_app (goodIn_of _ (by decide +kernel)) ggX9_readLetters_X9_here
set_option maxRecDepth 20000 in
theorem ggX9_readLetters_X9_letterOf : GoodIn wsX9_readLetters wsX9_letterOf := goodIn_r _ [16, 17, 18, 6, 19] (by decide +kernel) (by decide +kernel)
set_option maxRecDepth 20000 in
theorem gX9_readLetters_X9_letterOf : GoodIn wsX9_readLetters (va_wsS RX9 241 yX9_letterOf wsX9_letterOf) := goodIn_app (goodIn_of _ (by decide +kernel)) ggX9_readLetters_X9_letterOf
set_option maxRecDepth 20000 in
theorem ggX9_readLetters_X9_has : GoodIn wsX9_readLetters wsX9_has := goodIn_r _ [22] (by decide +kernel) (by decide +kernel)
set_option maxRecDepth 20000 in
theorem gX9_readLetters_X9_has : GoodIn wsX9_readLetters (va_wsS RX9 72 yX9_has wsX9_has) := goodIn_app (goodIn_of _ (by decide +kernel)) ggX9_readLetters_X9_has
theorem dX9_readLetters_0 : decode cX9_readLetters 0 = .ok (.aload_n 0, 1) := by decide +kernel
theorem dX9_readLetters_1 : decode cX9_readLetters 1 = .ok (.iconst 0, 1) := by decide +kernel
theorem dX9_readLetters_2 : decode cX9_readLetters 2 = .ok (.putfield 235, 3) := by decide +kernel
theorem dX9_readLetters_5 : decode cX9_readLetters 5 = .ok (.aload_n 0, 1) := by decide +kernel
theorem dX9_readLetters_6 : decode cX9_readLetters 6 = .ok (.invokevirtual 232, 3) := by decide +kernel
theorem dX9_readLetters_9 : decode cX9_readLetters 9 = .ok (.aload_n 0, 1) := by decide +kernel
theorem dX9_readLetters_10 : decode cX9_readLetters 10 = .ok (.invokevirtual 229, 3) := by decide +kernel
theorem dX9_readLetters_13 : decode cX9_readLetters 13 = .ok (.iload_n 1, 1) := by decide +kernel
theorem dX9_readLetters_14 : decode cX9_readLetters 14 = .ok (.invokestatic 241, 3) := by decide +kernel
theorem dX9_readLetters_17 : decode cX9_readLetters 17 = .ok (.istore_n 2, 1) := by decide +kernel
theorem dX9_readLetters_18 : decode cX9_readLetters 18 = .ok (.iload_n 2, 1) := by decide +kernel
theorem dX9_readLetters_19 : decode cX9_readLetters 19 = .ok (.ifCond .lt 54, 3) := by decide +kernel
theorem dX9_readLetters_22 : decode cX9_readLetters 22 = .ok (.aload_n 0, 1) := by decide +kernel
theorem dX9_readLetters_23 : decode cX9_readLetters 23 = .ok (.getfield 235, 3) := by decide +kernel
theorem dX9_readLetters_26 : decode cX9_readLetters 26 = .ok (.iload_n 2, 1) := by decide +kernel
theorem dX9_readLetters_27 : decode cX9_readLetters 27 = .ok (.invokestatic 72, 3) := by decide +kernel
theorem dX9_readLetters_30 : decode cX9_readLetters 30 = .ok (.ifCond .eq 5, 3) := by decide +kernel
theorem dX9_readLetters_33 : decode cX9_readLetters 33 = .ok (.iconst 0, 1) := by decide +kernel
theorem dX9_readLetters_34 : decode cX9_readLetters 34 = .ok (.ireturn, 1) := by decide +kernel
theorem dX9_readLetters_35 : decode cX9_readLetters 35 = .ok (.aload_n 0, 1) := by decide +kernel
theorem dX9_readLetters_36 : decode cX9_readLetters 36 = .ok (.dup, 1) := by decide +kernel
theorem dX9_readLetters_37 : decode cX9_readLetters 37 = .ok (.getfield 235, 3) := by decide +kernel
theorem dX9_readLetters_40 : decode cX9_readLetters 40 = .ok (.iconst 1, 1) := by decide +kernel
theorem dX9_readLetters_41 : decode cX9_readLetters 41 = .ok (.iload_n 2, 1) := by decide +kernel
theorem dX9_readLetters_42 : decode cX9_readLetters 42 = .ok (.ishl, 1) := by decide +kernel
theorem dX9_readLetters_43 : decode cX9_readLetters 43 = .ok (.ior, 1) := by decide +kernel
theorem dX9_readLetters_44 : decode cX9_readLetters 44 = .ok (.putfield 235, 3) := by decide +kernel
theorem dX9_readLetters_47 : decode cX9_readLetters 47 = .ok (.aload_n 0, 1) := by decide +kernel
theorem dX9_readLetters_48 : decode cX9_readLetters 48 = .ok (.dup, 1) := by decide +kernel
theorem dX9_readLetters_49 : decode cX9_readLetters 49 = .ok (.getfield 226, 3) := by decide +kernel
theorem dX9_readLetters_52 : decode cX9_readLetters 52 = .ok (.iconst 1, 1) := by decide +kernel
theorem dX9_readLetters_53 : decode cX9_readLetters 53 = .ok (.iadd, 1) := by decide +kernel
theorem dX9_readLetters_54 : decode cX9_readLetters 54 = .ok (.putfield 226, 3) := by decide +kernel
theorem dX9_readLetters_57 : decode cX9_readLetters 57 = .ok (.aload_n 0, 1) := by decide +kernel
theorem dX9_readLetters_58 : decode cX9_readLetters 58 = .ok (.invokevirtual 232, 3) := by decide +kernel
theorem dX9_readLetters_61 : decode cX9_readLetters 61 = .ok (.aload_n 0, 1) := by decide +kernel
theorem dX9_readLetters_62 : decode cX9_readLetters 62 = .ok (.invokevirtual 229, 3) := by decide +kernel
theorem dX9_readLetters_65 : decode cX9_readLetters 65 = .ok (.iload_n 1, 1) := by decide +kernel
theorem dX9_readLetters_66 : decode cX9_readLetters 66 = .ok (.invokestatic 241, 3) := by decide +kernel
theorem dX9_readLetters_69 : decode cX9_readLetters 69 = .ok (.istore_n 2, 1) := by decide +kernel
theorem dX9_readLetters_70 : decode cX9_readLetters 70 = .ok (.goto (-52), 3) := by decide +kernel
theorem dX9_readLetters_73 : decode cX9_readLetters 73 = .ok (.iconst 1, 1) := by decide +kernel
theorem dX9_readLetters_74 : decode cX9_readLetters 74 = .ok (.ireturn, 1) := by decide +kernel
set_option maxRecDepth 20000 in
theorem ggX9_readItem_X9_readNumber : GoodIn wsX9_readItem wsX9_readNumber := goodIn_r _ [7, 8, 2, 9, 10, 11, 12, 6, 13, 14, 15, 16, 17, 18, 19, 20, 21, 22, 23, 24, 25, 43, 44, 45, 46, 47, 48, 49, 50, 51, 52, 53, 54, 55, 56, 57, 58, 59, 60, 61, 62, 63, 64, 65, 66, 67, 68, 69] (by decide +kernel) (by decide +kernel)
set_option maxRecDepth 20000 in
theorem gX9_readItem_X9_readNumber : GoodIn wsX9_readItem (wsV RX9 245 RX9 yX9_readNumber wsX9_readNumber) := goodIn_app (goodIn_of _ (by decide +kernel)) ggX9_readItem_X9_readNumber
set_option maxRecDepth 20000 in
theorem ggX9_readItem_X9_reads : GoodIn wsX9_readItem wsX9_reads := goodIn_r _ [29, 8, 14, 15, 16, 6, 17, 18, 9, 43, 44, 45, 46, 47, 48, 49, 50, 51, 52, 53, 54, 55, 56, 57, 58, 59, 60, 61, 62, 63, 64, 65, 66, 67, 68, 69] (by decide +kernel) (by decide +kernel)
set_option maxRecDepth 20000 in
theorem gX9_readItem_X9_reads : GoodIn wsX9_readItem (wsV RX9 248 RX9 yX9_reads wsX9_reads) := goodIn_app (goodIn_of _ (by decide +kernel)) ggX9_readItem_X9_reads
set_option maxRecDepth 20000 in
theorem ggX9_readItem_X9_readLetters : GoodIn wsX9_readItem wsX9_readLetters := goodIn_r _ [33, 2, 8, 10, 11, 12, 6, 13, 14, 15, 16, 17, 18, 9, 34, 35, 36, 23, 24, 25, 37, 38, 39, 43, 44, 45, 46, 47, 48, 49, 50, 51, 52, 53, 54, 55, 56, 57, 58, 59, 60, 61, 62, 63, 64, 65, 66, 67, 68, 69] (by decide +kernel) (by decide +kernel)
set_option maxRecDepth 20000 in
theorem gX9_readItem_X9_readLetters : GoodIn wsX9_readItem (wsV RX9 251 RX9 yX9_readLetters wsX9_readLetters) := goodIn_app (goodIn_of _ (by decide +kernel)) ggX9_readItem_X9_readLetters
set_option maxRecDepth 20000 in
theorem ggX9_readItem_X9_adds : GoodIn wsX9_readItem wsX9_adds := goodIn_r _ [42] (by decide +kernel) (by decide +kernel)
set_option maxRecDepth 20000 in
theorem gX9_readItem_X9_adds : GoodIn wsX9_readItem (va_wsS RX9 156 yX9_adds wsX9_adds) := goodIn_app (goodIn_of _ (by decide +kernel)) ggX9_readItem_X9_adds
theorem dX9_readItem_0 : decode cX9_readItem 0 = .ok (.aload_n 0, 1) := by decide +kernel
theorem dX9_readItem_1 : decode cX9_readItem 1 = .ok (.getfield 13, 3) := by decide +kernel
theorem dX9_readItem_4 : decode cX9_readItem 4 = .ok (.iconst 0, 1) := by decide +kernel
theorem dX9_readItem_5 : decode cX9_readItem 5 = .ok (.iaload, 1) := by decide +kernel
theorem dX9_readItem_6 : decode cX9_readItem 6 = .ok (.bipush 20, 2) := by decide +kernel
theorem dX9_readItem_8 : decode cX9_readItem 8 = .ok (.if_icmp .eq 12, 3) := by decide +kernel
theorem dX9_readItem_11 : decode cX9_readItem 11 = .ok (.aload_n 0, 1) := by decide +kernel
theorem dX9_readItem_12 : decode cX9_readItem 12 = .ok (.iconst 0, 1) := by decide +kernel
theorem dX9_readItem_13 : decode cX9_readItem 13 = .ok (.iconst 3, 1) := by decide +kernel
theorem dX9_readItem_14 : decode cX9_readItem 14 = .ok (.invokevirtual 245, 3) := by decide +kernel
theorem dX9_readItem_17 : decode cX9_readItem 17 = .ok (.ifCond .ne 5, 3) := by decide +kernel
theorem dX9_readItem_20 : decode cX9_readItem 20 = .ok (.iconst 0, 1) := by decide +kernel
theorem dX9_readItem_21 : decode cX9_readItem 21 = .ok (.ireturn, 1) := by decide +kernel
theorem dX9_readItem_22 : decode cX9_readItem 22 = .ok (.aload_n 0, 1) := by decide +kernel
theorem dX9_readItem_23 : decode cX9_readItem 23 = .ok (.getfield 235, 3) := by decide +kernel
theorem dX9_readItem_26 : decode cX9_readItem 26 = .ok (.istore_n 1, 1) := by decide +kernel
theorem dX9_readItem_27 : decode cX9_readItem 27 = .ok (.aload_n 0, 1) := by decide +kernel
theorem dX9_readItem_28 : decode cX9_readItem 28 = .ok (.bipush 58, 2) := by decide +kernel
theorem dX9_readItem_30 : decode cX9_readItem 30 = .ok (.invokevirtual 248, 3) := by decide +kernel
theorem dX9_readItem_33 : decode cX9_readItem 33 = .ok (.ifCond .eq 13, 3) := by decide +kernel
theorem dX9_readItem_36 : decode cX9_readItem 36 = .ok (.aload_n 0, 1) := by decide +kernel
theorem dX9_readItem_37 : decode cX9_readItem 37 = .ok (.iconst 1, 1) := by decide +kernel
theorem dX9_readItem_38 : decode cX9_readItem 38 = .ok (.bipush 99, 2) := by decide +kernel
theorem dX9_readItem_40 : decode cX9_readItem 40 = .ok (.invokevirtual 245, 3) := by decide +kernel
theorem dX9_readItem_43 : decode cX9_readItem 43 = .ok (.ifCond .ne 5, 3) := by decide +kernel
theorem dX9_readItem_46 : decode cX9_readItem 46 = .ok (.iconst 0, 1) := by decide +kernel
theorem dX9_readItem_47 : decode cX9_readItem 47 = .ok (.ireturn, 1) := by decide +kernel
theorem dX9_readItem_48 : decode cX9_readItem 48 = .ok (.aload_n 0, 1) := by decide +kernel
theorem dX9_readItem_49 : decode cX9_readItem 49 = .ok (.getfield 235, 3) := by decide +kernel
theorem dX9_readItem_52 : decode cX9_readItem 52 = .ok (.istore_n 2, 1) := by decide +kernel
theorem dX9_readItem_53 : decode cX9_readItem 53 = .ok (.aload_n 0, 1) := by decide +kernel
theorem dX9_readItem_54 : decode cX9_readItem 54 = .ok (.bipush 36, 2) := by decide +kernel
theorem dX9_readItem_56 : decode cX9_readItem 56 = .ok (.invokevirtual 248, 3) := by decide +kernel
theorem dX9_readItem_59 : decode cX9_readItem 59 = .ok (.ifCond .eq 14, 3) := by decide +kernel
theorem dX9_readItem_62 : decode cX9_readItem 62 = .ok (.aload_n 0, 1) := by decide +kernel
theorem dX9_readItem_63 : decode cX9_readItem 63 = .ok (.iconst 1, 1) := by decide +kernel
theorem dX9_readItem_64 : decode cX9_readItem 64 = .ok (.sipush 9999, 3) := by decide +kernel
theorem dX9_readItem_67 : decode cX9_readItem 67 = .ok (.invokevirtual 245, 3) := by decide +kernel
theorem dX9_readItem_70 : decode cX9_readItem 70 = .ok (.ifCond .ne 5, 3) := by decide +kernel
theorem dX9_readItem_73 : decode cX9_readItem 73 = .ok (.iconst 0, 1) := by decide +kernel
theorem dX9_readItem_74 : decode cX9_readItem 74 = .ok (.ireturn, 1) := by decide +kernel
theorem dX9_readItem_75 : decode cX9_readItem 75 = .ok (.aload_n 0, 1) := by decide +kernel
theorem dX9_readItem_76 : decode cX9_readItem 76 = .ok (.getfield 235, 3) := by decide +kernel
theorem dX9_readItem_79 : decode cX9_readItem 79 = .ok (.istore_n 3, 1) := by decide +kernel
theorem dX9_readItem_80 : decode cX9_readItem 80 = .ok (.aload_n 0, 1) := by decide +kernel
theorem dX9_readItem_81 : decode cX9_readItem 81 = .ok (.iconst 1, 1) := by decide +kernel
theorem dX9_readItem_82 : decode cX9_readItem 82 = .ok (.invokevirtual 251, 3) := by decide +kernel
theorem dX9_readItem_85 : decode cX9_readItem 85 = .ok (.ifCond .ne 5, 3) := by decide +kernel
theorem dX9_readItem_88 : decode cX9_readItem 88 = .ok (.iconst 0, 1) := by decide +kernel
theorem dX9_readItem_89 : decode cX9_readItem 89 = .ok (.ireturn, 1) := by decide +kernel
theorem dX9_readItem_90 : decode cX9_readItem 90 = .ok (.aload_n 0, 1) := by decide +kernel
theorem dX9_readItem_91 : decode cX9_readItem 91 = .ok (.getfield 235, 3) := by decide +kernel
theorem dX9_readItem_94 : decode cX9_readItem 94 = .ok (.ifCond .ne 8, 3) := by decide +kernel
theorem dX9_readItem_97 : decode cX9_readItem 97 = .ok (.bipush 15, 2) := by decide +kernel
theorem dX9_readItem_99 : decode cX9_readItem 99 = .ok (.goto 7, 3) := by decide +kernel
theorem dX9_readItem_102 : decode cX9_readItem 102 = .ok (.aload_n 0, 1) := by decide +kernel
theorem dX9_readItem_103 : decode cX9_readItem 103 = .ok (.getfield 235, 3) := by decide +kernel
theorem dX9_readItem_106 : decode cX9_readItem 106 = .ok (.istore 4, 2) := by decide +kernel
theorem dX9_readItem_108 : decode cX9_readItem 108 = .ok (.iconst 0, 1) := by decide +kernel
theorem dX9_readItem_109 : decode cX9_readItem 109 = .ok (.istore 5, 2) := by decide +kernel
theorem dX9_readItem_111 : decode cX9_readItem 111 = .ok (.aload_n 0, 1) := by decide +kernel
theorem dX9_readItem_112 : decode cX9_readItem 112 = .ok (.bipush 43, 2) := by decide +kernel
theorem dX9_readItem_114 : decode cX9_readItem 114 = .ok (.invokevirtual 248, 3) := by decide +kernel
theorem dX9_readItem_117 : decode cX9_readItem 117 = .ok (.ifCond .eq 26, 3) := by decide +kernel
theorem dX9_readItem_120 : decode cX9_readItem 120 = .ok (.aload_n 0, 1) := by decide +kernel
theorem dX9_readItem_121 : decode cX9_readItem 121 = .ok (.iconst 0, 1) := by decide +kernel
theorem dX9_readItem_122 : decode cX9_readItem 122 = .ok (.invokevirtual 251, 3) := by decide +kernel
theorem dX9_readItem_125 : decode cX9_readItem 125 = .ok (.ifCond .eq 10, 3) := by decide +kernel
theorem dX9_readItem_128 : decode cX9_readItem 128 = .ok (.aload_n 0, 1) := by decide +kernel
theorem dX9_readItem_129 : decode cX9_readItem 129 = .ok (.getfield 235, 3) := by decide +kernel
theorem dX9_readItem_132 : decode cX9_readItem 132 = .ok (.ifCond .ne 5, 3) := by decide +kernel
theorem dX9_readItem_135 : decode cX9_readItem 135 = .ok (.iconst 0, 1) := by decide +kernel
theorem dX9_readItem_136 : decode cX9_readItem 136 = .ok (.ireturn, 1) := by decide +kernel
theorem dX9_readItem_137 : decode cX9_readItem 137 = .ok (.aload_n 0, 1) := by decide +kernel
theorem dX9_readItem_138 : decode cX9_readItem 138 = .ok (.getfield 235, 3) := by decide +kernel
theorem dX9_readItem_141 : decode cX9_readItem 141 = .ok (.istore 5, 2) := by decide +kernel
theorem dX9_readItem_143 : decode cX9_readItem 143 = .ok (.iconst 2, 1) := by decide +kernel
theorem dX9_readItem_144 : decode cX9_readItem 144 = .ok (.istore 6, 2) := by decide +kernel
theorem dX9_readItem_146 : decode cX9_readItem 146 = .ok (.aload_n 0, 1) := by decide +kernel
theorem dX9_readItem_147 : decode cX9_readItem 147 = .ok (.bipush 42, 2) := by decide +kernel
theorem dX9_readItem_149 : decode cX9_readItem 149 = .ok (.invokevirtual 248, 3) := by decide +kernel
theorem dX9_readItem_152 : decode cX9_readItem 152 = .ok (.ifCond .eq 20, 3) := by decide +kernel
theorem dX9_readItem_155 : decode cX9_readItem 155 = .ok (.aload_n 0, 1) := by decide +kernel
theorem dX9_readItem_156 : decode cX9_readItem 156 = .ok (.iconst 1, 1) := by decide +kernel
theorem dX9_readItem_157 : decode cX9_readItem 157 = .ok (.iconst 5, 1) := by decide +kernel
theorem dX9_readItem_158 : decode cX9_readItem 158 = .ok (.invokevirtual 245, 3) := by decide +kernel
theorem dX9_readItem_161 : decode cX9_readItem 161 = .ok (.ifCond .ne 5, 3) := by decide +kernel
theorem dX9_readItem_164 : decode cX9_readItem 164 = .ok (.iconst 0, 1) := by decide +kernel
theorem dX9_readItem_165 : decode cX9_readItem 165 = .ok (.ireturn, 1) := by decide +kernel
theorem dX9_readItem_166 : decode cX9_readItem 166 = .ok (.aload_n 0, 1) := by decide +kernel
theorem dX9_readItem_167 : decode cX9_readItem 167 = .ok (.getfield 235, 3) := by decide +kernel
theorem dX9_readItem_170 : decode cX9_readItem 170 = .ok (.istore 6, 2) := by decide +kernel
theorem dX9_readItem_172 : decode cX9_readItem 172 = .ok (.aload_n 0, 1) := by decide +kernel
theorem dX9_readItem_173 : decode cX9_readItem 173 = .ok (.getfield 13, 3) := by decide +kernel
theorem dX9_readItem_176 : decode cX9_readItem 176 = .ok (.iload_n 1, 1) := by decide +kernel
theorem dX9_readItem_177 : decode cX9_readItem 177 = .ok (.iload_n 2, 1) := by decide +kernel
theorem dX9_readItem_178 : decode cX9_readItem 178 = .ok (.iload_n 3, 1) := by decide +kernel
theorem dX9_readItem_179 : decode cX9_readItem 179 = .ok (.iload 4, 2) := by decide +kernel
theorem dX9_readItem_181 : decode cX9_readItem 181 = .ok (.iload 5, 2) := by decide +kernel
theorem dX9_readItem_183 : decode cX9_readItem 183 = .ok (.iload 6, 2) := by decide +kernel
theorem dX9_readItem_185 : decode cX9_readItem 185 = .ok (.invokestatic 156, 3) := by decide +kernel
theorem dX9_readItem_188 : decode cX9_readItem 188 = .ok (.aload_n 0, 1) := by decide +kernel
theorem dX9_readItem_189 : decode cX9_readItem 189 = .ok (.bipush 59, 2) := by decide +kernel
theorem dX9_readItem_191 : decode cX9_readItem 191 = .ok (.invokevirtual 248, 3) := by decide +kernel
theorem dX9_readItem_194 : decode cX9_readItem 194 = .ok (.ireturn, 1) := by decide +kernel
set_option maxRecDepth 20000 in
theorem ggX9_load_X9_bring : GoodIn wsX9_load wsX9_bring := goodIn_r _ [8] (by decide +kernel) (by decide +kernel)
set_option maxRecDepth 20000 in
theorem gX9_load_X9_bring : GoodIn wsX9_load (va_wsS RX9 60 yX9_bring wsX9_bring) := goodIn_app (goodIn_of _ (by decide +kernel)) ggX9_load_X9_bring
set_option maxRecDepth 20000 in
theorem ggX9_load_X9_overSpaces : GoodIn wsX9_load wsX9_overSpaces := goodIn_r _ [12, 3, 13, 14, 15, 7, 16, 4, 17, 57, 58, 59, 60, 61, 62, 63, 64, 65, 66, 67, 68, 69, 70, 71, 72, 73, 74, 75, 76, 77, 78, 79, 80, 81, 82, 83] (by decide +kernel) (by decide +kernel)
set_option maxRecDepth 20000 in
theorem gX9_load_X9_overSpaces : GoodIn wsX9_load (wsV RX9 232 RX9 yX9_overSpaces wsX9_overSpaces) := goodIn_app (goodIn_of _ (by decide +kernel)) ggX9_load_X9_overSpaces
set_option maxRecDepth 20000 in
theorem ggX9_load_X9_readItem : GoodIn wsX9_load wsX9_readItem := goodIn_r _ [21, 2, 22, 23, 24, 25, 7, 26, 3, 17, 9, 10, 11, 12, 13, 14, 15, 16, 4, 27, 28, 29, 30, 31, 32, 33, 34, 35, 36, 37, 38, 39, 40, 41, 42, 43, 44, 45, 46, 47, 48, 49, 50, 57, 58, 59, 60, 61, 62, 63, 64, 65, 66, 67, 68, 69, 70, 71, 72, 73, 74, 75, 76, 77, 78, 79, 80, 81, 82, 83] (by decide +kernel) (by decide +kernel)
set_option maxRecDepth 20000 in
theorem gX9_load_X9_readItem : GoodIn wsX9_load (wsV RX9 255 RX9 yX9_readItem wsX9_readItem) := goodIn_app (goodIn_of _ (by decide +kernel)) ggX9_load_X9_readItem
set_option maxRecDepth 20000 in
theorem ggX9_load_X9_keep : GoodIn wsX9_load wsX9_keep := goodIn_r _ [54, 55, 56, 1, 5, 6, 7, 8, 57, 58, 59, 60, 61, 62, 63, 64, 65, 66, 67, 68, 69, 70, 71, 72, 73, 74, 75, 76, 77, 78, 79, 80, 81, 82, 83] (by decide +kernel) (by decide +kernel)
set_option maxRecDepth 20000 in
theorem gX9_load_X9_keep : GoodIn wsX9_load (wsV RX9 153 RX9 yX9_keep wsX9_keep) := goodIn_app (goodIn_of _ (by decide +kernel)) ggX9_load_X9_keep
theorem dX9_load_0 : decode cX9_load 0 = .ok (.aload_n 0, 1) := by decide +kernel
theorem dX9_load_1 : decode cX9_load 1 = .ok (.getfield 7, 3) := by decide +kernel
theorem dX9_load_4 : decode cX9_load 4 = .ok (.iconst 0, 1) := by decide +kernel
theorem dX9_load_5 : decode cX9_load 5 = .ok (.aload_n 0, 1) := by decide +kernel
theorem dX9_load_6 : decode cX9_load 6 = .ok (.getfield 13, 3) := by decide +kernel
theorem dX9_load_9 : decode cX9_load 9 = .ok (.iconst 0, 1) := by decide +kernel
theorem dX9_load_10 : decode cX9_load 10 = .ok (.sipush 455, 3) := by decide +kernel
theorem dX9_load_13 : decode cX9_load 13 = .ok (.invokestatic 60, 3) := by decide +kernel
theorem dX9_load_16 : decode cX9_load 16 = .ok (.aload_n 0, 1) := by decide +kernel
theorem dX9_load_17 : decode cX9_load 17 = .ok (.iconst 0, 1) := by decide +kernel
theorem dX9_load_18 : decode cX9_load 18 = .ok (.putfield 226, 3) := by decide +kernel
theorem dX9_load_21 : decode cX9_load 21 = .ok (.iconst 0, 1) := by decide +kernel
theorem dX9_load_22 : decode cX9_load 22 = .ok (.istore_n 1, 1) := by decide +kernel
theorem dX9_load_23 : decode cX9_load 23 = .ok (.aload_n 0, 1) := by decide +kernel
theorem dX9_load_24 : decode cX9_load 24 = .ok (.invokevirtual 232, 3) := by decide +kernel
theorem dX9_load_27 : decode cX9_load 27 = .ok (.aload_n 0, 1) := by decide +kernel
theorem dX9_load_28 : decode cX9_load 28 = .ok (.getfield 226, 3) := by decide +kernel
theorem dX9_load_31 : decode cX9_load 31 = .ok (.aload_n 0, 1) := by decide +kernel
theorem dX9_load_32 : decode cX9_load 32 = .ok (.getfield 223, 3) := by decide +kernel
theorem dX9_load_35 : decode cX9_load 35 = .ok (.if_icmp .ge 29, 3) := by decide +kernel
theorem dX9_load_38 : decode cX9_load 38 = .ok (.aload_n 0, 1) := by decide +kernel
theorem dX9_load_39 : decode cX9_load 39 = .ok (.invokevirtual 255, 3) := by decide +kernel
theorem dX9_load_42 : decode cX9_load 42 = .ok (.ifCond .ne 12, 3) := by decide +kernel
theorem dX9_load_45 : decode cX9_load 45 = .ok (.sipush (-1000), 3) := by decide +kernel
theorem dX9_load_48 : decode cX9_load 48 = .ok (.aload_n 0, 1) := by decide +kernel
theorem dX9_load_49 : decode cX9_load 49 = .ok (.getfield 226, 3) := by decide +kernel
theorem dX9_load_52 : decode cX9_load 52 = .ok (.isub, 1) := by decide +kernel
theorem dX9_load_53 : decode cX9_load 53 = .ok (.ireturn, 1) := by decide +kernel
theorem dX9_load_54 : decode cX9_load 54 = .ok (.iinc 1 1, 3) := by decide +kernel
theorem dX9_load_57 : decode cX9_load 57 = .ok (.aload_n 0, 1) := by decide +kernel
theorem dX9_load_58 : decode cX9_load 58 = .ok (.invokevirtual 232, 3) := by decide +kernel
theorem dX9_load_61 : decode cX9_load 61 = .ok (.goto (-34), 3) := by decide +kernel
theorem dX9_load_64 : decode cX9_load 64 = .ok (.aload_n 0, 1) := by decide +kernel
theorem dX9_load_65 : decode cX9_load 65 = .ok (.invokevirtual 153, 3) := by decide +kernel
theorem dX9_load_68 : decode cX9_load 68 = .ok (.aload_n 0, 1) := by decide +kernel
theorem dX9_load_69 : decode cX9_load 69 = .ok (.getfield 13, 3) := by decide +kernel
theorem dX9_load_72 : decode cX9_load 72 = .ok (.iconst 0, 1) := by decide +kernel
theorem dX9_load_73 : decode cX9_load 73 = .ok (.aload_n 0, 1) := by decide +kernel
theorem dX9_load_74 : decode cX9_load 74 = .ok (.getfield 7, 3) := by decide +kernel
theorem dX9_load_77 : decode cX9_load 77 = .ok (.iconst 0, 1) := by decide +kernel
theorem dX9_load_78 : decode cX9_load 78 = .ok (.sipush 455, 3) := by decide +kernel
theorem dX9_load_81 : decode cX9_load 81 = .ok (.invokestatic 60, 3) := by decide +kernel
theorem dX9_load_84 : decode cX9_load 84 = .ok (.aload_n 0, 1) := by decide +kernel
theorem dX9_load_85 : decode cX9_load 85 = .ok (.iconst 0, 1) := by decide +kernel
theorem dX9_load_86 : decode cX9_load 86 = .ok (.putfield 223, 3) := by decide +kernel
theorem dX9_load_89 : decode cX9_load 89 = .ok (.iload_n 1, 1) := by decide +kernel
theorem dX9_load_90 : decode cX9_load 90 = .ok (.ireturn, 1) := by decide +kernel
set_option maxRecDepth 20000 in
theorem ggX9_pricesOfPrinted_X9_has : GoodIn wsX9_pricesOfPrinted wsX9_has := goodIn_r _ [6] (by decide +kernel) (by decide +kernel)
set_option maxRecDepth 20000 in
theorem gX9_pricesOfPrinted_X9_has : GoodIn wsX9_pricesOfPrinted (va_wsS RX9 72 yX9_has wsX9_has) := goodIn_app (goodIn_of _ (by decide +kernel)) ggX9_pricesOfPrinted_X9_has
set_option maxRecDepth 20000 in
theorem ggX9_pricesOfPrinted_X9_of : GoodIn wsX9_pricesOfPrinted wsX9_of := goodIn_r _ [10, 1, 11, 12, 13, 14, 15, 16, 17, 18, 19, 20, 21, 22, 23, 24, 25, 26, 27, 28, 29, 30, 31, 32, 33, 34, 35, 36, 37] (by decide +kernel) (by decide +kernel)
set_option maxRecDepth 20000 in
theorem gX9_pricesOfPrinted_X9_of : GoodIn wsX9_pricesOfPrinted (wsV RX9 68 RX9 yX9_of wsX9_of) := goodIn_app (goodIn_of _ (by decide +kernel)) ggX9_pricesOfPrinted_X9_of
theorem dX9_pricesOfPrinted_0 : decode cX9_pricesOfPrinted 0 = .ok (.iconst 0, 1) := by decide +kernel
theorem dX9_pricesOfPrinted_1 : decode cX9_pricesOfPrinted 1 = .ok (.istore_n 1, 1) := by decide +kernel
theorem dX9_pricesOfPrinted_2 : decode cX9_pricesOfPrinted 2 = .ok (.iconst 0, 1) := by decide +kernel
theorem dX9_pricesOfPrinted_3 : decode cX9_pricesOfPrinted 3 = .ok (.istore_n 2, 1) := by decide +kernel
theorem dX9_pricesOfPrinted_4 : decode cX9_pricesOfPrinted 4 = .ok (.iload_n 2, 1) := by decide +kernel
theorem dX9_pricesOfPrinted_5 : decode cX9_pricesOfPrinted 5 = .ok (.aload_n 0, 1) := by decide +kernel
theorem dX9_pricesOfPrinted_6 : decode cX9_pricesOfPrinted 6 = .ok (.getfield 7, 3) := by decide +kernel
theorem dX9_pricesOfPrinted_9 : decode cX9_pricesOfPrinted 9 = .ok (.iconst 0, 1) := by decide +kernel
theorem dX9_pricesOfPrinted_10 : decode cX9_pricesOfPrinted 10 = .ok (.iaload, 1) := by decide +kernel
theorem dX9_pricesOfPrinted_11 : decode cX9_pricesOfPrinted 11 = .ok (.if_icmp .ge 33, 3) := by decide +kernel
theorem dX9_pricesOfPrinted_14 : decode cX9_pricesOfPrinted 14 = .ok (.iload_n 1, 1) := by decide +kernel
theorem dX9_pricesOfPrinted_15 : decode cX9_pricesOfPrinted 15 = .ok (.aload_n 0, 1) := by decide +kernel
theorem dX9_pricesOfPrinted_16 : decode cX9_pricesOfPrinted 16 = .ok (.getfield 100, 3) := by decide +kernel
theorem dX9_pricesOfPrinted_19 : decode cX9_pricesOfPrinted 19 = .ok (.iload_n 2, 1) := by decide +kernel
theorem dX9_pricesOfPrinted_20 : decode cX9_pricesOfPrinted 20 = .ok (.invokestatic 72, 3) := by decide +kernel
theorem dX9_pricesOfPrinted_23 : decode cX9_pricesOfPrinted 23 = .ok (.ifCond .eq 12, 3) := by decide +kernel
theorem dX9_pricesOfPrinted_26 : decode cX9_pricesOfPrinted 26 = .ok (.aload_n 0, 1) := by decide +kernel
theorem dX9_pricesOfPrinted_27 : decode cX9_pricesOfPrinted 27 = .ok (.iload_n 2, 1) := by decide +kernel
theorem dX9_pricesOfPrinted_28 : decode cX9_pricesOfPrinted 28 = .ok (.iconst 2, 1) := by decide +kernel
theorem dX9_pricesOfPrinted_29 : decode cX9_pricesOfPrinted 29 = .ok (.invokevirtual 68, 3) := by decide +kernel
theorem dX9_pricesOfPrinted_32 : decode cX9_pricesOfPrinted 32 = .ok (.goto 4, 3) := by decide +kernel
theorem dX9_pricesOfPrinted_35 : decode cX9_pricesOfPrinted 35 = .ok (.iconst 0, 1) := by decide +kernel
theorem dX9_pricesOfPrinted_36 : decode cX9_pricesOfPrinted 36 = .ok (.iadd, 1) := by decide +kernel
theorem dX9_pricesOfPrinted_37 : decode cX9_pricesOfPrinted 37 = .ok (.istore_n 1, 1) := by decide +kernel
theorem dX9_pricesOfPrinted_38 : decode cX9_pricesOfPrinted 38 = .ok (.iinc 2 1, 3) := by decide +kernel
theorem dX9_pricesOfPrinted_41 : decode cX9_pricesOfPrinted 41 = .ok (.goto (-37), 3) := by decide +kernel
theorem dX9_pricesOfPrinted_44 : decode cX9_pricesOfPrinted 44 = .ok (.iload_n 1, 1) := by decide +kernel
theorem dX9_pricesOfPrinted_45 : decode cX9_pricesOfPrinted 45 = .ok (.ireturn, 1) := by decide +kernel
set_option maxRecDepth 20000 in
theorem ggX9_count_X9_lay : GoodIn wsX9_count wsX9_lay := goodIn_r _ [16, 17, 3, 4, 18, 19, 20, 21, 22, 23, 24, 15, 25, 2, 6, 1, 5, 26, 27, 28, 29, 30, 31, 32, 33, 34, 35, 36, 37, 38, 39, 40, 41, 42, 43, 44, 45, 46, 47, 48, 49, 50, 51, 52, 53, 54, 55, 56, 57, 58, 59, 60, 61, 62, 63, 64, 65, 66, 67, 68, 69, 70, 71, 72, 73, 74, 75, 76, 77, 78, 79, 80, 81, 82, 83, 84, 7, 85, 86, 87, 88, 8, 89, 9, 90, 91, 92, 93, 102, 103, 104, 105, 106, 107, 108, 109, 110, 111, 112, 113, 114, 115, 116, 117, 118, 119, 120, 121, 122, 123, 124, 125, 126, 127, 128] (by decide +kernel) (by decide +kernel)
set_option maxRecDepth 20000 in
theorem gX9_count_X9_lay : GoodIn wsX9_count (wsV RX9 183 RX9 yX9_lay wsX9_lay) := goodIn_app (goodIn_of _ (by decide +kernel)) ggX9_count_X9_lay
set_option maxRecDepth 20000 in
theorem ggX9_count_X9_size : GoodIn wsX9_count wsX9_size := goodIn_r _ [76] (by decide +kernel) (by decide +kernel)
set_option maxRecDepth 20000 in
theorem gX9_count_X9_size : GoodIn wsX9_count (va_wsS RX9 90 yX9_size wsX9_size) := goodIn_app (goodIn_of _ (by decide +kernel)) ggX9_count_X9_size
set_option maxRecDepth 20000 in
theorem ggX9_count_X9_isEven : GoodIn wsX9_count wsX9_isEven := goodIn_r _ [97, 3, 102, 103, 104, 105, 106, 107, 108, 109, 110, 111, 112, 113, 114, 115, 116, 117, 118, 119, 120, 121, 122, 123, 124, 125, 126, 127, 128] (by decide +kernel) (by decide +kernel)
set_option maxRecDepth 20000 in
theorem gX9_count_X9_isEven : GoodIn wsX9_count (wsV RX9 166 RX9 yX9_isEven wsX9_isEven) := goodIn_app (goodIn_of _ (by decide +kernel)) ggX9_count_X9_isEven
set_option maxRecDepth 20000 in
theorem ggX9_count_X9_pricesOfPrinted : GoodIn wsX9_count wsX9_pricesOfPrinted := goodIn_r _ [101, 1, 2, 46, 47, 15, 48, 42, 43, 44, 45, 102, 103, 104, 105, 106, 107, 108, 109, 110, 111, 112, 113, 114, 115, 116, 117, 118, 119, 120, 121, 122, 123, 124, 125, 126, 127, 128] (by decide +kernel) (by decide +kernel)
set_option maxRecDepth 20000 in
theorem gX9_count_X9_pricesOfPrinted : GoodIn wsX9_count (wsV RX9 258 RX9 yX9_pricesOfPrinted wsX9_pricesOfPrinted) := goodIn_app (goodIn_of _ (by decide +kernel)) ggX9_count_X9_pricesOfPrinted
theorem dX9_count_0 : decode cX9_count 0 = .ok (.aload_n 0, 1) := by decide +kernel
theorem dX9_count_1 : decode cX9_count 1 = .ok (.invokevirtual 183, 3) := by decide +kernel
theorem dX9_count_4 : decode cX9_count 4 = .ok (.iload_n 1, 1) := by decide +kernel
theorem dX9_count_5 : decode cX9_count 5 = .ok (.tableswitch 186 0 15 #[79, 86, 94, 94, 103, 103, 112, 117, 125, 130, 135, 140, 153, 158, 176, 181], 79) := by decide +kernel
theorem dX9_count_84 : decode cX9_count 84 = .ok (.aload_n 0, 1) := by decide +kernel
theorem dX9_count_85 : decode cX9_count 85 = .ok (.getfield 7, 3) := by decide +kernel
theorem dX9_count_88 : decode cX9_count 88 = .ok (.iconst 0, 1) := by decide +kernel
theorem dX9_count_89 : decode cX9_count 89 = .ok (.iaload, 1) := by decide +kernel
theorem dX9_count_90 : decode cX9_count 90 = .ok (.ireturn, 1) := by decide +kernel
theorem dX9_count_91 : decode cX9_count 91 = .ok (.aload_n 0, 1) := by decide +kernel
theorem dX9_count_92 : decode cX9_count 92 = .ok (.getfield 100, 3) := by decide +kernel
theorem dX9_count_95 : decode cX9_count 95 = .ok (.invokestatic 90, 3) := by decide +kernel
theorem dX9_count_98 : decode cX9_count 98 = .ok (.ireturn, 1) := by decide +kernel
theorem dX9_count_99 : decode cX9_count 99 = .ok (.aload_n 0, 1) := by decide +kernel
theorem dX9_count_100 : decode cX9_count 100 = .ok (.getfield 43, 3) := by decide +kernel
theorem dX9_count_103 : decode cX9_count 103 = .ok (.iload_n 1, 1) := by decide +kernel
theorem dX9_count_104 : decode cX9_count 104 = .ok (.iconst 2, 1) := by decide +kernel
theorem dX9_count_105 : decode cX9_count 105 = .ok (.isub, 1) := by decide +kernel
theorem dX9_count_106 : decode cX9_count 106 = .ok (.iaload, 1) := by decide +kernel
theorem dX9_count_107 : decode cX9_count 107 = .ok (.ireturn, 1) := by decide +kernel
theorem dX9_count_108 : decode cX9_count 108 = .ok (.aload_n 0, 1) := by decide +kernel
theorem dX9_count_109 : decode cX9_count 109 = .ok (.getfield 46, 3) := by decide +kernel
theorem dX9_count_112 : decode cX9_count 112 = .ok (.iload_n 1, 1) := by decide +kernel
theorem dX9_count_113 : decode cX9_count 113 = .ok (.iconst 4, 1) := by decide +kernel
theorem dX9_count_114 : decode cX9_count 114 = .ok (.isub, 1) := by decide +kernel
theorem dX9_count_115 : decode cX9_count 115 = .ok (.iaload, 1) := by decide +kernel
theorem dX9_count_116 : decode cX9_count 116 = .ok (.ireturn, 1) := by decide +kernel
theorem dX9_count_117 : decode cX9_count 117 = .ok (.aload_n 0, 1) := by decide +kernel
theorem dX9_count_118 : decode cX9_count 118 = .ok (.getfield 107, 3) := by decide +kernel
theorem dX9_count_121 : decode cX9_count 121 = .ok (.ireturn, 1) := by decide +kernel
theorem dX9_count_122 : decode cX9_count 122 = .ok (.aload_n 0, 1) := by decide +kernel
theorem dX9_count_123 : decode cX9_count 123 = .ok (.getfield 116, 3) := by decide +kernel
theorem dX9_count_126 : decode cX9_count 126 = .ok (.invokestatic 90, 3) := by decide +kernel
theorem dX9_count_129 : decode cX9_count 129 = .ok (.ireturn, 1) := by decide +kernel
theorem dX9_count_130 : decode cX9_count 130 = .ok (.aload_n 0, 1) := by decide +kernel
theorem dX9_count_131 : decode cX9_count 131 = .ok (.getfield 122, 3) := by decide +kernel
theorem dX9_count_134 : decode cX9_count 134 = .ok (.ireturn, 1) := by decide +kernel
theorem dX9_count_135 : decode cX9_count 135 = .ok (.aload_n 0, 1) := by decide +kernel
theorem dX9_count_136 : decode cX9_count 136 = .ok (.getfield 125, 3) := by decide +kernel
theorem dX9_count_139 : decode cX9_count 139 = .ok (.ireturn, 1) := by decide +kernel
theorem dX9_count_140 : decode cX9_count 140 = .ok (.aload_n 0, 1) := by decide +kernel
theorem dX9_count_141 : decode cX9_count 141 = .ok (.getfield 131, 3) := by decide +kernel
theorem dX9_count_144 : decode cX9_count 144 = .ok (.ireturn, 1) := by decide +kernel
theorem dX9_count_145 : decode cX9_count 145 = .ok (.aload_n 0, 1) := by decide +kernel
theorem dX9_count_146 : decode cX9_count 146 = .ok (.invokevirtual 166, 3) := by decide +kernel
theorem dX9_count_149 : decode cX9_count 149 = .ok (.ifCond .eq 7, 3) := by decide +kernel
theorem dX9_count_152 : decode cX9_count 152 = .ok (.iconst 1, 1) := by decide +kernel
theorem dX9_count_153 : decode cX9_count 153 = .ok (.goto 4, 3) := by decide +kernel
theorem dX9_count_156 : decode cX9_count 156 = .ok (.iconst 0, 1) := by decide +kernel
theorem dX9_count_157 : decode cX9_count 157 = .ok (.ireturn, 1) := by decide +kernel
theorem dX9_count_158 : decode cX9_count 158 = .ok (.aload_n 0, 1) := by decide +kernel
theorem dX9_count_159 : decode cX9_count 159 = .ok (.invokevirtual 258, 3) := by decide +kernel
theorem dX9_count_162 : decode cX9_count 162 = .ok (.ireturn, 1) := by decide +kernel
theorem dX9_count_163 : decode cX9_count 163 = .ok (.aload_n 0, 1) := by decide +kernel
theorem dX9_count_164 : decode cX9_count 164 = .ok (.getfield 7, 3) := by decide +kernel
theorem dX9_count_167 : decode cX9_count 167 = .ok (.sipush 151, 3) := by decide +kernel
theorem dX9_count_170 : decode cX9_count 170 = .ok (.iaload, 1) := by decide +kernel
theorem dX9_count_171 : decode cX9_count 171 = .ok (.aload_n 0, 1) := by decide +kernel
theorem dX9_count_172 : decode cX9_count 172 = .ok (.getfield 7, 3) := by decide +kernel
theorem dX9_count_175 : decode cX9_count 175 = .ok (.sipush 303, 3) := by decide +kernel
theorem dX9_count_178 : decode cX9_count 178 = .ok (.iaload, 1) := by decide +kernel
theorem dX9_count_179 : decode cX9_count 179 = .ok (.iadd, 1) := by decide +kernel
theorem dX9_count_180 : decode cX9_count 180 = .ok (.ireturn, 1) := by decide +kernel
theorem dX9_count_181 : decode cX9_count 181 = .ok (.aload_n 0, 1) := by decide +kernel
theorem dX9_count_182 : decode cX9_count 182 = .ok (.getfield 56, 3) := by decide +kernel
theorem dX9_count_185 : decode cX9_count 185 = .ok (.ireturn, 1) := by decide +kernel
theorem dX9_count_186 : decode cX9_count 186 = .ok (.aload_n 0, 1) := by decide +kernel
theorem dX9_count_187 : decode cX9_count 187 = .ok (.getfield 223, 3) := by decide +kernel
theorem dX9_count_190 : decode cX9_count 190 = .ok (.ireturn, 1) := by decide +kernel
theorem dX9_count_191 : decode cX9_count 191 = .ok (.iconst (-1), 1) := by decide +kernel
theorem dX9_count_192 : decode cX9_count 192 = .ok (.ireturn, 1) := by decide +kernel
set_option maxRecDepth 20000 in
theorem ggX9_card_X9_in : GoodIn wsX9_card wsX9_in := goodIn_r _ [5] (by decide +kernel) (by decide +kernel)
set_option maxRecDepth 20000 in
theorem gX9_card_X9_in : GoodIn wsX9_card (va_wsS RX9 64 yX9_in wsX9_in) := goodIn_app (goodIn_of _ (by decide +kernel)) ggX9_card_X9_in
theorem dX9_card_0 : decode cX9_card 0 = .ok (.iload_n 1, 1) := by decide +kernel
theorem dX9_card_1 : decode cX9_card 1 = .ok (.iconst 0, 1) := by decide +kernel
theorem dX9_card_2 : decode cX9_card 2 = .ok (.bipush 9, 2) := by decide +kernel
theorem dX9_card_4 : decode cX9_card 4 = .ok (.invokestatic 64, 3) := by decide +kernel
theorem dX9_card_7 : decode cX9_card 7 = .ok (.ifCond .eq 16, 3) := by decide +kernel
theorem dX9_card_10 : decode cX9_card 10 = .ok (.aload_n 0, 1) := by decide +kernel
theorem dX9_card_11 : decode cX9_card 11 = .ok (.getfield 7, 3) := by decide +kernel
theorem dX9_card_14 : decode cX9_card 14 = .ok (.sipush 141, 3) := by decide +kernel
theorem dX9_card_17 : decode cX9_card 17 = .ok (.iload_n 1, 1) := by decide +kernel
theorem dX9_card_18 : decode cX9_card 18 = .ok (.iadd, 1) := by decide +kernel
theorem dX9_card_19 : decode cX9_card 19 = .ok (.iaload, 1) := by decide +kernel
theorem dX9_card_20 : decode cX9_card 20 = .ok (.goto 4, 3) := by decide +kernel
theorem dX9_card_23 : decode cX9_card 23 = .ok (.iconst (-1), 1) := by decide +kernel
theorem dX9_card_24 : decode cX9_card 24 = .ok (.ireturn, 1) := by decide +kernel
theorem dX9_placeOf_0 : decode cX9_placeOf 0 = .ok (.bipush (-99), 2) := by decide +kernel
theorem dX9_placeOf_2 : decode cX9_placeOf 2 = .ok (.istore_n 2, 1) := by decide +kernel
theorem dX9_placeOf_3 : decode cX9_placeOf 3 = .ok (.iconst 0, 1) := by decide +kernel
theorem dX9_placeOf_4 : decode cX9_placeOf 4 = .ok (.istore_n 3, 1) := by decide +kernel
theorem dX9_placeOf_5 : decode cX9_placeOf 5 = .ok (.iload_n 3, 1) := by decide +kernel
theorem dX9_placeOf_6 : decode cX9_placeOf 6 = .ok (.bipush 52, 2) := by decide +kernel
theorem dX9_placeOf_8 : decode cX9_placeOf 8 = .ok (.if_icmp .ge 51, 3) := by decide +kernel
theorem dX9_placeOf_11 : decode cX9_placeOf 11 = .ok (.iload_n 3, 1) := by decide +kernel
theorem dX9_placeOf_12 : decode cX9_placeOf 12 = .ok (.bipush 26, 2) := by decide +kernel
theorem dX9_placeOf_14 : decode cX9_placeOf 14 = .ok (.irem, 1) := by decide +kernel
theorem dX9_placeOf_15 : decode cX9_placeOf 15 = .ok (.aload_n 0, 1) := by decide +kernel
theorem dX9_placeOf_16 : decode cX9_placeOf 16 = .ok (.getfield 22, 3) := by decide +kernel
theorem dX9_placeOf_19 : decode cX9_placeOf 19 = .ok (.iload_n 3, 1) := by decide +kernel
theorem dX9_placeOf_20 : decode cX9_placeOf 20 = .ok (.bipush 26, 2) := by decide +kernel
theorem dX9_placeOf_22 : decode cX9_placeOf 22 = .ok (.idiv, 1) := by decide +kernel
theorem dX9_placeOf_23 : decode cX9_placeOf 23 = .ok (.iaload, 1) := by decide +kernel
theorem dX9_placeOf_24 : decode cX9_placeOf 24 = .ok (.if_icmp .ge 27, 3) := by decide +kernel
theorem dX9_placeOf_27 : decode cX9_placeOf 27 = .ok (.aload_n 0, 1) := by decide +kernel
theorem dX9_placeOf_28 : decode cX9_placeOf 28 = .ok (.getfield 25, 3) := by decide +kernel
theorem dX9_placeOf_31 : decode cX9_placeOf 31 = .ok (.iload_n 3, 1) := by decide +kernel
theorem dX9_placeOf_32 : decode cX9_placeOf 32 = .ok (.iaload, 1) := by decide +kernel
theorem dX9_placeOf_33 : decode cX9_placeOf 33 = .ok (.iconst 2, 1) := by decide +kernel
theorem dX9_placeOf_34 : decode cX9_placeOf 34 = .ok (.if_icmp .ne 17, 3) := by decide +kernel
theorem dX9_placeOf_37 : decode cX9_placeOf 37 = .ok (.aload_n 0, 1) := by decide +kernel
theorem dX9_placeOf_38 : decode cX9_placeOf 38 = .ok (.getfield 28, 3) := by decide +kernel
theorem dX9_placeOf_41 : decode cX9_placeOf 41 = .ok (.iload_n 3, 1) := by decide +kernel
theorem dX9_placeOf_42 : decode cX9_placeOf 42 = .ok (.iaload, 1) := by decide +kernel
theorem dX9_placeOf_43 : decode cX9_placeOf 43 = .ok (.iload_n 1, 1) := by decide +kernel
theorem dX9_placeOf_44 : decode cX9_placeOf 44 = .ok (.if_icmp .ne 7, 3) := by decide +kernel
theorem dX9_placeOf_47 : decode cX9_placeOf 47 = .ok (.iload_n 3, 1) := by decide +kernel
theorem dX9_placeOf_48 : decode cX9_placeOf 48 = .ok (.goto 4, 3) := by decide +kernel
theorem dX9_placeOf_51 : decode cX9_placeOf 51 = .ok (.iload_n 2, 1) := by decide +kernel
theorem dX9_placeOf_52 : decode cX9_placeOf 52 = .ok (.istore_n 2, 1) := by decide +kernel
theorem dX9_placeOf_53 : decode cX9_placeOf 53 = .ok (.iinc 3 1, 3) := by decide +kernel
theorem dX9_placeOf_56 : decode cX9_placeOf 56 = .ok (.goto (-51), 3) := by decide +kernel
theorem dX9_placeOf_59 : decode cX9_placeOf 59 = .ok (.iload_n 2, 1) := by decide +kernel
theorem dX9_placeOf_60 : decode cX9_placeOf 60 = .ok (.ireturn, 1) := by decide +kernel
set_option maxRecDepth 20000 in
theorem ggX9_dish_X9_isDish : GoodIn wsX9_dish wsX9_isDish := goodIn_r _ [7, 8, 9, 10, 6, 11, 103, 104, 105, 106, 107, 108, 109, 110, 111, 112, 113, 114, 115, 116, 117, 118, 119, 120, 121, 122, 123, 124, 125, 126, 127, 128, 129] (by decide +kernel) (by decide +kernel)
set_option maxRecDepth 20000 in
theorem gX9_dish_X9_isDish : GoodIn wsX9_dish (wsV RX9 160 RX9 yX9_isDish wsX9_isDish) := goodIn_app (goodIn_of _ (by decide +kernel)) ggX9_dish_X9_isDish
set_option maxRecDepth 20000 in
theorem ggX9_dish_X9_in : GoodIn wsX9_dish wsX9_in := goodIn_r _ [11] (by decide +kernel) (by decide +kernel)
set_option maxRecDepth 20000 in
theorem gX9_dish_X9_in : GoodIn wsX9_dish (va_wsS RX9 64 yX9_in wsX9_in) := goodIn_app (goodIn_of _ (by decide +kernel)) ggX9_dish_X9_in
set_option maxRecDepth 20000 in
theorem ggX9_dish_X9_of : GoodIn wsX9_dish wsX9_of := goodIn_r _ [15, 8, 103, 104, 105, 106, 107, 108, 109, 110, 111, 112, 113, 114, 115, 116, 117, 118, 119, 120, 121, 122, 123, 124, 125, 126, 127, 128, 129] (by decide +kernel) (by decide +kernel)
set_option maxRecDepth 20000 in
theorem gX9_dish_X9_of : GoodIn wsX9_dish (wsV RX9 68 RX9 yX9_of wsX9_of) := goodIn_app (goodIn_of _ (by decide +kernel)) ggX9_dish_X9_of
set_option maxRecDepth 20000 in
theorem ggX9_dish_X9_lay : GoodIn wsX9_dish wsX9_lay := goodIn_r _ [19, 20, 21, 22, 23, 24, 2, 1, 25, 26, 27, 6, 28, 29, 30, 8, 31, 32, 33, 34, 35, 36, 37, 38, 39, 40, 41, 42, 43, 44, 45, 46, 47, 12, 13, 14, 15, 48, 49, 50, 51, 52, 53, 54, 55, 56, 57, 58, 59, 60, 61, 62, 63, 64, 65, 66, 67, 68, 69, 70, 71, 72, 73, 74, 75, 76, 77, 78, 79, 80, 81, 82, 83, 84, 85, 86, 87, 88, 89, 90, 91, 92, 93, 94, 95, 96, 97, 98, 103, 104, 105, 106, 107, 108, 109, 110, 111, 112, 113, 114, 115, 116, 117, 118, 119, 120, 121, 122, 123, 124, 125, 126, 127, 128, 129] (by decide +kernel) (by decide +kernel)
set_option maxRecDepth 20000 in
theorem gX9_dish_X9_lay : GoodIn wsX9_dish (wsV RX9 183 RX9 yX9_lay wsX9_lay) := goodIn_app (goodIn_of _ (by decide +kernel)) ggX9_dish_X9_lay
set_option maxRecDepth 20000 in
theorem ggX9_dish_X9_placeOf : GoodIn wsX9_dish wsX9_placeOf := goodIn_r _ [102, 20, 66, 67, 103, 104, 105, 106, 107, 108, 109, 110, 111, 112, 113, 114, 115, 116, 117, 118, 119, 120, 121, 122, 123, 124, 125, 126, 127, 128, 129] (by decide +kernel) (by decide +kernel)
set_option maxRecDepth 20000 in
theorem gX9_dish_X9_placeOf : GoodIn wsX9_dish (wsV RX9 261 RX9 yX9_placeOf wsX9_placeOf) := goodIn_app (goodIn_of _ (by decide +kernel)) ggX9_dish_X9_placeOf
theorem dX9_dish_0 : decode cX9_dish 0 = .ok (.aload_n 0, 1) := by decide +kernel
theorem dX9_dish_1 : decode cX9_dish 1 = .ok (.iload_n 1, 1) := by decide +kernel
theorem dX9_dish_2 : decode cX9_dish 2 = .ok (.invokevirtual 160, 3) := by decide +kernel
theorem dX9_dish_5 : decode cX9_dish 5 = .ok (.ifCond .eq 13, 3) := by decide +kernel
theorem dX9_dish_8 : decode cX9_dish 8 = .ok (.iload_n 2, 1) := by decide +kernel
theorem dX9_dish_9 : decode cX9_dish 9 = .ok (.iconst 0, 1) := by decide +kernel
theorem dX9_dish_10 : decode cX9_dish 10 = .ok (.bipush 8, 2) := by decide +kernel
theorem dX9_dish_12 : decode cX9_dish 12 = .ok (.invokestatic 64, 3) := by decide +kernel
theorem dX9_dish_15 : decode cX9_dish 15 = .ok (.ifCond .ne 5, 3) := by decide +kernel
theorem dX9_dish_18 : decode cX9_dish 18 = .ok (.iconst (-1), 1) := by decide +kernel
theorem dX9_dish_19 : decode cX9_dish 19 = .ok (.ireturn, 1) := by decide +kernel
theorem dX9_dish_20 : decode cX9_dish 20 = .ok (.iload_n 2, 1) := by decide +kernel
theorem dX9_dish_21 : decode cX9_dish 21 = .ok (.bipush 7, 2) := by decide +kernel
theorem dX9_dish_23 : decode cX9_dish 23 = .ok (.if_icmp .ge 10, 3) := by decide +kernel
theorem dX9_dish_26 : decode cX9_dish 26 = .ok (.aload_n 0, 1) := by decide +kernel
theorem dX9_dish_27 : decode cX9_dish 27 = .ok (.iload_n 1, 1) := by decide +kernel
theorem dX9_dish_28 : decode cX9_dish 28 = .ok (.iload_n 2, 1) := by decide +kernel
theorem dX9_dish_29 : decode cX9_dish 29 = .ok (.invokevirtual 68, 3) := by decide +kernel
theorem dX9_dish_32 : decode cX9_dish 32 = .ok (.ireturn, 1) := by decide +kernel
theorem dX9_dish_33 : decode cX9_dish 33 = .ok (.aload_n 0, 1) := by decide +kernel
theorem dX9_dish_34 : decode cX9_dish 34 = .ok (.invokevirtual 183, 3) := by decide +kernel
theorem dX9_dish_37 : decode cX9_dish 37 = .ok (.aload_n 0, 1) := by decide +kernel
theorem dX9_dish_38 : decode cX9_dish 38 = .ok (.iload_n 1, 1) := by decide +kernel
theorem dX9_dish_39 : decode cX9_dish 39 = .ok (.invokevirtual 261, 3) := by decide +kernel
theorem dX9_dish_42 : decode cX9_dish 42 = .ok (.istore_n 3, 1) := by decide +kernel
theorem dX9_dish_43 : decode cX9_dish 43 = .ok (.iload_n 3, 1) := by decide +kernel
theorem dX9_dish_44 : decode cX9_dish 44 = .ok (.ifCond .ge 18, 3) := by decide +kernel
theorem dX9_dish_47 : decode cX9_dish 47 = .ok (.iload_n 2, 1) := by decide +kernel
theorem dX9_dish_48 : decode cX9_dish 48 = .ok (.bipush 7, 2) := by decide +kernel
theorem dX9_dish_50 : decode cX9_dish 50 = .ok (.if_icmp .ne 7, 3) := by decide +kernel
theorem dX9_dish_53 : decode cX9_dish 53 = .ok (.iconst 0, 1) := by decide +kernel
theorem dX9_dish_54 : decode cX9_dish 54 = .ok (.goto 29, 3) := by decide +kernel
theorem dX9_dish_57 : decode cX9_dish 57 = .ok (.bipush (-99), 2) := by decide +kernel
theorem dX9_dish_59 : decode cX9_dish 59 = .ok (.goto 24, 3) := by decide +kernel
theorem dX9_dish_62 : decode cX9_dish 62 = .ok (.iload_n 2, 1) := by decide +kernel
theorem dX9_dish_63 : decode cX9_dish 63 = .ok (.bipush 7, 2) := by decide +kernel
theorem dX9_dish_65 : decode cX9_dish 65 = .ok (.if_icmp .ne 12, 3) := by decide +kernel
theorem dX9_dish_68 : decode cX9_dish 68 = .ok (.aload_n 0, 1) := by decide +kernel
theorem dX9_dish_69 : decode cX9_dish 69 = .ok (.getfield 31, 3) := by decide +kernel
theorem dX9_dish_72 : decode cX9_dish 72 = .ok (.iload_n 3, 1) := by decide +kernel
theorem dX9_dish_73 : decode cX9_dish 73 = .ok (.iaload, 1) := by decide +kernel
theorem dX9_dish_74 : decode cX9_dish 74 = .ok (.goto 9, 3) := by decide +kernel
theorem dX9_dish_77 : decode cX9_dish 77 = .ok (.aload_n 0, 1) := by decide +kernel
theorem dX9_dish_78 : decode cX9_dish 78 = .ok (.getfield 34, 3) := by decide +kernel
theorem dX9_dish_81 : decode cX9_dish 81 = .ok (.iload_n 3, 1) := by decide +kernel
theorem dX9_dish_82 : decode cX9_dish 82 = .ok (.iaload, 1) := by decide +kernel
theorem dX9_dish_83 : decode cX9_dish 83 = .ok (.ireturn, 1) := by decide +kernel
set_option maxRecDepth 20000 in
theorem ggX9_allergenOf_X9_has : GoodIn wsX9_allergenOf wsX9_has := goodIn_r _ [5] (by decide +kernel) (by decide +kernel)
set_option maxRecDepth 20000 in
theorem gX9_allergenOf_X9_has : GoodIn wsX9_allergenOf (va_wsS RX9 72 yX9_has wsX9_has) := goodIn_app (goodIn_of _ (by decide +kernel)) ggX9_allergenOf_X9_has
theorem dX9_allergenOf_0 : decode cX9_allergenOf 0 = .ok (.iconst 3, 1) := by decide +kernel
theorem dX9_allergenOf_1 : decode cX9_allergenOf 1 = .ok (.iload_n 1, 1) := by decide +kernel
theorem dX9_allergenOf_2 : decode cX9_allergenOf 2 = .ok (.imul, 1) := by decide +kernel
theorem dX9_allergenOf_3 : decode cX9_allergenOf 3 = .ok (.istore_n 2, 1) := by decide +kernel
theorem dX9_allergenOf_4 : decode cX9_allergenOf 4 = .ok (.iconst 0, 1) := by decide +kernel
theorem dX9_allergenOf_5 : decode cX9_allergenOf 5 = .ok (.istore_n 3, 1) := by decide +kernel
theorem dX9_allergenOf_6 : decode cX9_allergenOf 6 = .ok (.aload_n 0, 1) := by decide +kernel
theorem dX9_allergenOf_7 : decode cX9_allergenOf 7 = .ok (.getfield 116, 3) := by decide +kernel
theorem dX9_allergenOf_10 : decode cX9_allergenOf 10 = .ok (.iload_n 3, 1) := by decide +kernel
theorem dX9_allergenOf_11 : decode cX9_allergenOf 11 = .ok (.invokestatic 72, 3) := by decide +kernel
theorem dX9_allergenOf_14 : decode cX9_allergenOf 14 = .ok (.ifCond .eq 7, 3) := by decide +kernel
theorem dX9_allergenOf_17 : decode cX9_allergenOf 17 = .ok (.iload_n 2, 1) := by decide +kernel
theorem dX9_allergenOf_18 : decode cX9_allergenOf 18 = .ok (.ifCond .le 28, 3) := by decide +kernel
theorem dX9_allergenOf_21 : decode cX9_allergenOf 21 = .ok (.iload_n 2, 1) := by decide +kernel
theorem dX9_allergenOf_22 : decode cX9_allergenOf 22 = .ok (.aload_n 0, 1) := by decide +kernel
theorem dX9_allergenOf_23 : decode cX9_allergenOf 23 = .ok (.getfield 116, 3) := by decide +kernel
theorem dX9_allergenOf_26 : decode cX9_allergenOf 26 = .ok (.iload_n 3, 1) := by decide +kernel
theorem dX9_allergenOf_27 : decode cX9_allergenOf 27 = .ok (.invokestatic 72, 3) := by decide +kernel
theorem dX9_allergenOf_30 : decode cX9_allergenOf 30 = .ok (.ifCond .eq 7, 3) := by decide +kernel
theorem dX9_allergenOf_33 : decode cX9_allergenOf 33 = .ok (.iconst 1, 1) := by decide +kernel
theorem dX9_allergenOf_34 : decode cX9_allergenOf 34 = .ok (.goto 4, 3) := by decide +kernel
theorem dX9_allergenOf_37 : decode cX9_allergenOf 37 = .ok (.iconst 0, 1) := by decide +kernel
theorem dX9_allergenOf_38 : decode cX9_allergenOf 38 = .ok (.isub, 1) := by decide +kernel
theorem dX9_allergenOf_39 : decode cX9_allergenOf 39 = .ok (.istore_n 2, 1) := by decide +kernel
theorem dX9_allergenOf_40 : decode cX9_allergenOf 40 = .ok (.iinc 3 1, 3) := by decide +kernel
theorem dX9_allergenOf_43 : decode cX9_allergenOf 43 = .ok (.goto (-37), 3) := by decide +kernel
theorem dX9_allergenOf_46 : decode cX9_allergenOf 46 = .ok (.iload_n 3, 1) := by decide +kernel
theorem dX9_allergenOf_47 : decode cX9_allergenOf 47 = .ok (.ireturn, 1) := by decide +kernel
set_option maxRecDepth 20000 in
theorem ggX9_weightOf_X9_of : GoodIn wsX9_weightOf wsX9_of := goodIn_r _ [6, 7, 11, 12, 13, 14, 15, 16, 17, 18, 19, 20, 21, 22, 23, 24, 25, 26, 27, 28, 29, 30, 31, 32, 33, 34, 35, 36, 37] (by decide +kernel) (by decide +kernel)
set_option maxRecDepth 20000 in
theorem gX9_weightOf_X9_of : GoodIn wsX9_weightOf (wsV RX9 68 RX9 yX9_of wsX9_of) := goodIn_app (goodIn_of _ (by decide +kernel)) ggX9_weightOf_X9_of
set_option maxRecDepth 20000 in
theorem ggX9_weightOf_X9_size : GoodIn wsX9_weightOf wsX9_size := goodIn_r _ [10] (by decide +kernel) (by decide +kernel)
set_option maxRecDepth 20000 in
theorem gX9_weightOf_X9_size : GoodIn wsX9_weightOf (va_wsS RX9 90 yX9_size wsX9_size) := goodIn_app (goodIn_of _ (by decide +kernel)) ggX9_weightOf_X9_size
theorem dX9_weightOf_0 : decode cX9_weightOf 0 = .ok (.iload_n 1, 1) := by decide +kernel
theorem dX9_weightOf_1 : decode cX9_weightOf 1 = .ok (.iconst 1, 1) := by decide +kernel
theorem dX9_weightOf_2 : decode cX9_weightOf 2 = .ok (.if_icmp .ne 14, 3) := by decide +kernel
theorem dX9_weightOf_5 : decode cX9_weightOf 5 = .ok (.iload_n 3, 1) := by decide +kernel
theorem dX9_weightOf_6 : decode cX9_weightOf 6 = .ok (.ifCond .ne 8, 3) := by decide +kernel
theorem dX9_weightOf_9 : decode cX9_weightOf 9 = .ok (.bipush 6, 2) := by decide +kernel
theorem dX9_weightOf_11 : decode cX9_weightOf 11 = .ok (.goto 4, 3) := by decide +kernel
theorem dX9_weightOf_14 : decode cX9_weightOf 14 = .ok (.iconst 0, 1) := by decide +kernel
theorem dX9_weightOf_15 : decode cX9_weightOf 15 = .ok (.ireturn, 1) := by decide +kernel
theorem dX9_weightOf_16 : decode cX9_weightOf 16 = .ok (.iload_n 1, 1) := by decide +kernel
theorem dX9_weightOf_17 : decode cX9_weightOf 17 = .ok (.iconst 2, 1) := by decide +kernel
theorem dX9_weightOf_18 : decode cX9_weightOf 18 = .ok (.if_icmp .ne 20, 3) := by decide +kernel
theorem dX9_weightOf_21 : decode cX9_weightOf 21 = .ok (.aload_n 0, 1) := by decide +kernel
theorem dX9_weightOf_22 : decode cX9_weightOf 22 = .ok (.iload_n 2, 1) := by decide +kernel
theorem dX9_weightOf_23 : decode cX9_weightOf 23 = .ok (.iconst 5, 1) := by decide +kernel
theorem dX9_weightOf_24 : decode cX9_weightOf 24 = .ok (.invokevirtual 68, 3) := by decide +kernel
theorem dX9_weightOf_27 : decode cX9_weightOf 27 = .ok (.iload_n 3, 1) := by decide +kernel
theorem dX9_weightOf_28 : decode cX9_weightOf 28 = .ok (.ifCond .ne 7, 3) := by decide +kernel
theorem dX9_weightOf_31 : decode cX9_weightOf 31 = .ok (.iconst 2, 1) := by decide +kernel
theorem dX9_weightOf_32 : decode cX9_weightOf 32 = .ok (.goto 4, 3) := by decide +kernel
theorem dX9_weightOf_35 : decode cX9_weightOf 35 = .ok (.iconst 0, 1) := by decide +kernel
theorem dX9_weightOf_36 : decode cX9_weightOf 36 = .ok (.iadd, 1) := by decide +kernel
theorem dX9_weightOf_37 : decode cX9_weightOf 37 = .ok (.ireturn, 1) := by decide +kernel
theorem dX9_weightOf_38 : decode cX9_weightOf 38 = .ok (.aload_n 0, 1) := by decide +kernel
theorem dX9_weightOf_39 : decode cX9_weightOf 39 = .ok (.getfield 116, 3) := by decide +kernel
theorem dX9_weightOf_42 : decode cX9_weightOf 42 = .ok (.invokestatic 90, 3) := by decide +kernel
theorem dX9_weightOf_45 : decode cX9_weightOf 45 = .ok (.iconst 3, 1) := by decide +kernel
theorem dX9_weightOf_46 : decode cX9_weightOf 46 = .ok (.iload_n 3, 1) := by decide +kernel
theorem dX9_weightOf_47 : decode cX9_weightOf 47 = .ok (.imul, 1) := by decide +kernel
theorem dX9_weightOf_48 : decode cX9_weightOf 48 = .ok (.isub, 1) := by decide +kernel
theorem dX9_weightOf_49 : decode cX9_weightOf 49 = .ok (.istore 4, 2) := by decide +kernel
theorem dX9_weightOf_51 : decode cX9_weightOf 51 = .ok (.iload 4, 2) := by decide +kernel
theorem dX9_weightOf_53 : decode cX9_weightOf 53 = .ok (.iconst 3, 1) := by decide +kernel
theorem dX9_weightOf_54 : decode cX9_weightOf 54 = .ok (.if_icmp .ge 8, 3) := by decide +kernel
theorem dX9_weightOf_57 : decode cX9_weightOf 57 = .ok (.iload 4, 2) := by decide +kernel
theorem dX9_weightOf_59 : decode cX9_weightOf 59 = .ok (.goto 4, 3) := by decide +kernel
theorem dX9_weightOf_62 : decode cX9_weightOf 62 = .ok (.iconst 3, 1) := by decide +kernel
theorem dX9_weightOf_63 : decode cX9_weightOf 63 = .ok (.ireturn, 1) := by decide +kernel
set_option maxRecDepth 20000 in
theorem ggX9_lettersIn_X9_textOf : GoodIn wsX9_lettersIn wsX9_textOf := goodIn_r _ [5, 6, 7, 8, 4, 9, 10, 11, 12, 13, 18, 19, 20, 21, 22, 23, 24, 25, 26, 27, 28, 29, 30, 31, 32, 33, 34, 35, 36, 37, 38, 39, 40, 41, 42, 43, 44] (by decide +kernel) (by decide +kernel)
set_option maxRecDepth 20000 in
theorem gX9_lettersIn_X9_textOf : GoodIn wsX9_lettersIn (wsV RX9 93 RX9 yX9_textOf wsX9_textOf) := goodIn_app (goodIn_of _ (by decide +kernel)) ggX9_lettersIn_X9_textOf
set_option maxRecDepth 20000 in
theorem ggX9_lettersIn_X9_width : GoodIn wsX9_lettersIn wsX9_width := goodIn_r _ [17, 10, 18, 19, 20, 21, 22, 23, 24, 25, 26, 27, 28, 29, 30, 31, 32, 33, 34, 35, 36, 37, 38, 39, 40, 41, 42, 43, 44] (by decide +kernel) (by decide +kernel)
set_option maxRecDepth 20000 in
theorem gX9_lettersIn_X9_width : GoodIn wsX9_lettersIn (wsV RX9 96 RX9 yX9_width wsX9_width) := goodIn_app (goodIn_of _ (by decide +kernel)) ggX9_lettersIn_X9_width
theorem dX9_lettersIn_0 : decode cX9_lettersIn 0 = .ok (.aload_n 0, 1) := by decide +kernel
theorem dX9_lettersIn_1 : decode cX9_lettersIn 1 = .ok (.iload_n 1, 1) := by decide +kernel
theorem dX9_lettersIn_2 : decode cX9_lettersIn 2 = .ok (.invokevirtual 93, 3) := by decide +kernel
theorem dX9_lettersIn_5 : decode cX9_lettersIn 5 = .ok (.iload_n 2, 1) := by decide +kernel
theorem dX9_lettersIn_6 : decode cX9_lettersIn 6 = .ok (.aload_n 0, 1) := by decide +kernel
theorem dX9_lettersIn_7 : decode cX9_lettersIn 7 = .ok (.invokevirtual 96, 3) := by decide +kernel
theorem dX9_lettersIn_10 : decode cX9_lettersIn 10 = .ok (.imul, 1) := by decide +kernel
theorem dX9_lettersIn_11 : decode cX9_lettersIn 11 = .ok (.isub, 1) := by decide +kernel
theorem dX9_lettersIn_12 : decode cX9_lettersIn 12 = .ok (.istore_n 3, 1) := by decide +kernel
theorem dX9_lettersIn_13 : decode cX9_lettersIn 13 = .ok (.iload_n 3, 1) := by decide +kernel
theorem dX9_lettersIn_14 : decode cX9_lettersIn 14 = .ok (.ifCond .ge 7, 3) := by decide +kernel
theorem dX9_lettersIn_17 : decode cX9_lettersIn 17 = .ok (.iconst 0, 1) := by decide +kernel
theorem dX9_lettersIn_18 : decode cX9_lettersIn 18 = .ok (.goto 19, 3) := by decide +kernel
theorem dX9_lettersIn_21 : decode cX9_lettersIn 21 = .ok (.iload_n 3, 1) := by decide +kernel
theorem dX9_lettersIn_22 : decode cX9_lettersIn 22 = .ok (.aload_n 0, 1) := by decide +kernel
theorem dX9_lettersIn_23 : decode cX9_lettersIn 23 = .ok (.invokevirtual 96, 3) := by decide +kernel
theorem dX9_lettersIn_26 : decode cX9_lettersIn 26 = .ok (.if_icmp .ge 7, 3) := by decide +kernel
theorem dX9_lettersIn_29 : decode cX9_lettersIn 29 = .ok (.iload_n 3, 1) := by decide +kernel
theorem dX9_lettersIn_30 : decode cX9_lettersIn 30 = .ok (.goto 7, 3) := by decide +kernel
theorem dX9_lettersIn_33 : decode cX9_lettersIn 33 = .ok (.aload_n 0, 1) := by decide +kernel
theorem dX9_lettersIn_34 : decode cX9_lettersIn 34 = .ok (.invokevirtual 96, 3) := by decide +kernel
theorem dX9_lettersIn_37 : decode cX9_lettersIn 37 = .ok (.ireturn, 1) := by decide +kernel
set_option maxRecDepth 20000 in
theorem ggX9_tellLine_X9_allergenOf : GoodIn wsX9_tellLine wsX9_allergenOf := goodIn_r _ [9, 10, 11, 12, 8, 13, 38, 39, 40, 41, 42, 43, 44, 45, 46, 47, 48, 49, 50, 51, 52, 53, 54, 55, 56, 57, 58, 59, 60, 61, 62, 63, 64] (by decide +kernel) (by decide +kernel)
set_option maxRecDepth 20000 in
theorem gX9_tellLine_X9_allergenOf : GoodIn wsX9_tellLine (wsV RX9 264 RX9 yX9_allergenOf wsX9_allergenOf) := goodIn_app (goodIn_of _ (by decide +kernel)) ggX9_tellLine_X9_allergenOf
set_option maxRecDepth 20000 in
theorem ggX9_tellLine_X9_weightOf : GoodIn wsX9_tellLine wsX9_weightOf := goodIn_r _ [17, 10, 18, 19, 20, 8, 21, 22, 23, 24, 25, 38, 39, 40, 41, 42, 43, 44, 45, 46, 47, 48, 49, 50, 51, 52, 53, 54, 55, 56, 57, 58, 59, 60, 61, 62, 63, 64] (by decide +kernel) (by decide +kernel)
set_option maxRecDepth 20000 in
theorem gX9_tellLine_X9_weightOf : GoodIn wsX9_tellLine (wsV RX9 267 RX9 yX9_weightOf wsX9_weightOf) := goodIn_app (goodIn_of _ (by decide +kernel)) ggX9_tellLine_X9_weightOf
set_option maxRecDepth 20000 in
theorem ggX9_tellLine_X9_lettersIn : GoodIn wsX9_tellLine wsX9_lettersIn := goodIn_r _ [29, 30, 31, 32, 8, 33, 18, 19, 20, 21, 22, 23, 24, 25, 34, 35, 36, 37, 38, 39, 40, 41, 42, 43, 44, 45, 46, 47, 48, 49, 50, 51, 52, 53, 54, 55, 56, 57, 58, 59, 60, 61, 62, 63, 64] (by decide +kernel) (by decide +kernel)
set_option maxRecDepth 20000 in
theorem gX9_tellLine_X9_lettersIn : GoodIn wsX9_tellLine (wsV RX9 271 RX9 yX9_lettersIn wsX9_lettersIn) := goodIn_app (goodIn_of _ (by decide +kernel)) ggX9_tellLine_X9_lettersIn
set_option maxRecDepth 20000 in
theorem ggX9_tellLine_X9_width : GoodIn wsX9_tellLine wsX9_width := goodIn_r _ [37, 22, 38, 39, 40, 41, 42, 43, 44, 45, 46, 47, 48, 49, 50, 51, 52, 53, 54, 55, 56, 57, 58, 59, 60, 61, 62, 63, 64] (by decide +kernel) (by decide +kernel)
set_option maxRecDepth 20000 in
theorem gX9_tellLine_X9_width : GoodIn wsX9_tellLine (wsV RX9 96 RX9 yX9_width wsX9_width) := goodIn_app (goodIn_of _ (by decide +kernel)) ggX9_tellLine_X9_width
theorem dX9_tellLine_0 : decode cX9_tellLine 0 = .ok (.aload_n 0, 1) := by decide +kernel
theorem dX9_tellLine_1 : decode cX9_tellLine 1 = .ok (.getfield 25, 3) := by decide +kernel
theorem dX9_tellLine_4 : decode cX9_tellLine 4 = .ok (.iload_n 1, 1) := by decide +kernel
theorem dX9_tellLine_5 : decode cX9_tellLine 5 = .ok (.iaload, 1) := by decide +kernel
theorem dX9_tellLine_6 : decode cX9_tellLine 6 = .ok (.istore 4, 2) := by decide +kernel
theorem dX9_tellLine_8 : decode cX9_tellLine 8 = .ok (.aload_n 0, 1) := by decide +kernel
theorem dX9_tellLine_9 : decode cX9_tellLine 9 = .ok (.getfield 28, 3) := by decide +kernel
theorem dX9_tellLine_12 : decode cX9_tellLine 12 = .ok (.iload_n 1, 1) := by decide +kernel
theorem dX9_tellLine_13 : decode cX9_tellLine 13 = .ok (.iaload, 1) := by decide +kernel
theorem dX9_tellLine_14 : decode cX9_tellLine 14 = .ok (.istore 5, 2) := by decide +kernel
theorem dX9_tellLine_16 : decode cX9_tellLine 16 = .ok (.iload_n 3, 1) := by decide +kernel
theorem dX9_tellLine_17 : decode cX9_tellLine 17 = .ok (.tableswitch 85 0 4 #[35, 38, 55, 57, 67], 35) := by decide +kernel
theorem dX9_tellLine_52 : decode cX9_tellLine 52 = .ok (.iload 4, 2) := by decide +kernel
theorem dX9_tellLine_54 : decode cX9_tellLine 54 = .ok (.ireturn, 1) := by decide +kernel
theorem dX9_tellLine_55 : decode cX9_tellLine 55 = .ok (.iload 4, 2) := by decide +kernel
theorem dX9_tellLine_57 : decode cX9_tellLine 57 = .ok (.iconst 3, 1) := by decide +kernel
theorem dX9_tellLine_58 : decode cX9_tellLine 58 = .ok (.if_icmp .ne 11, 3) := by decide +kernel
theorem dX9_tellLine_61 : decode cX9_tellLine 61 = .ok (.aload_n 0, 1) := by decide +kernel
theorem dX9_tellLine_62 : decode cX9_tellLine 62 = .ok (.iload_n 2, 1) := by decide +kernel
theorem dX9_tellLine_63 : decode cX9_tellLine 63 = .ok (.invokevirtual 264, 3) := by decide +kernel
theorem dX9_tellLine_66 : decode cX9_tellLine 66 = .ok (.goto 5, 3) := by decide +kernel
theorem dX9_tellLine_69 : decode cX9_tellLine 69 = .ok (.iload 5, 2) := by decide +kernel
theorem dX9_tellLine_71 : decode cX9_tellLine 71 = .ok (.ireturn, 1) := by decide +kernel
theorem dX9_tellLine_72 : decode cX9_tellLine 72 = .ok (.iload_n 2, 1) := by decide +kernel
theorem dX9_tellLine_73 : decode cX9_tellLine 73 = .ok (.ireturn, 1) := by decide +kernel
theorem dX9_tellLine_74 : decode cX9_tellLine 74 = .ok (.aload_n 0, 1) := by decide +kernel
theorem dX9_tellLine_75 : decode cX9_tellLine 75 = .ok (.iload 4, 2) := by decide +kernel
theorem dX9_tellLine_77 : decode cX9_tellLine 77 = .ok (.iload 5, 2) := by decide +kernel
theorem dX9_tellLine_79 : decode cX9_tellLine 79 = .ok (.iload_n 2, 1) := by decide +kernel
theorem dX9_tellLine_80 : decode cX9_tellLine 80 = .ok (.invokevirtual 267, 3) := by decide +kernel
theorem dX9_tellLine_83 : decode cX9_tellLine 83 = .ok (.ireturn, 1) := by decide +kernel
theorem dX9_tellLine_84 : decode cX9_tellLine 84 = .ok (.iload 4, 2) := by decide +kernel
theorem dX9_tellLine_86 : decode cX9_tellLine 86 = .ok (.iconst 2, 1) := by decide +kernel
theorem dX9_tellLine_87 : decode cX9_tellLine 87 = .ok (.if_icmp .ne 13, 3) := by decide +kernel
theorem dX9_tellLine_90 : decode cX9_tellLine 90 = .ok (.aload_n 0, 1) := by decide +kernel
theorem dX9_tellLine_91 : decode cX9_tellLine 91 = .ok (.iload 5, 2) := by decide +kernel
theorem dX9_tellLine_93 : decode cX9_tellLine 93 = .ok (.iload_n 2, 1) := by decide +kernel
theorem dX9_tellLine_94 : decode cX9_tellLine 94 = .ok (.invokevirtual 271, 3) := by decide +kernel
theorem dX9_tellLine_97 : decode cX9_tellLine 97 = .ok (.goto 4, 3) := by decide +kernel
theorem dX9_tellLine_100 : decode cX9_tellLine 100 = .ok (.iconst 0, 1) := by decide +kernel
theorem dX9_tellLine_101 : decode cX9_tellLine 101 = .ok (.ireturn, 1) := by decide +kernel
theorem dX9_tellLine_102 : decode cX9_tellLine 102 = .ok (.iload 4, 2) := by decide +kernel
theorem dX9_tellLine_104 : decode cX9_tellLine 104 = .ok (.iconst 2, 1) := by decide +kernel
theorem dX9_tellLine_105 : decode cX9_tellLine 105 = .ok (.if_icmp .ne 35, 3) := by decide +kernel
theorem dX9_tellLine_108 : decode cX9_tellLine 108 = .ok (.iload_n 2, 1) := by decide +kernel
theorem dX9_tellLine_109 : decode cX9_tellLine 109 = .ok (.aload_n 0, 1) := by decide +kernel
theorem dX9_tellLine_110 : decode cX9_tellLine 110 = .ok (.getfield 31, 3) := by decide +kernel
theorem dX9_tellLine_113 : decode cX9_tellLine 113 = .ok (.iload_n 1, 1) := by decide +kernel
theorem dX9_tellLine_114 : decode cX9_tellLine 114 = .ok (.iaload, 1) := by decide +kernel
theorem dX9_tellLine_115 : decode cX9_tellLine 115 = .ok (.iconst 1, 1) := by decide +kernel
theorem dX9_tellLine_116 : decode cX9_tellLine 116 = .ok (.isub, 1) := by decide +kernel
theorem dX9_tellLine_117 : decode cX9_tellLine 117 = .ok (.if_icmp .ne 23, 3) := by decide +kernel
theorem dX9_tellLine_120 : decode cX9_tellLine 120 = .ok (.aload_n 0, 1) := by decide +kernel
theorem dX9_tellLine_121 : decode cX9_tellLine 121 = .ok (.invokevirtual 96, 3) := by decide +kernel
theorem dX9_tellLine_124 : decode cX9_tellLine 124 = .ok (.aload_n 0, 1) := by decide +kernel
theorem dX9_tellLine_125 : decode cX9_tellLine 125 = .ok (.getfield 107, 3) := by decide +kernel
theorem dX9_tellLine_128 : decode cX9_tellLine 128 = .ok (.isub, 1) := by decide +kernel
theorem dX9_tellLine_129 : decode cX9_tellLine 129 = .ok (.aload_n 0, 1) := by decide +kernel
theorem dX9_tellLine_130 : decode cX9_tellLine 130 = .ok (.iload 5, 2) := by decide +kernel
theorem dX9_tellLine_132 : decode cX9_tellLine 132 = .ok (.iload_n 2, 1) := by decide +kernel
theorem dX9_tellLine_133 : decode cX9_tellLine 133 = .ok (.invokevirtual 271, 3) := by decide +kernel
theorem dX9_tellLine_136 : decode cX9_tellLine 136 = .ok (.isub, 1) := by decide +kernel
theorem dX9_tellLine_137 : decode cX9_tellLine 137 = .ok (.goto 4, 3) := by decide +kernel
theorem dX9_tellLine_140 : decode cX9_tellLine 140 = .ok (.iconst 0, 1) := by decide +kernel
theorem dX9_tellLine_141 : decode cX9_tellLine 141 = .ok (.ireturn, 1) := by decide +kernel
set_option maxRecDepth 20000 in
theorem ggX9_line_X9_in : GoodIn wsX9_line wsX9_in := goodIn_r _ [8] (by decide +kernel) (by decide +kernel)
set_option maxRecDepth 20000 in
theorem gX9_line_X9_in : GoodIn wsX9_line (va_wsS RX9 64 yX9_in wsX9_in) := goodIn_app (goodIn_of _ (by decide +kernel)) ggX9_line_X9_in
set_option maxRecDepth 20000 in
theorem ggX9_line_X9_lay : GoodIn wsX9_line wsX9_lay := goodIn_r _ [12, 2, 1, 13, 14, 15, 3, 4, 16, 17, 18, 7, 19, 20, 21, 22, 23, 24, 25, 26, 27, 28, 29, 30, 31, 32, 33, 34, 35, 36, 37, 38, 39, 40, 41, 42, 43, 44, 45, 46, 47, 48, 49, 50, 51, 52, 53, 54, 55, 56, 57, 58, 59, 60, 61, 62, 63, 64, 65, 66, 67, 68, 69, 70, 71, 72, 73, 74, 75, 76, 77, 78, 79, 80, 81, 82, 83, 84, 85, 86, 87, 88, 89, 90, 91, 92, 93, 94, 111, 112, 113, 114, 115, 116, 117, 118, 119, 120, 121, 122, 123, 124, 125, 126, 127, 128, 129, 130, 131, 132, 133, 134, 135, 136, 137] (by decide +kernel) (by decide +kernel)
set_option maxRecDepth 20000 in
theorem gX9_line_X9_lay : GoodIn wsX9_line (wsV RX9 183 RX9 yX9_lay wsX9_lay) := goodIn_app (goodIn_of _ (by decide +kernel)) ggX9_line_X9_lay
set_option maxRecDepth 20000 in
theorem ggX9_line_X9_tellLine : GoodIn wsX9_line wsX9_tellLine := goodIn_r _ [98, 62, 63, 4, 23, 99, 100, 101, 7, 102, 21, 44, 45, 46, 103, 104, 105, 106, 40, 41, 42, 43, 22, 72, 73, 74, 107, 108, 109, 110, 68, 69, 70, 71, 75, 76, 77, 78, 111, 112, 113, 114, 115, 116, 117, 118, 119, 120, 121, 122, 123, 124, 125, 126, 127, 128, 129, 130, 131, 132, 133, 134, 135, 136, 137] (by decide +kernel) (by decide +kernel)
set_option maxRecDepth 20000 in
theorem gX9_line_X9_tellLine : GoodIn wsX9_line (wsV RX9 274 RX9 yX9_tellLine wsX9_tellLine) := goodIn_app (goodIn_of _ (by decide +kernel)) ggX9_line_X9_tellLine
theorem dX9_line_0 : decode cX9_line 0 = .ok (.iload_n 1, 1) := by decide +kernel
theorem dX9_line_1 : decode cX9_line 1 = .ok (.iconst 0, 1) := by decide +kernel
theorem dX9_line_2 : decode cX9_line 2 = .ok (.iconst 1, 1) := by decide +kernel
theorem dX9_line_3 : decode cX9_line 3 = .ok (.invokestatic 64, 3) := by decide +kernel
theorem dX9_line_6 : decode cX9_line 6 = .ok (.ifCond .eq 16, 3) := by decide +kernel
theorem dX9_line_9 : decode cX9_line 9 = .ok (.iload_n 3, 1) := by decide +kernel
theorem dX9_line_10 : decode cX9_line 10 = .ok (.iconst 0, 1) := by decide +kernel
theorem dX9_line_11 : decode cX9_line 11 = .ok (.iconst 5, 1) := by decide +kernel
theorem dX9_line_12 : decode cX9_line 12 = .ok (.invokestatic 64, 3) := by decide +kernel
theorem dX9_line_15 : decode cX9_line 15 = .ok (.ifCond .eq 7, 3) := by decide +kernel
theorem dX9_line_18 : decode cX9_line 18 = .ok (.iload_n 2, 1) := by decide +kernel
theorem dX9_line_19 : decode cX9_line 19 = .ok (.ifCond .ge 5, 3) := by decide +kernel
theorem dX9_line_22 : decode cX9_line 22 = .ok (.iconst (-1), 1) := by decide +kernel
theorem dX9_line_23 : decode cX9_line 23 = .ok (.ireturn, 1) := by decide +kernel
theorem dX9_line_24 : decode cX9_line 24 = .ok (.aload_n 0, 1) := by decide +kernel
theorem dX9_line_25 : decode cX9_line 25 = .ok (.invokevirtual 183, 3) := by decide +kernel
theorem dX9_line_28 : decode cX9_line 28 = .ok (.iload_n 2, 1) := by decide +kernel
theorem dX9_line_29 : decode cX9_line 29 = .ok (.aload_n 0, 1) := by decide +kernel
theorem dX9_line_30 : decode cX9_line 30 = .ok (.getfield 43, 3) := by decide +kernel
theorem dX9_line_33 : decode cX9_line 33 = .ok (.iload_n 1, 1) := by decide +kernel
theorem dX9_line_34 : decode cX9_line 34 = .ok (.iaload, 1) := by decide +kernel
theorem dX9_line_35 : decode cX9_line 35 = .ok (.if_icmp .lt 6, 3) := by decide +kernel
theorem dX9_line_38 : decode cX9_line 38 = .ok (.bipush (-99), 2) := by decide +kernel
theorem dX9_line_40 : decode cX9_line 40 = .ok (.ireturn, 1) := by decide +kernel
theorem dX9_line_41 : decode cX9_line 41 = .ok (.bipush 26, 2) := by decide +kernel
theorem dX9_line_43 : decode cX9_line 43 = .ok (.iload_n 1, 1) := by decide +kernel
theorem dX9_line_44 : decode cX9_line 44 = .ok (.imul, 1) := by decide +kernel
theorem dX9_line_45 : decode cX9_line 45 = .ok (.istore 4, 2) := by decide +kernel
theorem dX9_line_47 : decode cX9_line 47 = .ok (.iload 4, 2) := by decide +kernel
theorem dX9_line_49 : decode cX9_line 49 = .ok (.bipush 26, 2) := by decide +kernel
theorem dX9_line_51 : decode cX9_line 51 = .ok (.iload_n 1, 1) := by decide +kernel
theorem dX9_line_52 : decode cX9_line 52 = .ok (.imul, 1) := by decide +kernel
theorem dX9_line_53 : decode cX9_line 53 = .ok (.aload_n 0, 1) := by decide +kernel
theorem dX9_line_54 : decode cX9_line 54 = .ok (.getfield 22, 3) := by decide +kernel
theorem dX9_line_57 : decode cX9_line 57 = .ok (.iload_n 1, 1) := by decide +kernel
theorem dX9_line_58 : decode cX9_line 58 = .ok (.iaload, 1) := by decide +kernel
theorem dX9_line_59 : decode cX9_line 59 = .ok (.iadd, 1) := by decide +kernel
theorem dX9_line_60 : decode cX9_line 60 = .ok (.if_icmp .ge 57, 3) := by decide +kernel
theorem dX9_line_63 : decode cX9_line 63 = .ok (.iload_n 2, 1) := by decide +kernel
theorem dX9_line_64 : decode cX9_line 64 = .ok (.aload_n 0, 1) := by decide +kernel
theorem dX9_line_65 : decode cX9_line 65 = .ok (.getfield 34, 3) := by decide +kernel
theorem dX9_line_68 : decode cX9_line 68 = .ok (.iload 4, 2) := by decide +kernel
theorem dX9_line_70 : decode cX9_line 70 = .ok (.iaload, 1) := by decide +kernel
theorem dX9_line_71 : decode cX9_line 71 = .ok (.aload_n 0, 1) := by decide +kernel
theorem dX9_line_72 : decode cX9_line 72 = .ok (.getfield 34, 3) := by decide +kernel
theorem dX9_line_75 : decode cX9_line 75 = .ok (.iload 4, 2) := by decide +kernel
theorem dX9_line_77 : decode cX9_line 77 = .ok (.iaload, 1) := by decide +kernel
theorem dX9_line_78 : decode cX9_line 78 = .ok (.aload_n 0, 1) := by decide +kernel
theorem dX9_line_79 : decode cX9_line 79 = .ok (.getfield 31, 3) := by decide +kernel
theorem dX9_line_82 : decode cX9_line 82 = .ok (.iload 4, 2) := by decide +kernel
theorem dX9_line_84 : decode cX9_line 84 = .ok (.iaload, 1) := by decide +kernel
theorem dX9_line_85 : decode cX9_line 85 = .ok (.iadd, 1) := by decide +kernel
theorem dX9_line_86 : decode cX9_line 86 = .ok (.iconst 1, 1) := by decide +kernel
theorem dX9_line_87 : decode cX9_line 87 = .ok (.isub, 1) := by decide +kernel
theorem dX9_line_88 : decode cX9_line 88 = .ok (.invokestatic 64, 3) := by decide +kernel
theorem dX9_line_91 : decode cX9_line 91 = .ok (.ifCond .eq 20, 3) := by decide +kernel
theorem dX9_line_94 : decode cX9_line 94 = .ok (.aload_n 0, 1) := by decide +kernel
theorem dX9_line_95 : decode cX9_line 95 = .ok (.iload 4, 2) := by decide +kernel
theorem dX9_line_97 : decode cX9_line 97 = .ok (.iload_n 2, 1) := by decide +kernel
theorem dX9_line_98 : decode cX9_line 98 = .ok (.aload_n 0, 1) := by decide +kernel
theorem dX9_line_99 : decode cX9_line 99 = .ok (.getfield 34, 3) := by decide +kernel
theorem dX9_line_102 : decode cX9_line 102 = .ok (.iload 4, 2) := by decide +kernel
theorem dX9_line_104 : decode cX9_line 104 = .ok (.iaload, 1) := by decide +kernel
theorem dX9_line_105 : decode cX9_line 105 = .ok (.isub, 1) := by decide +kernel
theorem dX9_line_106 : decode cX9_line 106 = .ok (.iload_n 3, 1) := by decide +kernel
theorem dX9_line_107 : decode cX9_line 107 = .ok (.invokevirtual 274, 3) := by decide +kernel
theorem dX9_line_110 : decode cX9_line 110 = .ok (.ireturn, 1) := by decide +kernel
theorem dX9_line_111 : decode cX9_line 111 = .ok (.iinc 4 1, 3) := by decide +kernel
theorem dX9_line_114 : decode cX9_line 114 = .ok (.goto (-67), 3) := by decide +kernel
theorem dX9_line_117 : decode cX9_line 117 = .ok (.iload_n 3, 1) := by decide +kernel
theorem dX9_line_118 : decode cX9_line 118 = .ok (.iconst 1, 1) := by decide +kernel
theorem dX9_line_119 : decode cX9_line 119 = .ok (.if_icmp .ne 8, 3) := by decide +kernel
theorem dX9_line_122 : decode cX9_line 122 = .ok (.bipush (-99), 2) := by decide +kernel
theorem dX9_line_124 : decode cX9_line 124 = .ok (.goto 4, 3) := by decide +kernel
theorem dX9_line_127 : decode cX9_line 127 = .ok (.iconst 0, 1) := by decide +kernel
theorem dX9_line_128 : decode cX9_line 128 = .ok (.ireturn, 1) := by decide +kernel
set_option maxRecDepth 20000 in
theorem ggX9_account_X9_in : GoodIn wsX9_account wsX9_in := goodIn_r _ [9] (by decide +kernel) (by decide +kernel)
set_option maxRecDepth 20000 in
theorem gX9_account_X9_in : GoodIn wsX9_account (va_wsS RX9 64 yX9_in wsX9_in) := goodIn_app (goodIn_of _ (by decide +kernel)) ggX9_account_X9_in
set_option maxRecDepth 20000 in
theorem ggX9_account_X9_lay : GoodIn wsX9_account wsX9_lay := goodIn_r _ [13, 1, 14, 15, 5, 4, 16, 3, 17, 18, 19, 8, 20, 21, 22, 23, 24, 25, 26, 27, 28, 29, 30, 31, 32, 33, 34, 35, 36, 37, 38, 39, 40, 41, 42, 43, 44, 45, 46, 47, 48, 49, 50, 51, 52, 53, 54, 55, 56, 57, 58, 59, 60, 61, 62, 2, 63, 64, 65, 66, 67, 68, 69, 70, 71, 72, 73, 74, 75, 76, 77, 78, 79, 80, 81, 82, 83, 84, 85, 86, 87, 88, 89, 90, 91, 92, 93, 94, 95, 96, 97, 98, 99, 100, 101, 102, 103, 104, 105, 106, 107, 108, 109, 110, 111, 112, 113, 114, 115, 116, 117, 118, 119, 120, 121] (by decide +kernel) (by decide +kernel)
set_option maxRecDepth 20000 in
theorem gX9_account_X9_lay : GoodIn wsX9_account (wsV RX9 183 RX9 yX9_lay wsX9_lay) := goodIn_app (goodIn_of _ (by decide +kernel)) ggX9_account_X9_lay
theorem dX9_account_0 : decode cX9_account 0 = .ok (.iload_n 1, 1) := by decide +kernel
theorem dX9_account_1 : decode cX9_account 1 = .ok (.iconst 0, 1) := by decide +kernel
theorem dX9_account_2 : decode cX9_account 2 = .ok (.iconst 1, 1) := by decide +kernel
theorem dX9_account_3 : decode cX9_account 3 = .ok (.invokestatic 64, 3) := by decide +kernel
theorem dX9_account_6 : decode cX9_account 6 = .ok (.ifCond .eq 12, 3) := by decide +kernel
theorem dX9_account_9 : decode cX9_account 9 = .ok (.iload_n 2, 1) := by decide +kernel
theorem dX9_account_10 : decode cX9_account 10 = .ok (.iconst 0, 1) := by decide +kernel
theorem dX9_account_11 : decode cX9_account 11 = .ok (.iconst 4, 1) := by decide +kernel
theorem dX9_account_12 : decode cX9_account 12 = .ok (.invokestatic 64, 3) := by decide +kernel
theorem dX9_account_15 : decode cX9_account 15 = .ok (.ifCond .ne 5, 3) := by decide +kernel
theorem dX9_account_18 : decode cX9_account 18 = .ok (.iconst (-1), 1) := by decide +kernel
theorem dX9_account_19 : decode cX9_account 19 = .ok (.ireturn, 1) := by decide +kernel
theorem dX9_account_20 : decode cX9_account 20 = .ok (.aload_n 0, 1) := by decide +kernel
theorem dX9_account_21 : decode cX9_account 21 = .ok (.invokevirtual 183, 3) := by decide +kernel
theorem dX9_account_24 : decode cX9_account 24 = .ok (.iconst 0, 1) := by decide +kernel
theorem dX9_account_25 : decode cX9_account 25 = .ok (.istore_n 3, 1) := by decide +kernel
theorem dX9_account_26 : decode cX9_account 26 = .ok (.bipush 26, 2) := by decide +kernel
theorem dX9_account_28 : decode cX9_account 28 = .ok (.iload_n 1, 1) := by decide +kernel
theorem dX9_account_29 : decode cX9_account 29 = .ok (.imul, 1) := by decide +kernel
theorem dX9_account_30 : decode cX9_account 30 = .ok (.istore 4, 2) := by decide +kernel
theorem dX9_account_32 : decode cX9_account 32 = .ok (.iload 4, 2) := by decide +kernel
theorem dX9_account_34 : decode cX9_account 34 = .ok (.bipush 26, 2) := by decide +kernel
theorem dX9_account_36 : decode cX9_account 36 = .ok (.iload_n 1, 1) := by decide +kernel
theorem dX9_account_37 : decode cX9_account 37 = .ok (.imul, 1) := by decide +kernel
theorem dX9_account_38 : decode cX9_account 38 = .ok (.aload_n 0, 1) := by decide +kernel
theorem dX9_account_39 : decode cX9_account 39 = .ok (.getfield 22, 3) := by decide +kernel
theorem dX9_account_42 : decode cX9_account 42 = .ok (.iload_n 1, 1) := by decide +kernel
theorem dX9_account_43 : decode cX9_account 43 = .ok (.iaload, 1) := by decide +kernel
theorem dX9_account_44 : decode cX9_account 44 = .ok (.iadd, 1) := by decide +kernel
theorem dX9_account_45 : decode cX9_account 45 = .ok (.if_icmp .ge 106, 3) := by decide +kernel
theorem dX9_account_48 : decode cX9_account 48 = .ok (.aload_n 0, 1) := by decide +kernel
theorem dX9_account_49 : decode cX9_account 49 = .ok (.getfield 25, 3) := by decide +kernel
theorem dX9_account_52 : decode cX9_account 52 = .ok (.iload 4, 2) := by decide +kernel
theorem dX9_account_54 : decode cX9_account 54 = .ok (.iaload, 1) := by decide +kernel
theorem dX9_account_55 : decode cX9_account 55 = .ok (.istore 5, 2) := by decide +kernel
theorem dX9_account_57 : decode cX9_account 57 = .ok (.iload_n 2, 1) := by decide +kernel
theorem dX9_account_58 : decode cX9_account 58 = .ok (.ifCond .ne 9, 3) := by decide +kernel
theorem dX9_account_61 : decode cX9_account 61 = .ok (.iload 5, 2) := by decide +kernel
theorem dX9_account_63 : decode cX9_account 63 = .ok (.iconst 1, 1) := by decide +kernel
theorem dX9_account_64 : decode cX9_account 64 = .ok (.if_icmp .eq 25, 3) := by decide +kernel
theorem dX9_account_67 : decode cX9_account 67 = .ok (.iload_n 2, 1) := by decide +kernel
theorem dX9_account_68 : decode cX9_account 68 = .ok (.iconst 1, 1) := by decide +kernel
theorem dX9_account_69 : decode cX9_account 69 = .ok (.if_icmp .ne 9, 3) := by decide +kernel
theorem dX9_account_72 : decode cX9_account 72 = .ok (.iload 5, 2) := by decide +kernel
theorem dX9_account_74 : decode cX9_account 74 = .ok (.iconst 2, 1) := by decide +kernel
theorem dX9_account_75 : decode cX9_account 75 = .ok (.if_icmp .eq 14, 3) := by decide +kernel
theorem dX9_account_78 : decode cX9_account 78 = .ok (.iload_n 2, 1) := by decide +kernel
theorem dX9_account_79 : decode cX9_account 79 = .ok (.iconst 3, 1) := by decide +kernel
theorem dX9_account_80 : decode cX9_account 80 = .ok (.if_icmp .ne 13, 3) := by decide +kernel
theorem dX9_account_83 : decode cX9_account 83 = .ok (.iload 5, 2) := by decide +kernel
theorem dX9_account_85 : decode cX9_account 85 = .ok (.iconst 3, 1) := by decide +kernel
theorem dX9_account_86 : decode cX9_account 86 = .ok (.if_icmp .ne 7, 3) := by decide +kernel
theorem dX9_account_89 : decode cX9_account 89 = .ok (.iconst 1, 1) := by decide +kernel
theorem dX9_account_90 : decode cX9_account 90 = .ok (.goto 4, 3) := by decide +kernel
theorem dX9_account_93 : decode cX9_account 93 = .ok (.iconst 0, 1) := by decide +kernel
theorem dX9_account_94 : decode cX9_account 94 = .ok (.istore 6, 2) := by decide +kernel
theorem dX9_account_96 : decode cX9_account 96 = .ok (.iload_n 3, 1) := by decide +kernel
theorem dX9_account_97 : decode cX9_account 97 = .ok (.iload 6, 2) := by decide +kernel
theorem dX9_account_99 : decode cX9_account 99 = .ok (.ifCond .eq 13, 3) := by decide +kernel
theorem dX9_account_102 : decode cX9_account 102 = .ok (.aload_n 0, 1) := by decide +kernel
theorem dX9_account_103 : decode cX9_account 103 = .ok (.getfield 31, 3) := by decide +kernel
theorem dX9_account_106 : decode cX9_account 106 = .ok (.iload 4, 2) := by decide +kernel
theorem dX9_account_108 : decode cX9_account 108 = .ok (.iaload, 1) := by decide +kernel
theorem dX9_account_109 : decode cX9_account 109 = .ok (.goto 34, 3) := by decide +kernel
theorem dX9_account_112 : decode cX9_account 112 = .ok (.iload_n 2, 1) := by decide +kernel
theorem dX9_account_113 : decode cX9_account 113 = .ok (.iconst 2, 1) := by decide +kernel
theorem dX9_account_114 : decode cX9_account 114 = .ok (.if_icmp .ne 13, 3) := by decide +kernel
theorem dX9_account_117 : decode cX9_account 117 = .ok (.aload_n 0, 1) := by decide +kernel
theorem dX9_account_118 : decode cX9_account 118 = .ok (.getfield 37, 3) := by decide +kernel
theorem dX9_account_121 : decode cX9_account 121 = .ok (.iload 4, 2) := by decide +kernel
theorem dX9_account_123 : decode cX9_account 123 = .ok (.iaload, 1) := by decide +kernel
theorem dX9_account_124 : decode cX9_account 124 = .ok (.goto 19, 3) := by decide +kernel
theorem dX9_account_127 : decode cX9_account 127 = .ok (.iload_n 2, 1) := by decide +kernel
theorem dX9_account_128 : decode cX9_account 128 = .ok (.iconst 4, 1) := by decide +kernel
theorem dX9_account_129 : decode cX9_account 129 = .ok (.if_icmp .ne 13, 3) := by decide +kernel
theorem dX9_account_132 : decode cX9_account 132 = .ok (.aload_n 0, 1) := by decide +kernel
theorem dX9_account_133 : decode cX9_account 133 = .ok (.getfield 40, 3) := by decide +kernel
theorem dX9_account_136 : decode cX9_account 136 = .ok (.iload 4, 2) := by decide +kernel
theorem dX9_account_138 : decode cX9_account 138 = .ok (.iaload, 1) := by decide +kernel
theorem dX9_account_139 : decode cX9_account 139 = .ok (.goto 4, 3) := by decide +kernel
theorem dX9_account_142 : decode cX9_account 142 = .ok (.iconst 0, 1) := by decide +kernel
theorem dX9_account_143 : decode cX9_account 143 = .ok (.iadd, 1) := by decide +kernel
theorem dX9_account_144 : decode cX9_account 144 = .ok (.istore_n 3, 1) := by decide +kernel
theorem dX9_account_145 : decode cX9_account 145 = .ok (.iinc 4 1, 3) := by decide +kernel
theorem dX9_account_148 : decode cX9_account 148 = .ok (.goto (-116), 3) := by decide +kernel
theorem dX9_account_151 : decode cX9_account 151 = .ok (.iload_n 3, 1) := by decide +kernel
theorem dX9_account_152 : decode cX9_account 152 = .ok (.ireturn, 1) := by decide +kernel
set_option maxRecDepth 20000 in
theorem ggX9_why_X9_isDish : GoodIn wsX9_why wsX9_isDish := goodIn_r _ [6, 1, 7, 8, 5, 9, 33, 34, 35, 36, 37, 38, 39, 40, 41, 42, 43, 44, 45, 46, 47, 48, 49, 50, 51, 52, 53, 54, 55, 56, 57, 58, 59] (by decide +kernel) (by decide +kernel)
set_option maxRecDepth 20000 in
theorem gX9_why_X9_isDish : GoodIn wsX9_why (wsV RX9 160 RX9 yX9_isDish wsX9_isDish) := goodIn_app (goodIn_of _ (by decide +kernel)) ggX9_why_X9_isDish
set_option maxRecDepth 20000 in
theorem ggX9_why_X9_of : GoodIn wsX9_why wsX9_of := goodIn_r _ [13, 1, 33, 34, 35, 36, 37, 38, 39, 40, 41, 42, 43, 44, 45, 46, 47, 48, 49, 50, 51, 52, 53, 54, 55, 56, 57, 58, 59] (by decide +kernel) (by decide +kernel)
set_option maxRecDepth 20000 in
theorem gX9_why_X9_of : GoodIn wsX9_why (wsV RX9 68 RX9 yX9_of wsX9_of) := goodIn_app (goodIn_of _ (by decide +kernel)) ggX9_why_X9_of
set_option maxRecDepth 20000 in
theorem ggX9_why_X9_has : GoodIn wsX9_why wsX9_has := goodIn_r _ [16] (by decide +kernel) (by decide +kernel)
set_option maxRecDepth 20000 in
theorem gX9_why_X9_has : GoodIn wsX9_why (va_wsS RX9 72 yX9_has wsX9_has) := goodIn_app (goodIn_of _ (by decide +kernel)) ggX9_why_X9_has
set_option maxRecDepth 20000 in
theorem ggX9_why_X9_mayBe : GoodIn wsX9_why wsX9_mayBe := goodIn_r _ [20, 1, 10, 11, 12, 5, 13, 14, 15, 16, 33, 34, 35, 36, 37, 38, 39, 40, 41, 42, 43, 44, 45, 46, 47, 48, 49, 50, 51, 52, 53, 54, 55, 56, 57, 58, 59] (by decide +kernel) (by decide +kernel)
set_option maxRecDepth 20000 in
theorem gX9_why_X9_mayBe : GoodIn wsX9_why (wsV RX9 76 RX9 yX9_mayBe wsX9_mayBe) := goodIn_app (goodIn_of _ (by decide +kernel)) ggX9_why_X9_mayBe
set_option maxRecDepth 20000 in
theorem ggX9_why_X9_isPrinted : GoodIn wsX9_why wsX9_isPrinted := goodIn_r _ [24, 1, 25, 26, 27, 5, 28, 17, 18, 19, 20, 10, 11, 12, 13, 14, 15, 16, 29, 30, 31, 32, 33, 34, 35, 36, 37, 38, 39, 40, 41, 42, 43, 44, 45, 46, 47, 48, 49, 50, 51, 52, 53, 54, 55, 56, 57, 58, 59] (by decide +kernel) (by decide +kernel)
set_option maxRecDepth 20000 in
theorem gX9_why_X9_isPrinted : GoodIn wsX9_why (wsV RX9 87 RX9 yX9_isPrinted wsX9_isPrinted) := goodIn_app (goodIn_of _ (by decide +kernel)) ggX9_why_X9_isPrinted
theorem dX9_why_0 : decode cX9_why 0 = .ok (.aload_n 0, 1) := by decide +kernel
theorem dX9_why_1 : decode cX9_why 1 = .ok (.iload_n 1, 1) := by decide +kernel
theorem dX9_why_2 : decode cX9_why 2 = .ok (.invokevirtual 160, 3) := by decide +kernel
theorem dX9_why_5 : decode cX9_why 5 = .ok (.ifCond .ne 5, 3) := by decide +kernel
theorem dX9_why_8 : decode cX9_why 8 = .ok (.iconst (-1), 1) := by decide +kernel
theorem dX9_why_9 : decode cX9_why 9 = .ok (.ireturn, 1) := by decide +kernel
theorem dX9_why_10 : decode cX9_why 10 = .ok (.aload_n 0, 1) := by decide +kernel
theorem dX9_why_11 : decode cX9_why 11 = .ok (.iload_n 1, 1) := by decide +kernel
theorem dX9_why_12 : decode cX9_why 12 = .ok (.bipush 6, 2) := by decide +kernel
theorem dX9_why_14 : decode cX9_why 14 = .ok (.invokevirtual 68, 3) := by decide +kernel
theorem dX9_why_17 : decode cX9_why 17 = .ok (.ifCond .ne 5, 3) := by decide +kernel
theorem dX9_why_20 : decode cX9_why 20 = .ok (.iconst 1, 1) := by decide +kernel
theorem dX9_why_21 : decode cX9_why 21 = .ok (.ireturn, 1) := by decide +kernel
theorem dX9_why_22 : decode cX9_why 22 = .ok (.aload_n 0, 1) := by decide +kernel
theorem dX9_why_23 : decode cX9_why 23 = .ok (.iload_n 1, 1) := by decide +kernel
theorem dX9_why_24 : decode cX9_why 24 = .ok (.iconst 3, 1) := by decide +kernel
theorem dX9_why_25 : decode cX9_why 25 = .ok (.invokevirtual 68, 3) := by decide +kernel
theorem dX9_why_28 : decode cX9_why 28 = .ok (.aload_n 0, 1) := by decide +kernel
theorem dX9_why_29 : decode cX9_why 29 = .ok (.getfield 7, 3) := by decide +kernel
theorem dX9_why_32 : decode cX9_why 32 = .ok (.sipush 141, 3) := by decide +kernel
theorem dX9_why_35 : decode cX9_why 35 = .ok (.iaload, 1) := by decide +kernel
theorem dX9_why_36 : decode cX9_why 36 = .ok (.invokestatic 72, 3) := by decide +kernel
theorem dX9_why_39 : decode cX9_why 39 = .ok (.ifCond .ne 5, 3) := by decide +kernel
theorem dX9_why_42 : decode cX9_why 42 = .ok (.iconst 2, 1) := by decide +kernel
theorem dX9_why_43 : decode cX9_why 43 = .ok (.ireturn, 1) := by decide +kernel
theorem dX9_why_44 : decode cX9_why 44 = .ok (.aload_n 0, 1) := by decide +kernel
theorem dX9_why_45 : decode cX9_why 45 = .ok (.iload_n 1, 1) := by decide +kernel
theorem dX9_why_46 : decode cX9_why 46 = .ok (.invokevirtual 76, 3) := by decide +kernel
theorem dX9_why_49 : decode cX9_why 49 = .ok (.ifCond .ne 7, 3) := by decide +kernel
theorem dX9_why_52 : decode cX9_why 52 = .ok (.iconst 3, 1) := by decide +kernel
theorem dX9_why_53 : decode cX9_why 53 = .ok (.goto 16, 3) := by decide +kernel
theorem dX9_why_56 : decode cX9_why 56 = .ok (.aload_n 0, 1) := by decide +kernel
theorem dX9_why_57 : decode cX9_why 57 = .ok (.iload_n 1, 1) := by decide +kernel
theorem dX9_why_58 : decode cX9_why 58 = .ok (.invokevirtual 87, 3) := by decide +kernel
theorem dX9_why_61 : decode cX9_why 61 = .ok (.ifCond .eq 7, 3) := by decide +kernel
theorem dX9_why_64 : decode cX9_why 64 = .ok (.iconst 0, 1) := by decide +kernel
theorem dX9_why_65 : decode cX9_why 65 = .ok (.goto 4, 3) := by decide +kernel
theorem dX9_why_68 : decode cX9_why 68 = .ok (.iconst 4, 1) := by decide +kernel
theorem dX9_why_69 : decode cX9_why 69 = .ok (.ireturn, 1) := by decide +kernel
set_option maxRecDepth 20000 in
theorem ggX9_replacement_X9_isDish : GoodIn wsX9_replacement wsX9_isDish := goodIn_r _ [6, 1, 7, 8, 5, 9, 37, 38, 39, 40, 41, 42, 43, 44, 45, 46, 47, 48, 49, 50, 51, 52, 53, 54, 55, 56, 57, 58, 59, 60, 61, 62, 63] (by decide +kernel) (by decide +kernel)
set_option maxRecDepth 20000 in
theorem gX9_replacement_X9_isDish : GoodIn wsX9_replacement (wsV RX9 160 RX9 yX9_isDish wsX9_isDish) := goodIn_app (goodIn_of _ (by decide +kernel)) ggX9_replacement_X9_isDish
set_option maxRecDepth 20000 in
theorem ggX9_replacement_X9_isPrinted : GoodIn wsX9_replacement wsX9_isPrinted := goodIn_r _ [13, 1, 14, 15, 16, 5, 17, 18, 19, 20, 21, 22, 23, 24, 25, 26, 27, 28, 29, 30, 31, 32, 37, 38, 39, 40, 41, 42, 43, 44, 45, 46, 47, 48, 49, 50, 51, 52, 53, 54, 55, 56, 57, 58, 59, 60, 61, 62, 63] (by decide +kernel) (by decide +kernel)
set_option maxRecDepth 20000 in
theorem gX9_replacement_X9_isPrinted : GoodIn wsX9_replacement (wsV RX9 87 RX9 yX9_isPrinted wsX9_isPrinted) := goodIn_app (goodIn_of _ (by decide +kernel)) ggX9_replacement_X9_isPrinted
set_option maxRecDepth 20000 in
theorem ggX9_replacement_X9_printedNow : GoodIn wsX9_replacement wsX9_printedNow := goodIn_r _ [36, 1, 10, 11, 12, 5, 13, 14, 15, 16, 17, 18, 19, 20, 21, 22, 23, 24, 25, 26, 27, 28, 29, 30, 31, 32, 37, 38, 39, 40, 41, 42, 43, 44, 45, 46, 47, 48, 49, 50, 51, 52, 53, 54, 55, 56, 57, 58, 59, 60, 61, 62, 63] (by decide +kernel) (by decide +kernel)
set_option maxRecDepth 20000 in
theorem gX9_replacement_X9_printedNow : GoodIn wsX9_replacement (wsV RX9 113 RX9 yX9_printedNow wsX9_printedNow) := goodIn_app (goodIn_of _ (by decide +kernel)) ggX9_replacement_X9_printedNow
set_option maxRecDepth 20000 in
theorem ggX9_replacement_X9_has : GoodIn wsX9_replacement wsX9_has := goodIn_r _ [28] (by decide +kernel) (by decide +kernel)
set_option maxRecDepth 20000 in
theorem gX9_replacement_X9_has : GoodIn wsX9_replacement (va_wsS RX9 72 yX9_has wsX9_has) := goodIn_app (goodIn_of _ (by decide +kernel)) ggX9_replacement_X9_has
theorem dX9_replacement_0 : decode cX9_replacement 0 = .ok (.aload_n 0, 1) := by decide +kernel
theorem dX9_replacement_1 : decode cX9_replacement 1 = .ok (.iload_n 1, 1) := by decide +kernel
theorem dX9_replacement_2 : decode cX9_replacement 2 = .ok (.invokevirtual 160, 3) := by decide +kernel
theorem dX9_replacement_5 : decode cX9_replacement 5 = .ok (.ifCond .ne 5, 3) := by decide +kernel
theorem dX9_replacement_8 : decode cX9_replacement 8 = .ok (.iconst (-1), 1) := by decide +kernel
theorem dX9_replacement_9 : decode cX9_replacement 9 = .ok (.ireturn, 1) := by decide +kernel
theorem dX9_replacement_10 : decode cX9_replacement 10 = .ok (.aload_n 0, 1) := by decide +kernel
theorem dX9_replacement_11 : decode cX9_replacement 11 = .ok (.iload_n 1, 1) := by decide +kernel
theorem dX9_replacement_12 : decode cX9_replacement 12 = .ok (.invokevirtual 87, 3) := by decide +kernel
theorem dX9_replacement_15 : decode cX9_replacement 15 = .ok (.ifCond .ne 6, 3) := by decide +kernel
theorem dX9_replacement_18 : decode cX9_replacement 18 = .ok (.bipush (-2), 2) := by decide +kernel
theorem dX9_replacement_20 : decode cX9_replacement 20 = .ok (.ireturn, 1) := by decide +kernel
theorem dX9_replacement_21 : decode cX9_replacement 21 = .ok (.aload_n 0, 1) := by decide +kernel
theorem dX9_replacement_22 : decode cX9_replacement 22 = .ok (.invokevirtual 113, 3) := by decide +kernel
theorem dX9_replacement_25 : decode cX9_replacement 25 = .ok (.istore_n 2, 1) := by decide +kernel
theorem dX9_replacement_26 : decode cX9_replacement 26 = .ok (.aload_n 0, 1) := by decide +kernel
theorem dX9_replacement_27 : decode cX9_replacement 27 = .ok (.getfield 7, 3) := by decide +kernel
theorem dX9_replacement_30 : decode cX9_replacement 30 = .ok (.iconst 1, 1) := by decide +kernel
theorem dX9_replacement_31 : decode cX9_replacement 31 = .ok (.bipush 7, 2) := by decide +kernel
theorem dX9_replacement_33 : decode cX9_replacement 33 = .ok (.iload_n 1, 1) := by decide +kernel
theorem dX9_replacement_34 : decode cX9_replacement 34 = .ok (.imul, 1) := by decide +kernel
theorem dX9_replacement_35 : decode cX9_replacement 35 = .ok (.iadd, 1) := by decide +kernel
theorem dX9_replacement_36 : decode cX9_replacement 36 = .ok (.bipush 6, 2) := by decide +kernel
theorem dX9_replacement_38 : decode cX9_replacement 38 = .ok (.iadd, 1) := by decide +kernel
theorem dX9_replacement_39 : decode cX9_replacement 39 = .ok (.iconst 0, 1) := by decide +kernel
theorem dX9_replacement_40 : decode cX9_replacement 40 = .ok (.iastore, 1) := by decide +kernel
theorem dX9_replacement_41 : decode cX9_replacement 41 = .ok (.aload_n 0, 1) := by decide +kernel
theorem dX9_replacement_42 : decode cX9_replacement 42 = .ok (.invokevirtual 113, 3) := by decide +kernel
theorem dX9_replacement_45 : decode cX9_replacement 45 = .ok (.istore_n 3, 1) := by decide +kernel
theorem dX9_replacement_46 : decode cX9_replacement 46 = .ok (.aload_n 0, 1) := by decide +kernel
theorem dX9_replacement_47 : decode cX9_replacement 47 = .ok (.getfield 7, 3) := by decide +kernel
theorem dX9_replacement_50 : decode cX9_replacement 50 = .ok (.iconst 1, 1) := by decide +kernel
theorem dX9_replacement_51 : decode cX9_replacement 51 = .ok (.bipush 7, 2) := by decide +kernel
theorem dX9_replacement_53 : decode cX9_replacement 53 = .ok (.iload_n 1, 1) := by decide +kernel
theorem dX9_replacement_54 : decode cX9_replacement 54 = .ok (.imul, 1) := by decide +kernel
theorem dX9_replacement_55 : decode cX9_replacement 55 = .ok (.iadd, 1) := by decide +kernel
theorem dX9_replacement_56 : decode cX9_replacement 56 = .ok (.bipush 6, 2) := by decide +kernel
theorem dX9_replacement_58 : decode cX9_replacement 58 = .ok (.iadd, 1) := by decide +kernel
theorem dX9_replacement_59 : decode cX9_replacement 59 = .ok (.iconst 1, 1) := by decide +kernel
theorem dX9_replacement_60 : decode cX9_replacement 60 = .ok (.iastore, 1) := by decide +kernel
theorem dX9_replacement_61 : decode cX9_replacement 61 = .ok (.iconst 0, 1) := by decide +kernel
theorem dX9_replacement_62 : decode cX9_replacement 62 = .ok (.istore 4, 2) := by decide +kernel
theorem dX9_replacement_64 : decode cX9_replacement 64 = .ok (.iload 4, 2) := by decide +kernel
theorem dX9_replacement_66 : decode cX9_replacement 66 = .ok (.aload_n 0, 1) := by decide +kernel
theorem dX9_replacement_67 : decode cX9_replacement 67 = .ok (.getfield 7, 3) := by decide +kernel
theorem dX9_replacement_70 : decode cX9_replacement 70 = .ok (.iconst 0, 1) := by decide +kernel
theorem dX9_replacement_71 : decode cX9_replacement 71 = .ok (.iaload, 1) := by decide +kernel
theorem dX9_replacement_72 : decode cX9_replacement 72 = .ok (.if_icmp .ge 25, 3) := by decide +kernel
theorem dX9_replacement_75 : decode cX9_replacement 75 = .ok (.iload_n 3, 1) := by decide +kernel
theorem dX9_replacement_76 : decode cX9_replacement 76 = .ok (.iload_n 2, 1) := by decide +kernel
theorem dX9_replacement_77 : decode cX9_replacement 77 = .ok (.iconst (-1), 1) := by decide +kernel
theorem dX9_replacement_78 : decode cX9_replacement 78 = .ok (.ixor, 1) := by decide +kernel
theorem dX9_replacement_79 : decode cX9_replacement 79 = .ok (.iand, 1) := by decide +kernel
theorem dX9_replacement_80 : decode cX9_replacement 80 = .ok (.iload 4, 2) := by decide +kernel
theorem dX9_replacement_82 : decode cX9_replacement 82 = .ok (.invokestatic 72, 3) := by decide +kernel
theorem dX9_replacement_85 : decode cX9_replacement 85 = .ok (.ifCond .eq 6, 3) := by decide +kernel
theorem dX9_replacement_88 : decode cX9_replacement 88 = .ok (.iload 4, 2) := by decide +kernel
theorem dX9_replacement_90 : decode cX9_replacement 90 = .ok (.ireturn, 1) := by decide +kernel
theorem dX9_replacement_91 : decode cX9_replacement 91 = .ok (.iinc 4 1, 3) := by decide +kernel
theorem dX9_replacement_94 : decode cX9_replacement 94 = .ok (.goto (-30), 3) := by decide +kernel
theorem dX9_replacement_97 : decode cX9_replacement 97 = .ok (.bipush (-99), 2) := by decide +kernel
theorem dX9_replacement_99 : decode cX9_replacement 99 = .ok (.ireturn, 1) := by decide +kernel
set_option maxRecDepth 20000 in
theorem ggX9_evenSeasons_X9_lay : GoodIn wsX9_evenSeasons wsX9_lay := goodIn_r _ [6, 7, 8, 9, 10, 11, 12, 13, 14, 15, 16, 5, 17, 18, 19, 1, 20, 21, 22, 23, 24, 25, 26, 27, 28, 29, 30, 31, 32, 33, 34, 35, 36, 37, 38, 39, 40, 41, 42, 43, 44, 45, 46, 47, 48, 49, 50, 51, 52, 53, 54, 55, 56, 57, 58, 59, 60, 61, 62, 63, 64, 65, 66, 67, 68, 69, 70, 71, 72, 73, 74, 75, 76, 77, 78, 79, 80, 81, 82, 83, 84, 85, 86, 87, 88, 89, 90, 91, 96, 97, 98, 99, 100, 101, 102, 103, 104, 105, 106, 107, 108, 109, 110, 111, 112, 113, 114, 115, 116, 117, 118, 119, 120, 121, 122] (by decide +kernel) (by decide +kernel)
set_option maxRecDepth 20000 in
theorem gX9_evenSeasons_X9_lay : GoodIn wsX9_evenSeasons (wsV RX9 183 RX9 yX9_lay wsX9_lay) := goodIn_app (goodIn_of _ (by decide +kernel)) ggX9_evenSeasons_X9_lay
set_option maxRecDepth 20000 in
theorem ggX9_evenSeasons_X9_isEven : GoodIn wsX9_evenSeasons wsX9_isEven := goodIn_r _ [95, 8, 96, 97, 98, 99, 100, 101, 102, 103, 104, 105, 106, 107, 108, 109, 110, 111, 112, 113, 114, 115, 116, 117, 118, 119, 120, 121, 122] (by decide +kernel) (by decide +kernel)
set_option maxRecDepth 20000 in
theorem gX9_evenSeasons_X9_isEven : GoodIn wsX9_evenSeasons (wsV RX9 166 RX9 yX9_isEven wsX9_isEven) := goodIn_app (goodIn_of _ (by decide +kernel)) ggX9_evenSeasons_X9_isEven
theorem dX9_evenSeasons_0 : decode cX9_evenSeasons 0 = .ok (.aload_n 0, 1) := by decide +kernel
theorem dX9_evenSeasons_1 : decode cX9_evenSeasons 1 = .ok (.getfield 7, 3) := by decide +kernel
theorem dX9_evenSeasons_4 : decode cX9_evenSeasons 4 = .ok (.sipush 141, 3) := by decide +kernel
theorem dX9_evenSeasons_7 : decode cX9_evenSeasons 7 = .ok (.iaload, 1) := by decide +kernel
theorem dX9_evenSeasons_8 : decode cX9_evenSeasons 8 = .ok (.istore_n 1, 1) := by decide +kernel
theorem dX9_evenSeasons_9 : decode cX9_evenSeasons 9 = .ok (.iconst 0, 1) := by decide +kernel
theorem dX9_evenSeasons_10 : decode cX9_evenSeasons 10 = .ok (.istore_n 2, 1) := by decide +kernel
theorem dX9_evenSeasons_11 : decode cX9_evenSeasons 11 = .ok (.iconst 0, 1) := by decide +kernel
theorem dX9_evenSeasons_12 : decode cX9_evenSeasons 12 = .ok (.istore_n 3, 1) := by decide +kernel
theorem dX9_evenSeasons_13 : decode cX9_evenSeasons 13 = .ok (.iload_n 3, 1) := by decide +kernel
theorem dX9_evenSeasons_14 : decode cX9_evenSeasons 14 = .ok (.iconst 4, 1) := by decide +kernel
theorem dX9_evenSeasons_15 : decode cX9_evenSeasons 15 = .ok (.if_icmp .ge 39, 3) := by decide +kernel
theorem dX9_evenSeasons_18 : decode cX9_evenSeasons 18 = .ok (.aload_n 0, 1) := by decide +kernel
theorem dX9_evenSeasons_19 : decode cX9_evenSeasons 19 = .ok (.getfield 7, 3) := by decide +kernel
theorem dX9_evenSeasons_22 : decode cX9_evenSeasons 22 = .ok (.sipush 141, 3) := by decide +kernel
theorem dX9_evenSeasons_25 : decode cX9_evenSeasons 25 = .ok (.iload_n 3, 1) := by decide +kernel
theorem dX9_evenSeasons_26 : decode cX9_evenSeasons 26 = .ok (.iastore, 1) := by decide +kernel
theorem dX9_evenSeasons_27 : decode cX9_evenSeasons 27 = .ok (.aload_n 0, 1) := by decide +kernel
theorem dX9_evenSeasons_28 : decode cX9_evenSeasons 28 = .ok (.invokevirtual 183, 3) := by decide +kernel
theorem dX9_evenSeasons_31 : decode cX9_evenSeasons 31 = .ok (.iload_n 2, 1) := by decide +kernel
theorem dX9_evenSeasons_32 : decode cX9_evenSeasons 32 = .ok (.aload_n 0, 1) := by decide +kernel
theorem dX9_evenSeasons_33 : decode cX9_evenSeasons 33 = .ok (.invokevirtual 166, 3) := by decide +kernel
theorem dX9_evenSeasons_36 : decode cX9_evenSeasons 36 = .ok (.ifCond .eq 9, 3) := by decide +kernel
theorem dX9_evenSeasons_39 : decode cX9_evenSeasons 39 = .ok (.iconst 1, 1) := by decide +kernel
theorem dX9_evenSeasons_40 : decode cX9_evenSeasons 40 = .ok (.iload_n 3, 1) := by decide +kernel
theorem dX9_evenSeasons_41 : decode cX9_evenSeasons 41 = .ok (.ishl, 1) := by decide +kernel
theorem dX9_evenSeasons_42 : decode cX9_evenSeasons 42 = .ok (.goto 4, 3) := by decide +kernel
theorem dX9_evenSeasons_45 : decode cX9_evenSeasons 45 = .ok (.iconst 0, 1) := by decide +kernel
theorem dX9_evenSeasons_46 : decode cX9_evenSeasons 46 = .ok (.ior, 1) := by decide +kernel
theorem dX9_evenSeasons_47 : decode cX9_evenSeasons 47 = .ok (.istore_n 2, 1) := by decide +kernel
theorem dX9_evenSeasons_48 : decode cX9_evenSeasons 48 = .ok (.iinc 3 1, 3) := by decide +kernel
theorem dX9_evenSeasons_51 : decode cX9_evenSeasons 51 = .ok (.goto (-38), 3) := by decide +kernel
theorem dX9_evenSeasons_54 : decode cX9_evenSeasons 54 = .ok (.aload_n 0, 1) := by decide +kernel
theorem dX9_evenSeasons_55 : decode cX9_evenSeasons 55 = .ok (.getfield 7, 3) := by decide +kernel
theorem dX9_evenSeasons_58 : decode cX9_evenSeasons 58 = .ok (.sipush 141, 3) := by decide +kernel
theorem dX9_evenSeasons_61 : decode cX9_evenSeasons 61 = .ok (.iload_n 1, 1) := by decide +kernel
theorem dX9_evenSeasons_62 : decode cX9_evenSeasons 62 = .ok (.iastore, 1) := by decide +kernel
theorem dX9_evenSeasons_63 : decode cX9_evenSeasons 63 = .ok (.iload_n 2, 1) := by decide +kernel
theorem dX9_evenSeasons_64 : decode cX9_evenSeasons 64 = .ok (.ireturn, 1) := by decide +kernel
set_option maxRecDepth 20000 in
theorem ggX9_printedFor_X9_in : GoodIn wsX9_printedFor wsX9_in := goodIn_r _ [5] (by decide +kernel) (by decide +kernel)
set_option maxRecDepth 20000 in
theorem gX9_printedFor_X9_in : GoodIn wsX9_printedFor (va_wsS RX9 64 yX9_in wsX9_in) := goodIn_app (goodIn_of _ (by decide +kernel)) ggX9_printedFor_X9_in
set_option maxRecDepth 20000 in
theorem ggX9_printedFor_X9_printedNow : GoodIn wsX9_printedFor wsX9_printedNow := goodIn_r _ [9, 1, 10, 11, 12, 4, 13, 14, 15, 16, 17, 18, 19, 20, 21, 22, 23, 24, 25, 26, 27, 28, 29, 30, 31, 32, 36, 37, 38, 39, 40, 41, 42, 43, 44, 45, 46, 47, 48, 49, 50, 51, 52, 53, 54, 55, 56, 57, 58, 59, 60, 61, 62] (by decide +kernel) (by decide +kernel)
set_option maxRecDepth 20000 in
theorem gX9_printedFor_X9_printedNow : GoodIn wsX9_printedFor (wsV RX9 113 RX9 yX9_printedNow wsX9_printedNow) := goodIn_app (goodIn_of _ (by decide +kernel)) ggX9_printedFor_X9_printedNow
set_option maxRecDepth 20000 in
theorem ggX9_printedFor_X9_size : GoodIn wsX9_printedFor wsX9_size := goodIn_r _ [35] (by decide +kernel) (by decide +kernel)
set_option maxRecDepth 20000 in
theorem gX9_printedFor_X9_size : GoodIn wsX9_printedFor (va_wsS RX9 90 yX9_size wsX9_size) := goodIn_app (goodIn_of _ (by decide +kernel)) ggX9_printedFor_X9_size
theorem dX9_printedFor_0 : decode cX9_printedFor 0 = .ok (.iload_n 1, 1) := by decide +kernel
theorem dX9_printedFor_1 : decode cX9_printedFor 1 = .ok (.iconst 0, 1) := by decide +kernel
theorem dX9_printedFor_2 : decode cX9_printedFor 2 = .ok (.sipush 255, 3) := by decide +kernel
theorem dX9_printedFor_5 : decode cX9_printedFor 5 = .ok (.invokestatic 64, 3) := by decide +kernel
theorem dX9_printedFor_8 : decode cX9_printedFor 8 = .ok (.ifCond .ne 5, 3) := by decide +kernel
theorem dX9_printedFor_11 : decode cX9_printedFor 11 = .ok (.iconst (-1), 1) := by decide +kernel
theorem dX9_printedFor_12 : decode cX9_printedFor 12 = .ok (.ireturn, 1) := by decide +kernel
theorem dX9_printedFor_13 : decode cX9_printedFor 13 = .ok (.aload_n 0, 1) := by decide +kernel
theorem dX9_printedFor_14 : decode cX9_printedFor 14 = .ok (.getfield 7, 3) := by decide +kernel
theorem dX9_printedFor_17 : decode cX9_printedFor 17 = .ok (.sipush 146, 3) := by decide +kernel
theorem dX9_printedFor_20 : decode cX9_printedFor 20 = .ok (.iaload, 1) := by decide +kernel
theorem dX9_printedFor_21 : decode cX9_printedFor 21 = .ok (.istore_n 2, 1) := by decide +kernel
theorem dX9_printedFor_22 : decode cX9_printedFor 22 = .ok (.aload_n 0, 1) := by decide +kernel
theorem dX9_printedFor_23 : decode cX9_printedFor 23 = .ok (.getfield 7, 3) := by decide +kernel
theorem dX9_printedFor_26 : decode cX9_printedFor 26 = .ok (.sipush 146, 3) := by decide +kernel
theorem dX9_printedFor_29 : decode cX9_printedFor 29 = .ok (.iload_n 1, 1) := by decide +kernel
theorem dX9_printedFor_30 : decode cX9_printedFor 30 = .ok (.iastore, 1) := by decide +kernel
theorem dX9_printedFor_31 : decode cX9_printedFor 31 = .ok (.aload_n 0, 1) := by decide +kernel
theorem dX9_printedFor_32 : decode cX9_printedFor 32 = .ok (.invokevirtual 113, 3) := by decide +kernel
theorem dX9_printedFor_35 : decode cX9_printedFor 35 = .ok (.invokestatic 90, 3) := by decide +kernel
theorem dX9_printedFor_38 : decode cX9_printedFor 38 = .ok (.istore_n 3, 1) := by decide +kernel
theorem dX9_printedFor_39 : decode cX9_printedFor 39 = .ok (.aload_n 0, 1) := by decide +kernel
theorem dX9_printedFor_40 : decode cX9_printedFor 40 = .ok (.getfield 7, 3) := by decide +kernel
theorem dX9_printedFor_43 : decode cX9_printedFor 43 = .ok (.sipush 146, 3) := by decide +kernel
theorem dX9_printedFor_46 : decode cX9_printedFor 46 = .ok (.iload_n 2, 1) := by decide +kernel
theorem dX9_printedFor_47 : decode cX9_printedFor 47 = .ok (.iastore, 1) := by decide +kernel
theorem dX9_printedFor_48 : decode cX9_printedFor 48 = .ok (.iload_n 3, 1) := by decide +kernel
theorem dX9_printedFor_49 : decode cX9_printedFor 49 = .ok (.ireturn, 1) := by decide +kernel
set_option maxRecDepth 20000 in
theorem ggX9_bestSides_X9_in : GoodIn wsX9_bestSides wsX9_in := goodIn_r _ [4] (by decide +kernel) (by decide +kernel)
set_option maxRecDepth 20000 in
theorem gX9_bestSides_X9_in : GoodIn wsX9_bestSides (va_wsS RX9 64 yX9_in wsX9_in) := goodIn_app (goodIn_of _ (by decide +kernel)) ggX9_bestSides_X9_in
set_option maxRecDepth 20000 in
theorem ggX9_bestSides_X9_bestWay : GoodIn wsX9_bestSides wsX9_bestWay := goodIn_r _ [8, 9, 10, 11, 3, 12, 13, 14, 15, 16, 17, 18, 19, 20, 21, 22, 23, 24, 25, 26, 27, 28, 29, 30, 31, 32, 33, 34, 35, 36, 37, 38, 39, 40, 41, 42, 43, 44, 45, 46, 47, 48, 49, 50, 51, 52, 53, 54, 55, 56, 57, 58, 59, 60, 61, 62, 63, 64, 65, 66, 67, 68, 69, 70, 71, 72, 73, 74, 75, 76, 77, 78, 79, 80, 81, 82, 83, 84, 85, 86, 87, 88, 89, 90, 91, 92, 93, 94, 95, 96, 97, 98, 99, 100, 101, 102, 103, 104, 105, 106, 107, 108, 109, 110, 111, 112, 113, 114, 115, 116, 117, 118, 119, 120, 121, 122, 123, 124, 125, 126, 127, 128, 129, 130, 131, 132, 133, 134, 135, 136, 137, 138, 139, 140, 141, 142, 143, 144, 145, 146, 147, 148, 149, 150] (by decide +kernel) (by decide +kernel)
set_option maxRecDepth 20000 in
theorem gX9_bestSides_X9_bestWay : GoodIn wsX9_bestSides (wsV RX9 189 RX9 yX9_bestWay wsX9_bestWay) := goodIn_app (goodIn_of _ (by decide +kernel)) ggX9_bestSides_X9_bestWay
set_option maxRecDepth 20000 in
theorem ggX9_bestSides_X9_wayNow : GoodIn wsX9_bestSides wsX9_wayNow := goodIn_r _ [12, 13, 124, 125, 126, 127, 128, 129, 130, 131, 132, 133, 134, 135, 136, 137, 138, 139, 140, 141, 142, 143, 144, 145, 146, 147, 148, 149, 150] (by decide +kernel) (by decide +kernel)
set_option maxRecDepth 20000 in
theorem gX9_bestSides_X9_wayNow : GoodIn wsX9_bestSides (wsV RX9 177 RX9 yX9_wayNow wsX9_wayNow) := goodIn_app (goodIn_of _ (by decide +kernel)) ggX9_bestSides_X9_wayNow
set_option maxRecDepth 20000 in
theorem ggX9_bestSides_X9_putSides : GoodIn wsX9_bestSides wsX9_putSides := goodIn_r _ [17, 13, 124, 125, 126, 127, 128, 129, 130, 131, 132, 133, 134, 135, 136, 137, 138, 139, 140, 141, 142, 143, 144, 145, 146, 147, 148, 149, 150] (by decide +kernel) (by decide +kernel)
set_option maxRecDepth 20000 in
theorem gX9_bestSides_X9_putSides : GoodIn wsX9_bestSides (wsV RX9 180 RX9 yX9_putSides wsX9_putSides) := goodIn_app (goodIn_of _ (by decide +kernel)) ggX9_bestSides_X9_putSides
set_option maxRecDepth 20000 in
theorem ggX9_bestSides_X9_lay : GoodIn wsX9_bestSides wsX9_lay := goodIn_r _ [21, 22, 23, 24, 25, 26, 27, 28, 29, 30, 31, 3, 32, 33, 34, 13, 35, 36, 37, 38, 39, 40, 41, 42, 43, 44, 45, 46, 47, 48, 49, 50, 51, 52, 53, 54, 55, 56, 57, 58, 59, 60, 61, 62, 63, 64, 65, 66, 67, 68, 69, 70, 71, 72, 73, 74, 75, 76, 77, 78, 79, 80, 81, 82, 83, 84, 85, 86, 87, 88, 89, 90, 91, 92, 93, 94, 95, 96, 97, 98, 99, 100, 101, 102, 103, 104, 105, 106, 124, 125, 126, 127, 128, 129, 130, 131, 132, 133, 134, 135, 136, 137, 138, 139, 140, 141, 142, 143, 144, 145, 146, 147, 148, 149, 150] (by decide +kernel) (by decide +kernel)
set_option maxRecDepth 20000 in
theorem gX9_bestSides_X9_lay : GoodIn wsX9_bestSides (wsV RX9 183 RX9 yX9_lay wsX9_lay) := goodIn_app (goodIn_of _ (by decide +kernel)) ggX9_bestSides_X9_lay
set_option maxRecDepth 20000 in
theorem ggX9_bestSides_X9_heavier : GoodIn wsX9_bestSides wsX9_heavier := goodIn_r _ [119, 24, 124, 125, 126, 127, 128, 129, 130, 131, 132, 133, 134, 135, 136, 137, 138, 139, 140, 141, 142, 143, 144, 145, 146, 147, 148, 149, 150] (by decide +kernel) (by decide +kernel)
set_option maxRecDepth 20000 in
theorem gX9_bestSides_X9_heavier : GoodIn wsX9_bestSides (wsV RX9 171 RX9 yX9_heavier wsX9_heavier) := goodIn_app (goodIn_of _ (by decide +kernel)) ggX9_bestSides_X9_heavier
set_option maxRecDepth 20000 in
theorem ggX9_bestSides_X9_longer : GoodIn wsX9_bestSides wsX9_longer := goodIn_r _ [123, 23, 124, 125, 126, 127, 128, 129, 130, 131, 132, 133, 134, 135, 136, 137, 138, 139, 140, 141, 142, 143, 144, 145, 146, 147, 148, 149, 150] (by decide +kernel) (by decide +kernel)
set_option maxRecDepth 20000 in
theorem gX9_bestSides_X9_longer : GoodIn wsX9_bestSides (wsV RX9 174 RX9 yX9_longer wsX9_longer) := goodIn_app (goodIn_of _ (by decide +kernel)) ggX9_bestSides_X9_longer
set_option maxRecDepth 20000 in
theorem ggX9_bestSides_X9_isEven : GoodIn wsX9_bestSides wsX9_isEven := goodIn_r _ [115, 23, 124, 125, 126, 127, 128, 129, 130, 131, 132, 133, 134, 135, 136, 137, 138, 139, 140, 141, 142, 143, 144, 145, 146, 147, 148, 149, 150] (by decide +kernel) (by decide +kernel)
set_option maxRecDepth 20000 in
theorem gX9_bestSides_X9_isEven : GoodIn wsX9_bestSides (wsV RX9 166 RX9 yX9_isEven wsX9_isEven) := goodIn_app (goodIn_of _ (by decide +kernel)) ggX9_bestSides_X9_isEven
theorem dX9_bestSides_0 : decode cX9_bestSides 0 = .ok (.iload_n 1, 1) := by decide +kernel
theorem dX9_bestSides_1 : decode cX9_bestSides 1 = .ok (.iconst 0, 1) := by decide +kernel
theorem dX9_bestSides_2 : decode cX9_bestSides 2 = .ok (.iconst 3, 1) := by decide +kernel
theorem dX9_bestSides_3 : decode cX9_bestSides 3 = .ok (.invokestatic 64, 3) := by decide +kernel
theorem dX9_bestSides_6 : decode cX9_bestSides 6 = .ok (.ifCond .ne 5, 3) := by decide +kernel
theorem dX9_bestSides_9 : decode cX9_bestSides 9 = .ok (.iconst (-1), 1) := by decide +kernel
theorem dX9_bestSides_10 : decode cX9_bestSides 10 = .ok (.ireturn, 1) := by decide +kernel
theorem dX9_bestSides_11 : decode cX9_bestSides 11 = .ok (.aload_n 0, 1) := by decide +kernel
theorem dX9_bestSides_12 : decode cX9_bestSides 12 = .ok (.invokevirtual 189, 3) := by decide +kernel
theorem dX9_bestSides_15 : decode cX9_bestSides 15 = .ok (.istore_n 2, 1) := by decide +kernel
theorem dX9_bestSides_16 : decode cX9_bestSides 16 = .ok (.iload_n 1, 1) := by decide +kernel
theorem dX9_bestSides_17 : decode cX9_bestSides 17 = .ok (.ifCond .ne 5, 3) := by decide +kernel
theorem dX9_bestSides_20 : decode cX9_bestSides 20 = .ok (.iload_n 2, 1) := by decide +kernel
theorem dX9_bestSides_21 : decode cX9_bestSides 21 = .ok (.ireturn, 1) := by decide +kernel
theorem dX9_bestSides_22 : decode cX9_bestSides 22 = .ok (.aload_n 0, 1) := by decide +kernel
theorem dX9_bestSides_23 : decode cX9_bestSides 23 = .ok (.invokevirtual 177, 3) := by decide +kernel
theorem dX9_bestSides_26 : decode cX9_bestSides 26 = .ok (.istore_n 3, 1) := by decide +kernel
theorem dX9_bestSides_27 : decode cX9_bestSides 27 = .ok (.aload_n 0, 1) := by decide +kernel
theorem dX9_bestSides_28 : decode cX9_bestSides 28 = .ok (.iload_n 2, 1) := by decide +kernel
theorem dX9_bestSides_29 : decode cX9_bestSides 29 = .ok (.invokevirtual 180, 3) := by decide +kernel
theorem dX9_bestSides_32 : decode cX9_bestSides 32 = .ok (.aload_n 0, 1) := by decide +kernel
theorem dX9_bestSides_33 : decode cX9_bestSides 33 = .ok (.invokevirtual 183, 3) := by decide +kernel
theorem dX9_bestSides_36 : decode cX9_bestSides 36 = .ok (.aload_n 0, 1) := by decide +kernel
theorem dX9_bestSides_37 : decode cX9_bestSides 37 = .ok (.iload_n 3, 1) := by decide +kernel
theorem dX9_bestSides_38 : decode cX9_bestSides 38 = .ok (.invokevirtual 180, 3) := by decide +kernel
theorem dX9_bestSides_41 : decode cX9_bestSides 41 = .ok (.iload_n 1, 1) := by decide +kernel
theorem dX9_bestSides_42 : decode cX9_bestSides 42 = .ok (.iconst 1, 1) := by decide +kernel
theorem dX9_bestSides_43 : decode cX9_bestSides 43 = .ok (.if_icmp .ne 10, 3) := by decide +kernel
theorem dX9_bestSides_46 : decode cX9_bestSides 46 = .ok (.aload_n 0, 1) := by decide +kernel
theorem dX9_bestSides_47 : decode cX9_bestSides 47 = .ok (.invokevirtual 171, 3) := by decide +kernel
theorem dX9_bestSides_50 : decode cX9_bestSides 50 = .ok (.goto 27, 3) := by decide +kernel
theorem dX9_bestSides_53 : decode cX9_bestSides 53 = .ok (.iload_n 1, 1) := by decide +kernel
theorem dX9_bestSides_54 : decode cX9_bestSides 54 = .ok (.iconst 2, 1) := by decide +kernel
theorem dX9_bestSides_55 : decode cX9_bestSides 55 = .ok (.if_icmp .ne 10, 3) := by decide +kernel
theorem dX9_bestSides_58 : decode cX9_bestSides 58 = .ok (.aload_n 0, 1) := by decide +kernel
theorem dX9_bestSides_59 : decode cX9_bestSides 59 = .ok (.invokevirtual 174, 3) := by decide +kernel
theorem dX9_bestSides_62 : decode cX9_bestSides 62 = .ok (.goto 15, 3) := by decide +kernel
theorem dX9_bestSides_65 : decode cX9_bestSides 65 = .ok (.aload_n 0, 1) := by decide +kernel
theorem dX9_bestSides_66 : decode cX9_bestSides 66 = .ok (.invokevirtual 166, 3) := by decide +kernel
theorem dX9_bestSides_69 : decode cX9_bestSides 69 = .ok (.ifCond .eq 7, 3) := by decide +kernel
theorem dX9_bestSides_72 : decode cX9_bestSides 72 = .ok (.iconst 1, 1) := by decide +kernel
theorem dX9_bestSides_73 : decode cX9_bestSides 73 = .ok (.goto 4, 3) := by decide +kernel
theorem dX9_bestSides_76 : decode cX9_bestSides 76 = .ok (.iconst 0, 1) := by decide +kernel
theorem dX9_bestSides_77 : decode cX9_bestSides 77 = .ok (.ireturn, 1) := by decide +kernel
set_option maxRecDepth 20000 in
theorem ggX9_bestSet_X9_isAsked : GoodIn wsX9_bestSet wsX9_isAsked := goodIn_r _ [4, 5, 6, 3, 7] (by decide +kernel) (by decide +kernel)
set_option maxRecDepth 20000 in
theorem gX9_bestSet_X9_isAsked : GoodIn wsX9_bestSet (va_wsS RX9 213 yX9_isAsked wsX9_isAsked) := goodIn_app (goodIn_of _ (by decide +kernel)) ggX9_bestSet_X9_isAsked
set_option maxRecDepth 20000 in
theorem ggX9_bestSet_X9_in : GoodIn wsX9_bestSet wsX9_in := goodIn_r _ [7] (by decide +kernel) (by decide +kernel)
set_option maxRecDepth 20000 in
theorem gX9_bestSet_X9_in : GoodIn wsX9_bestSet (va_wsS RX9 64 yX9_in wsX9_in) := goodIn_app (goodIn_of _ (by decide +kernel)) ggX9_bestSet_X9_in
set_option maxRecDepth 20000 in
theorem ggX9_bestSet_X9_bestOf : GoodIn wsX9_bestSet wsX9_bestOf := goodIn_r _ [11, 12, 13, 14, 15, 16, 17, 18, 3, 19, 20, 21, 22, 23, 24, 25, 26, 27, 28, 29, 30, 31, 32, 33, 34, 35, 36, 37, 38, 39, 40, 41, 42, 43, 44, 45, 46, 47, 48, 49, 50, 51, 52, 53, 54, 55, 56, 57, 66, 67, 68, 69, 70, 71, 72, 73, 74, 75, 76, 77, 78, 79, 80, 81, 82, 83, 84, 85, 86, 87, 88, 89, 90, 91, 92] (by decide +kernel) (by decide +kernel)
set_option maxRecDepth 20000 in
theorem gX9_bestSet_X9_bestOf : GoodIn wsX9_bestSet (wsV RX9 216 RX9 yX9_bestOf wsX9_bestOf) := goodIn_app (goodIn_of _ (by decide +kernel)) ggX9_bestSet_X9_bestOf
set_option maxRecDepth 20000 in
theorem ggX9_bestSet_X9_setOf : GoodIn wsX9_bestSet wsX9_setOf := goodIn_r _ [61, 14, 15, 62, 63, 3, 64, 65, 29, 30, 31, 66, 67, 68, 69, 70, 71, 72, 73, 74, 75, 76, 77, 78, 79, 80, 81, 82, 83, 84, 85, 86, 87, 88, 89, 90, 91, 92] (by decide +kernel) (by decide +kernel)
set_option maxRecDepth 20000 in
theorem gX9_bestSet_X9_setOf : GoodIn wsX9_bestSet (wsV RX9 220 RX9 yX9_setOf wsX9_setOf) := goodIn_app (goodIn_of _ (by decide +kernel)) ggX9_bestSet_X9_setOf
set_option maxRecDepth 20000 in
theorem ggX9_bestSet_X9_pricesOf : GoodIn wsX9_bestSet wsX9_pricesOf := goodIn_r _ [64, 65] (by decide +kernel) (by decide +kernel)
set_option maxRecDepth 20000 in
theorem gX9_bestSet_X9_pricesOf : GoodIn wsX9_bestSet (va_wsS RX9 209 yX9_pricesOf wsX9_pricesOf) := goodIn_app (goodIn_of _ (by decide +kernel)) ggX9_bestSet_X9_pricesOf
theorem dX9_bestSet_0 : decode cX9_bestSet 0 = .ok (.iload_n 1, 1) := by decide +kernel
theorem dX9_bestSet_1 : decode cX9_bestSet 1 = .ok (.iload_n 2, 1) := by decide +kernel
theorem dX9_bestSet_2 : decode cX9_bestSet 2 = .ok (.iload_n 3, 1) := by decide +kernel
theorem dX9_bestSet_3 : decode cX9_bestSet 3 = .ok (.invokestatic 213, 3) := by decide +kernel
theorem dX9_bestSet_6 : decode cX9_bestSet 6 = .ok (.ifCond .eq 13, 3) := by decide +kernel
theorem dX9_bestSet_9 : decode cX9_bestSet 9 = .ok (.iload 4, 2) := by decide +kernel
theorem dX9_bestSet_11 : decode cX9_bestSet 11 = .ok (.iconst 0, 1) := by decide +kernel
theorem dX9_bestSet_12 : decode cX9_bestSet 12 = .ok (.iconst 2, 1) := by decide +kernel
theorem dX9_bestSet_13 : decode cX9_bestSet 13 = .ok (.invokestatic 64, 3) := by decide +kernel
theorem dX9_bestSet_16 : decode cX9_bestSet 16 = .ok (.ifCond .ne 5, 3) := by decide +kernel
theorem dX9_bestSet_19 : decode cX9_bestSet 19 = .ok (.iconst (-1), 1) := by decide +kernel
theorem dX9_bestSet_20 : decode cX9_bestSet 20 = .ok (.ireturn, 1) := by decide +kernel
theorem dX9_bestSet_21 : decode cX9_bestSet 21 = .ok (.aload_n 0, 1) := by decide +kernel
theorem dX9_bestSet_22 : decode cX9_bestSet 22 = .ok (.iload_n 1, 1) := by decide +kernel
theorem dX9_bestSet_23 : decode cX9_bestSet 23 = .ok (.iload_n 2, 1) := by decide +kernel
theorem dX9_bestSet_24 : decode cX9_bestSet 24 = .ok (.iload_n 3, 1) := by decide +kernel
theorem dX9_bestSet_25 : decode cX9_bestSet 25 = .ok (.invokevirtual 216, 3) := by decide +kernel
theorem dX9_bestSet_28 : decode cX9_bestSet 28 = .ok (.lstore 5, 2) := by decide +kernel
theorem dX9_bestSet_30 : decode cX9_bestSet 30 = .ok (.lload 5, 2) := by decide +kernel
theorem dX9_bestSet_32 : decode cX9_bestSet 32 = .ok (.lconst 0, 1) := by decide +kernel
theorem dX9_bestSet_33 : decode cX9_bestSet 33 = .ok (.lcmp, 1) := by decide +kernel
theorem dX9_bestSet_34 : decode cX9_bestSet 34 = .ok (.ifCond .ge 6, 3) := by decide +kernel
theorem dX9_bestSet_37 : decode cX9_bestSet 37 = .ok (.bipush (-99), 2) := by decide +kernel
theorem dX9_bestSet_39 : decode cX9_bestSet 39 = .ok (.ireturn, 1) := by decide +kernel
theorem dX9_bestSet_40 : decode cX9_bestSet 40 = .ok (.iload 4, 2) := by decide +kernel
theorem dX9_bestSet_42 : decode cX9_bestSet 42 = .ok (.iconst 2, 1) := by decide +kernel
theorem dX9_bestSet_43 : decode cX9_bestSet 43 = .ok (.if_icmp .ne 12, 3) := by decide +kernel
theorem dX9_bestSet_46 : decode cX9_bestSet 46 = .ok (.aload_n 0, 1) := by decide +kernel
theorem dX9_bestSet_47 : decode cX9_bestSet 47 = .ok (.lload 5, 2) := by decide +kernel
theorem dX9_bestSet_49 : decode cX9_bestSet 49 = .ok (.invokevirtual 220, 3) := by decide +kernel
theorem dX9_bestSet_52 : decode cX9_bestSet 52 = .ok (.goto 8, 3) := by decide +kernel
theorem dX9_bestSet_55 : decode cX9_bestSet 55 = .ok (.lload 5, 2) := by decide +kernel
theorem dX9_bestSet_57 : decode cX9_bestSet 57 = .ok (.invokestatic 209, 3) := by decide +kernel
theorem dX9_bestSet_60 : decode cX9_bestSet 60 = .ok (.ireturn, 1) := by decide +kernel
