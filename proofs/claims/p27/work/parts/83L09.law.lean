set_option maxRecDepth 20000 in
theorem ggL_arranges_X8_card : GoodIn wsL_arranges wsX8_card := goodIn_r _ [221, 6, 145, 146, 4, 147, 15, 16, 17, 18, 19, 20, 222, 113, 114, 236, 237, 238, 239, 240, 241, 242, 243, 244, 245, 246, 247, 268, 269, 270, 271] (by decide +kernel) (by decide +kernel)
set_option maxRecDepth 20000 in
theorem gL_arranges_X8_card : GoodIn wsL_arranges (wsV RL 17 RX8 yX8_card wsX8_card) := goodIn_app (goodIn_of _ (by decide +kernel)) ggL_arranges_X8_card
set_option maxRecDepth 20000 in
theorem ggL_arranges_L_low : GoodIn wsL_arranges wsL_low := goodIn_r _ [226, 227] (by decide +kernel) (by decide +kernel)
set_option maxRecDepth 20000 in
theorem gL_arranges_L_low : GoodIn wsL_arranges (va_wsS RL 85 yL_low wsL_low) := goodIn_app (goodIn_of _ (by decide +kernel)) ggL_arranges_L_low
set_option maxRecDepth 20000 in
theorem ggL_arranges_X8_undo : GoodIn wsL_arranges wsX8_undo := goodIn_r _ [231, 9, 6, 232, 233, 234, 193, 235, 195, 196, 201, 202, 203, 204, 205, 206, 207, 208, 209, 210, 211, 18, 212, 51, 213, 214, 215, 216, 20, 46, 217, 236, 237, 238, 239, 240, 241, 242, 243, 244, 261, 262, 245, 246, 247, 268, 269, 270, 271] (by decide +kernel) (by decide +kernel)
set_option maxRecDepth 20000 in
theorem gL_arranges_X8_undo : GoodIn wsL_arranges (wsV RL 88 RX8 yX8_undo wsX8_undo) := goodIn_app (goodIn_of _ (by decide +kernel)) ggL_arranges_X8_undo
theorem dL_arranges_0 : decode cL_arranges 0 = .ok (.aload_n 0, 1) := by decide +kernel
theorem dL_arranges_1 : decode cL_arranges 1 = .ok (.iconst 4, 1) := by decide +kernel
theorem dL_arranges_2 : decode cL_arranges 2 = .ok (.invokevirtual 21, 3) := by decide +kernel
theorem dL_arranges_5 : decode cL_arranges 5 = .ok (.aload_n 0, 1) := by decide +kernel
theorem dL_arranges_6 : decode cL_arranges 6 = .ok (.iconst 5, 1) := by decide +kernel
theorem dL_arranges_7 : decode cL_arranges 7 = .ok (.invokevirtual 21, 3) := by decide +kernel
theorem dL_arranges_10 : decode cL_arranges 10 = .ok (.if_icmp .le 17, 3) := by decide +kernel
theorem dL_arranges_13 : decode cL_arranges 13 = .ok (.aload_n 0, 1) := by decide +kernel
theorem dL_arranges_14 : decode cL_arranges 14 = .ok (.iconst 4, 1) := by decide +kernel
theorem dL_arranges_15 : decode cL_arranges 15 = .ok (.invokevirtual 21, 3) := by decide +kernel
theorem dL_arranges_18 : decode cL_arranges 18 = .ok (.aload_n 0, 1) := by decide +kernel
theorem dL_arranges_19 : decode cL_arranges 19 = .ok (.iconst 5, 1) := by decide +kernel
theorem dL_arranges_20 : decode cL_arranges 20 = .ok (.invokevirtual 21, 3) := by decide +kernel
theorem dL_arranges_23 : decode cL_arranges 23 = .ok (.isub, 1) := by decide +kernel
theorem dL_arranges_24 : decode cL_arranges 24 = .ok (.goto 14, 3) := by decide +kernel
theorem dL_arranges_27 : decode cL_arranges 27 = .ok (.aload_n 0, 1) := by decide +kernel
theorem dL_arranges_28 : decode cL_arranges 28 = .ok (.iconst 5, 1) := by decide +kernel
theorem dL_arranges_29 : decode cL_arranges 29 = .ok (.invokevirtual 21, 3) := by decide +kernel
theorem dL_arranges_32 : decode cL_arranges 32 = .ok (.aload_n 0, 1) := by decide +kernel
theorem dL_arranges_33 : decode cL_arranges 33 = .ok (.iconst 4, 1) := by decide +kernel
theorem dL_arranges_34 : decode cL_arranges 34 = .ok (.invokevirtual 21, 3) := by decide +kernel
theorem dL_arranges_37 : decode cL_arranges 37 = .ok (.isub, 1) := by decide +kernel
theorem dL_arranges_38 : decode cL_arranges 38 = .ok (.istore_n 2, 1) := by decide +kernel
theorem dL_arranges_39 : decode cL_arranges 39 = .ok (.aload_n 0, 1) := by decide +kernel
theorem dL_arranges_40 : decode cL_arranges 40 = .ok (.iconst 0, 1) := by decide +kernel
theorem dL_arranges_41 : decode cL_arranges 41 = .ok (.invokevirtual 75, 3) := by decide +kernel
theorem dL_arranges_44 : decode cL_arranges 44 = .ok (.istore_n 3, 1) := by decide +kernel
theorem dL_arranges_45 : decode cL_arranges 45 = .ok (.aload_n 0, 1) := by decide +kernel
theorem dL_arranges_46 : decode cL_arranges 46 = .ok (.iconst 1, 1) := by decide +kernel
theorem dL_arranges_47 : decode cL_arranges 47 = .ok (.invokevirtual 75, 3) := by decide +kernel
theorem dL_arranges_50 : decode cL_arranges 50 = .ok (.istore 4, 2) := by decide +kernel
theorem dL_arranges_52 : decode cL_arranges 52 = .ok (.aload_n 0, 1) := by decide +kernel
theorem dL_arranges_53 : decode cL_arranges 53 = .ok (.iconst 3, 1) := by decide +kernel
theorem dL_arranges_54 : decode cL_arranges 54 = .ok (.invokevirtual 75, 3) := by decide +kernel
theorem dL_arranges_57 : decode cL_arranges 57 = .ok (.istore 5, 2) := by decide +kernel
theorem dL_arranges_59 : decode cL_arranges 59 = .ok (.aload_n 0, 1) := by decide +kernel
theorem dL_arranges_60 : decode cL_arranges 60 = .ok (.iconst 2, 1) := by decide +kernel
theorem dL_arranges_61 : decode cL_arranges 61 = .ok (.invokevirtual 75, 3) := by decide +kernel
theorem dL_arranges_64 : decode cL_arranges 64 = .ok (.istore 6, 2) := by decide +kernel
theorem dL_arranges_66 : decode cL_arranges 66 = .ok (.iload 5, 2) := by decide +kernel
theorem dL_arranges_68 : decode cL_arranges 68 = .ok (.aload_n 0, 1) := by decide +kernel
theorem dL_arranges_69 : decode cL_arranges 69 = .ok (.bipush 11, 2) := by decide +kernel
theorem dL_arranges_71 : decode cL_arranges 71 = .ok (.invokevirtual 21, 3) := by decide +kernel
theorem dL_arranges_74 : decode cL_arranges 74 = .ok (.if_icmp .lt 40, 3) := by decide +kernel
theorem dL_arranges_77 : decode cL_arranges 77 = .ok (.iload 5, 2) := by decide +kernel
theorem dL_arranges_79 : decode cL_arranges 79 = .ok (.aload_n 0, 1) := by decide +kernel
theorem dL_arranges_80 : decode cL_arranges 80 = .ok (.bipush 11, 2) := by decide +kernel
theorem dL_arranges_82 : decode cL_arranges 82 = .ok (.invokevirtual 21, 3) := by decide +kernel
theorem dL_arranges_85 : decode cL_arranges 85 = .ok (.if_icmp .ne 9, 3) := by decide +kernel
theorem dL_arranges_88 : decode cL_arranges 88 = .ok (.iload 4, 2) := by decide +kernel
theorem dL_arranges_90 : decode cL_arranges 90 = .ok (.iload_n 2, 1) := by decide +kernel
theorem dL_arranges_91 : decode cL_arranges 91 = .ok (.if_icmp .gt 23, 3) := by decide +kernel
theorem dL_arranges_94 : decode cL_arranges 94 = .ok (.aload_n 0, 1) := by decide +kernel
theorem dL_arranges_95 : decode cL_arranges 95 = .ok (.invokevirtual 82, 3) := by decide +kernel
theorem dL_arranges_98 : decode cL_arranges 98 = .ok (.iload 4, 2) := by decide +kernel
theorem dL_arranges_100 : decode cL_arranges 100 = .ok (.if_icmp .ne 14, 3) := by decide +kernel
theorem dL_arranges_103 : decode cL_arranges 103 = .ok (.aload_n 0, 1) := by decide +kernel
theorem dL_arranges_104 : decode cL_arranges 104 = .ok (.bipush 11, 2) := by decide +kernel
theorem dL_arranges_106 : decode cL_arranges 106 = .ok (.invokevirtual 21, 3) := by decide +kernel
theorem dL_arranges_109 : decode cL_arranges 109 = .ok (.iload 5, 2) := by decide +kernel
theorem dL_arranges_111 : decode cL_arranges 111 = .ok (.if_icmp .eq 5, 3) := by decide +kernel
theorem dL_arranges_114 : decode cL_arranges 114 = .ok (.iconst 0, 1) := by decide +kernel
theorem dL_arranges_115 : decode cL_arranges 115 = .ok (.ireturn, 1) := by decide +kernel
theorem dL_arranges_116 : decode cL_arranges 116 = .ok (.aload_n 0, 1) := by decide +kernel
theorem dL_arranges_117 : decode cL_arranges 117 = .ok (.iconst 2, 1) := by decide +kernel
theorem dL_arranges_118 : decode cL_arranges 118 = .ok (.invokevirtual 21, 3) := by decide +kernel
theorem dL_arranges_121 : decode cL_arranges 121 = .ok (.aload_n 0, 1) := by decide +kernel
theorem dL_arranges_122 : decode cL_arranges 122 = .ok (.iconst 3, 1) := by decide +kernel
theorem dL_arranges_123 : decode cL_arranges 123 = .ok (.invokevirtual 21, 3) := by decide +kernel
theorem dL_arranges_126 : decode cL_arranges 126 = .ok (.if_icmp .le 11, 3) := by decide +kernel
theorem dL_arranges_129 : decode cL_arranges 129 = .ok (.aload_n 0, 1) := by decide +kernel
theorem dL_arranges_130 : decode cL_arranges 130 = .ok (.iconst 2, 1) := by decide +kernel
theorem dL_arranges_131 : decode cL_arranges 131 = .ok (.invokevirtual 21, 3) := by decide +kernel
theorem dL_arranges_134 : decode cL_arranges 134 = .ok (.goto 8, 3) := by decide +kernel
theorem dL_arranges_137 : decode cL_arranges 137 = .ok (.aload_n 0, 1) := by decide +kernel
theorem dL_arranges_138 : decode cL_arranges 138 = .ok (.iconst 3, 1) := by decide +kernel
theorem dL_arranges_139 : decode cL_arranges 139 = .ok (.invokevirtual 21, 3) := by decide +kernel
theorem dL_arranges_142 : decode cL_arranges 142 = .ok (.istore 7, 2) := by decide +kernel
theorem dL_arranges_144 : decode cL_arranges 144 = .ok (.iload 7, 2) := by decide +kernel
theorem dL_arranges_146 : decode cL_arranges 146 = .ok (.iload 6, 2) := by decide +kernel
theorem dL_arranges_148 : decode cL_arranges 148 = .ok (.if_icmp .ne 54, 3) := by decide +kernel
theorem dL_arranges_151 : decode cL_arranges 151 = .ok (.aload_n 0, 1) := by decide +kernel
theorem dL_arranges_152 : decode cL_arranges 152 = .ok (.bipush 6, 2) := by decide +kernel
theorem dL_arranges_154 : decode cL_arranges 154 = .ok (.invokevirtual 17, 3) := by decide +kernel
theorem dL_arranges_157 : decode cL_arranges 157 = .ok (.iconst 2, 1) := by decide +kernel
theorem dL_arranges_158 : decode cL_arranges 158 = .ok (.aload_n 0, 1) := by decide +kernel
theorem dL_arranges_159 : decode cL_arranges 159 = .ok (.bipush 7, 2) := by decide +kernel
theorem dL_arranges_161 : decode cL_arranges 161 = .ok (.invokevirtual 17, 3) := by decide +kernel
theorem dL_arranges_164 : decode cL_arranges 164 = .ok (.imul, 1) := by decide +kernel
theorem dL_arranges_165 : decode cL_arranges 165 = .ok (.iadd, 1) := by decide +kernel
theorem dL_arranges_166 : decode cL_arranges 166 = .ok (.iconst 4, 1) := by decide +kernel
theorem dL_arranges_167 : decode cL_arranges 167 = .ok (.aload_n 0, 1) := by decide +kernel
theorem dL_arranges_168 : decode cL_arranges 168 = .ok (.bipush 8, 2) := by decide +kernel
theorem dL_arranges_170 : decode cL_arranges 170 = .ok (.invokevirtual 17, 3) := by decide +kernel
theorem dL_arranges_173 : decode cL_arranges 173 = .ok (.imul, 1) := by decide +kernel
theorem dL_arranges_174 : decode cL_arranges 174 = .ok (.iadd, 1) := by decide +kernel
theorem dL_arranges_175 : decode cL_arranges 175 = .ok (.bipush 8, 2) := by decide +kernel
theorem dL_arranges_177 : decode cL_arranges 177 = .ok (.aload_n 0, 1) := by decide +kernel
theorem dL_arranges_178 : decode cL_arranges 178 = .ok (.bipush 9, 2) := by decide +kernel
theorem dL_arranges_180 : decode cL_arranges 180 = .ok (.invokevirtual 17, 3) := by decide +kernel
theorem dL_arranges_183 : decode cL_arranges 183 = .ok (.imul, 1) := by decide +kernel
theorem dL_arranges_184 : decode cL_arranges 184 = .ok (.iadd, 1) := by decide +kernel
theorem dL_arranges_185 : decode cL_arranges 185 = .ok (.iload_n 3, 1) := by decide +kernel
theorem dL_arranges_186 : decode cL_arranges 186 = .ok (.if_icmp .ne 16, 3) := by decide +kernel
theorem dL_arranges_189 : decode cL_arranges 189 = .ok (.aload_n 0, 1) := by decide +kernel
theorem dL_arranges_190 : decode cL_arranges 190 = .ok (.iconst 0, 1) := by decide +kernel
theorem dL_arranges_191 : decode cL_arranges 191 = .ok (.invokevirtual 75, 3) := by decide +kernel
theorem dL_arranges_194 : decode cL_arranges 194 = .ok (.iload_n 3, 1) := by decide +kernel
theorem dL_arranges_195 : decode cL_arranges 195 = .ok (.if_icmp .ne 7, 3) := by decide +kernel
theorem dL_arranges_198 : decode cL_arranges 198 = .ok (.iconst 1, 1) := by decide +kernel
theorem dL_arranges_199 : decode cL_arranges 199 = .ok (.goto 4, 3) := by decide +kernel
theorem dL_arranges_202 : decode cL_arranges 202 = .ok (.iconst 0, 1) := by decide +kernel
theorem dL_arranges_203 : decode cL_arranges 203 = .ok (.istore 8, 2) := by decide +kernel
theorem dL_arranges_205 : decode cL_arranges 205 = .ok (.iload 8, 2) := by decide +kernel
theorem dL_arranges_207 : decode cL_arranges 207 = .ok (.ifCond .eq 22, 3) := by decide +kernel
theorem dL_arranges_210 : decode cL_arranges 210 = .ok (.iload_n 1, 1) := by decide +kernel
theorem dL_arranges_211 : decode cL_arranges 211 = .ok (.iconst 2, 1) := by decide +kernel
theorem dL_arranges_212 : decode cL_arranges 212 = .ok (.invokestatic 85, 3) := by decide +kernel
theorem dL_arranges_215 : decode cL_arranges 215 = .ok (.ifCond .eq 10, 3) := by decide +kernel
theorem dL_arranges_218 : decode cL_arranges 218 = .ok (.aload_n 0, 1) := by decide +kernel
theorem dL_arranges_219 : decode cL_arranges 219 = .ok (.invokevirtual 88, 3) := by decide +kernel
theorem dL_arranges_222 : decode cL_arranges 222 = .ok (.ifCond .lt 7, 3) := by decide +kernel
theorem dL_arranges_225 : decode cL_arranges 225 = .ok (.iconst 1, 1) := by decide +kernel
theorem dL_arranges_226 : decode cL_arranges 226 = .ok (.goto 4, 3) := by decide +kernel
theorem dL_arranges_229 : decode cL_arranges 229 = .ok (.iconst 0, 1) := by decide +kernel
theorem dL_arranges_230 : decode cL_arranges 230 = .ok (.ireturn, 1) := by decide +kernel
set_option maxRecDepth 20000 in
theorem ggL_chooses_L_low : GoodIn wsL_chooses wsL_low := goodIn_r _ [4, 5] (by decide +kernel) (by decide +kernel)
set_option maxRecDepth 20000 in
theorem gL_chooses_L_low : GoodIn wsL_chooses (va_wsS RL 85 yL_low wsL_low) := goodIn_app (goodIn_of _ (by decide +kernel)) ggL_chooses_L_low
