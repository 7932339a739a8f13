set_option maxRecDepth 20000 in
theorem ggL_side_X8_dish : GoodIn wsL_side wsX8_dish := wsL_side_good (goodIn_r _ [248, 9, 10, 249, 250, 251, 24, 252, 52, 15, 5, 16, 14, 211, 54, 55, 56, 57, 17, 18, 19, 20, 7, 21, 22, 23, 25, 26, 27, 28, 29, 30, 31, 32, 33, 34, 35, 36, 37, 38, 39, 40, 41, 42, 43, 44, 45, 46, 47, 48, 49, 50, 51, 53, 58, 59, 60, 61, 62, 63, 64, 65, 66, 67, 68, 69, 70, 71, 72, 73, 74, 75, 76, 77, 78, 79, 80, 81, 82, 83, 84, 85, 86, 87, 88, 89, 90, 91, 92, 93, 94, 95, 96, 97, 98, 99, 100, 101, 102, 103, 104, 105, 106, 107, 108, 109, 110, 111, 112, 113, 114, 115, 116, 117, 118, 119, 120, 121, 122, 123, 124, 125, 126, 127, 128, 129, 130, 131, 132, 133, 134, 135, 136, 137, 138, 139, 140, 141, 142, 219, 210, 253, 254, 255, 256, 8, 225, 144, 145, 146, 147, 148, 149, 150, 151, 152, 153, 154, 155, 156, 157, 158, 159, 160, 161, 162, 163, 164, 165, 166, 167, 168, 169, 170, 171, 172, 173, 174, 175, 176, 257, 258, 259, 260, 193, 194, 195, 196, 185, 186, 187, 188, 281, 282, 283, 284, 285, 286, 287, 288, 289, 290, 291, 292, 297, 298, 299, 300, 301, 302, 303, 304, 293, 294, 295, 296, 305, 306, 307, 308, 309, 310, 311, 312, 313, 314, 315, 316] (by decide +kernel) (by decide +kernel))
set_option maxRecDepth 20000 in
theorem gL_side_X8_dish : GoodIn wsL_side (wsV RL 24 RX8 yX8_dish wsX8_dish) := goodIn_app (goodIn_of _ (by decide +kernel)) ggL_side_X8_dish
set_option maxRecDepth 20000 in
theorem ggL_side_X8_why : GoodIn wsL_side wsX8_why := wsL_side_good (goodIn_r _ [264, 9, 10, 249, 250, 251, 24, 252, 52, 15, 5, 16, 265, 59, 60, 61, 62, 54, 55, 56, 57, 21, 22, 23, 25, 26, 266, 68, 69, 70, 71, 72, 267, 74, 75, 76, 268, 269, 270, 271, 27, 28, 29, 30, 31, 32, 33, 34, 35, 36, 37, 38, 39, 40, 41, 42, 43, 44, 45, 46, 47, 48, 49, 50, 51, 53, 58, 63, 64, 65, 66, 67, 73, 77, 78, 79, 80, 81, 82, 83, 84, 85, 86, 87, 88, 89, 90, 91, 92, 93, 94, 95, 96, 97, 98, 99, 100, 101, 219, 281, 282, 283, 284, 285, 286, 287, 288, 289, 290, 291, 292, 297, 298, 299, 300, 301, 302, 303, 304, 293, 294, 295, 296] (by decide +kernel) (by decide +kernel))
set_option maxRecDepth 20000 in
theorem gL_side_X8_why : GoodIn wsL_side (wsV RL 28 RX8 yX8_why wsX8_why) := goodIn_app (goodIn_of _ (by decide +kernel)) ggL_side_X8_why
set_option maxRecDepth 20000 in
theorem ggL_side_L_size : GoodIn wsL_side wsL_size := wsL_side_good (goodIn_r _ [275] (by decide +kernel) (by decide +kernel))
set_option maxRecDepth 20000 in
theorem gL_side_L_size : GoodIn wsL_side (va_wsS RL 31 yL_size wsL_size) := goodIn_app (goodIn_of _ (by decide +kernel)) ggL_side_L_size
set_option maxRecDepth 20000 in
theorem ggL_side_X8_account : GoodIn wsL_side wsX8_account := wsL_side_good (goodIn_r _ [279, 7, 11, 12, 5, 13, 14, 15, 16, 17, 18, 19, 20, 10, 9, 21, 22, 23, 24, 25, 26, 27, 28, 29, 30, 31, 32, 33, 34, 35, 36, 37, 38, 39, 40, 41, 42, 43, 44, 45, 46, 47, 48, 49, 50, 51, 52, 53, 54, 55, 56, 57, 58, 59, 60, 61, 62, 63, 64, 65, 66, 67, 68, 69, 70, 71, 72, 73, 74, 75, 76, 77, 78, 79, 80, 81, 82, 83, 84, 85, 86, 87, 88, 89, 90, 91, 92, 93, 94, 95, 96, 97, 98, 99, 100, 101, 102, 103, 104, 105, 106, 107, 108, 109, 110, 111, 112, 113, 114, 115, 116, 117, 118, 119, 120, 121, 122, 123, 124, 125, 126, 127, 128, 129, 130, 131, 132, 133, 134, 135, 136, 137, 138, 139, 140, 141, 142, 280, 281, 282, 283, 284, 285, 286, 287, 288, 289, 290, 291, 292, 293, 294, 295, 296, 297, 298, 299, 300, 301, 302, 303, 304, 305, 306, 307, 308, 309] (by decide +kernel) (by decide +kernel))
set_option maxRecDepth 20000 in
theorem gL_side_X8_account : GoodIn wsL_side (wsV RL 34 RX8 yX8_account wsX8_account) := goodIn_app (goodIn_of _ (by decide +kernel)) ggL_side_X8_account
theorem dL_side_0 : decode cL_side 0 = .ok (.iconst 0, 1) := by decide +kernel
theorem dL_side_1 : decode cL_side 1 = .ok (.istore_n 2, 1) := by decide +kernel
theorem dL_side_2 : decode cL_side 2 = .ok (.iconst 0, 1) := by decide +kernel
theorem dL_side_3 : decode cL_side 3 = .ok (.istore_n 3, 1) := by decide +kernel
theorem dL_side_4 : decode cL_side 4 = .ok (.iconst 0, 1) := by decide +kernel
theorem dL_side_5 : decode cL_side 5 = .ok (.istore 4, 2) := by decide +kernel
theorem dL_side_7 : decode cL_side 7 = .ok (.iconst 4, 1) := by decide +kernel
theorem dL_side_8 : decode cL_side 8 = .ok (.newarray .int, 2) := by decide +kernel
theorem dL_side_10 : decode cL_side 10 = .ok (.astore 5, 2) := by decide +kernel
theorem dL_side_12 : decode cL_side 12 = .ok (.bipush 20, 2) := by decide +kernel
theorem dL_side_14 : decode cL_side 14 = .ok (.newarray .int, 2) := by decide +kernel
theorem dL_side_16 : decode cL_side 16 = .ok (.astore 6, 2) := by decide +kernel
theorem dL_side_18 : decode cL_side 18 = .ok (.iconst 1, 1) := by decide +kernel
theorem dL_side_19 : decode cL_side 19 = .ok (.istore 7, 2) := by decide +kernel
theorem dL_side_21 : decode cL_side 21 = .ok (.iload 7, 2) := by decide +kernel
theorem dL_side_23 : decode cL_side 23 = .ok (.ifCond .eq 319, 3) := by decide +kernel
theorem dL_side_26 : decode cL_side 26 = .ok (.aload_n 0, 1) := by decide +kernel
theorem dL_side_27 : decode cL_side 27 = .ok (.iload_n 1, 1) := by decide +kernel
theorem dL_side_28 : decode cL_side 28 = .ok (.iload_n 2, 1) := by decide +kernel
theorem dL_side_29 : decode cL_side 29 = .ok (.iconst 0, 1) := by decide +kernel
theorem dL_side_30 : decode cL_side 30 = .ok (.invokevirtual 9, 3) := by decide +kernel
theorem dL_side_33 : decode cL_side 33 = .ok (.istore 8, 2) := by decide +kernel
theorem dL_side_35 : decode cL_side 35 = .ok (.iload 8, 2) := by decide +kernel
theorem dL_side_37 : decode cL_side 37 = .ok (.bipush (-99), 2) := by decide +kernel
theorem dL_side_39 : decode cL_side 39 = .ok (.if_icmp .eq 7, 3) := by decide +kernel
theorem dL_side_42 : decode cL_side 42 = .ok (.iconst 1, 1) := by decide +kernel
theorem dL_side_43 : decode cL_side 43 = .ok (.goto 4, 3) := by decide +kernel
theorem dL_side_46 : decode cL_side 46 = .ok (.iconst 0, 1) := by decide +kernel
theorem dL_side_47 : decode cL_side 47 = .ok (.istore 7, 2) := by decide +kernel
theorem dL_side_49 : decode cL_side 49 = .ok (.iload 7, 2) := by decide +kernel
theorem dL_side_51 : decode cL_side 51 = .ok (.ifCond .eq 288, 3) := by decide +kernel
theorem dL_side_54 : decode cL_side 54 = .ok (.aload_n 0, 1) := by decide +kernel
theorem dL_side_55 : decode cL_side 55 = .ok (.iload_n 1, 1) := by decide +kernel
theorem dL_side_56 : decode cL_side 56 = .ok (.iload_n 2, 1) := by decide +kernel
theorem dL_side_57 : decode cL_side 57 = .ok (.iconst 1, 1) := by decide +kernel
theorem dL_side_58 : decode cL_side 58 = .ok (.invokevirtual 9, 3) := by decide +kernel
theorem dL_side_61 : decode cL_side 61 = .ok (.istore 9, 2) := by decide +kernel
theorem dL_side_63 : decode cL_side 63 = .ok (.aload_n 0, 1) := by decide +kernel
theorem dL_side_64 : decode cL_side 64 = .ok (.iload_n 1, 1) := by decide +kernel
theorem dL_side_65 : decode cL_side 65 = .ok (.iload_n 2, 1) := by decide +kernel
theorem dL_side_66 : decode cL_side 66 = .ok (.iconst 2, 1) := by decide +kernel
theorem dL_side_67 : decode cL_side 67 = .ok (.invokevirtual 9, 3) := by decide +kernel
theorem dL_side_70 : decode cL_side 70 = .ok (.istore 10, 2) := by decide +kernel
theorem dL_side_72 : decode cL_side 72 = .ok (.aload 5, 2) := by decide +kernel
theorem dL_side_74 : decode cL_side 74 = .ok (.iload 8, 2) := by decide +kernel
theorem dL_side_76 : decode cL_side 76 = .ok (.dup2, 1) := by decide +kernel
theorem dL_side_77 : decode cL_side 77 = .ok (.iaload, 1) := by decide +kernel
theorem dL_side_78 : decode cL_side 78 = .ok (.iconst 1, 1) := by decide +kernel
theorem dL_side_79 : decode cL_side 79 = .ok (.iadd, 1) := by decide +kernel
theorem dL_side_80 : decode cL_side 80 = .ok (.iastore, 1) := by decide +kernel
theorem dL_side_81 : decode cL_side 81 = .ok (.iload 4, 2) := by decide +kernel
theorem dL_side_83 : decode cL_side 83 = .ok (.iload 8, 2) := by decide +kernel
theorem dL_side_85 : decode cL_side 85 = .ok (.ifCond .ne 7, 3) := by decide +kernel
theorem dL_side_88 : decode cL_side 88 = .ok (.iconst 1, 1) := by decide +kernel
theorem dL_side_89 : decode cL_side 89 = .ok (.goto 4, 3) := by decide +kernel
theorem dL_side_92 : decode cL_side 92 = .ok (.iconst 0, 1) := by decide +kernel
theorem dL_side_93 : decode cL_side 93 = .ok (.iadd, 1) := by decide +kernel
theorem dL_side_94 : decode cL_side 94 = .ok (.istore 4, 2) := by decide +kernel
theorem dL_side_96 : decode cL_side 96 = .ok (.iload_n 3, 1) := by decide +kernel
theorem dL_side_97 : decode cL_side 97 = .ok (.aload_n 0, 1) := by decide +kernel
theorem dL_side_98 : decode cL_side 98 = .ok (.iload_n 1, 1) := by decide +kernel
theorem dL_side_99 : decode cL_side 99 = .ok (.iload_n 2, 1) := by decide +kernel
theorem dL_side_100 : decode cL_side 100 = .ok (.iconst 3, 1) := by decide +kernel
theorem dL_side_101 : decode cL_side 101 = .ok (.invokevirtual 9, 3) := by decide +kernel
theorem dL_side_104 : decode cL_side 104 = .ok (.iadd, 1) := by decide +kernel
theorem dL_side_105 : decode cL_side 105 = .ok (.istore_n 3, 1) := by decide +kernel
theorem dL_side_106 : decode cL_side 106 = .ok (.iload 8, 2) := by decide +kernel
theorem dL_side_108 : decode cL_side 108 = .ok (.ifCond .ne 15, 3) := by decide +kernel
theorem dL_side_111 : decode cL_side 111 = .ok (.iload 9, 2) := by decide +kernel
theorem dL_side_113 : decode cL_side 113 = .ok (.bipush (-99), 2) := by decide +kernel
theorem dL_side_115 : decode cL_side 115 = .ok (.if_icmp .ne 49, 3) := by decide +kernel
theorem dL_side_118 : decode cL_side 118 = .ok (.iload 10, 2) := by decide +kernel
theorem dL_side_120 : decode cL_side 120 = .ok (.ifCond .ne 44, 3) := by decide +kernel
theorem dL_side_123 : decode cL_side 123 = .ok (.iload 8, 2) := by decide +kernel
theorem dL_side_125 : decode cL_side 125 = .ok (.iconst 1, 1) := by decide +kernel
theorem dL_side_126 : decode cL_side 126 = .ok (.if_icmp .ne 22, 3) := by decide +kernel
theorem dL_side_129 : decode cL_side 129 = .ok (.aload_n 0, 1) := by decide +kernel
theorem dL_side_130 : decode cL_side 130 = .ok (.bipush 6, 2) := by decide +kernel
theorem dL_side_132 : decode cL_side 132 = .ok (.iload 9, 2) := by decide +kernel
theorem dL_side_134 : decode cL_side 134 = .ok (.iadd, 1) := by decide +kernel
theorem dL_side_135 : decode cL_side 135 = .ok (.invokevirtual 17, 3) := by decide +kernel
theorem dL_side_138 : decode cL_side 138 = .ok (.iload_n 1, 1) := by decide +kernel
theorem dL_side_139 : decode cL_side 139 = .ok (.if_icmp .ne 25, 3) := by decide +kernel
theorem dL_side_142 : decode cL_side 142 = .ok (.iload 10, 2) := by decide +kernel
theorem dL_side_144 : decode cL_side 144 = .ok (.iconst 1, 1) := by decide +kernel
theorem dL_side_145 : decode cL_side 145 = .ok (.if_icmp .gt 19, 3) := by decide +kernel
theorem dL_side_148 : decode cL_side 148 = .ok (.iload 8, 2) := by decide +kernel
theorem dL_side_150 : decode cL_side 150 = .ok (.iconst 3, 1) := by decide +kernel
theorem dL_side_151 : decode cL_side 151 = .ok (.if_icmp .ne 15, 3) := by decide +kernel
theorem dL_side_154 : decode cL_side 154 = .ok (.aload_n 0, 1) := by decide +kernel
theorem dL_side_155 : decode cL_side 155 = .ok (.bipush 8, 2) := by decide +kernel
theorem dL_side_157 : decode cL_side 157 = .ok (.invokevirtual 21, 3) := by decide +kernel
theorem dL_side_160 : decode cL_side 160 = .ok (.iload_n 1, 1) := by decide +kernel
theorem dL_side_161 : decode cL_side 161 = .ok (.if_icmp .eq 5, 3) := by decide +kernel
theorem dL_side_164 : decode cL_side 164 = .ok (.iconst 0, 1) := by decide +kernel
theorem dL_side_165 : decode cL_side 165 = .ok (.ireturn, 1) := by decide +kernel
theorem dL_side_166 : decode cL_side 166 = .ok (.iload 8, 2) := by decide +kernel
theorem dL_side_168 : decode cL_side 168 = .ok (.iconst 2, 1) := by decide +kernel
theorem dL_side_169 : decode cL_side 169 = .ok (.if_icmp .ne 167, 3) := by decide +kernel
theorem dL_side_172 : decode cL_side 172 = .ok (.aload_n 0, 1) := by decide +kernel
theorem dL_side_173 : decode cL_side 173 = .ok (.iload_n 1, 1) := by decide +kernel
theorem dL_side_174 : decode cL_side 174 = .ok (.iload_n 2, 1) := by decide +kernel
theorem dL_side_175 : decode cL_side 175 = .ok (.iconst 4, 1) := by decide +kernel
theorem dL_side_176 : decode cL_side 176 = .ok (.invokevirtual 9, 3) := by decide +kernel
theorem dL_side_179 : decode cL_side 179 = .ok (.istore 11, 2) := by decide +kernel
theorem dL_side_181 : decode cL_side 181 = .ok (.aload_n 0, 1) := by decide +kernel
theorem dL_side_182 : decode cL_side 182 = .ok (.iload_n 1, 1) := by decide +kernel
theorem dL_side_183 : decode cL_side 183 = .ok (.iload_n 2, 1) := by decide +kernel
theorem dL_side_184 : decode cL_side 184 = .ok (.iconst 5, 1) := by decide +kernel
theorem dL_side_185 : decode cL_side 185 = .ok (.invokevirtual 9, 3) := by decide +kernel
theorem dL_side_188 : decode cL_side 188 = .ok (.istore 12, 2) := by decide +kernel
theorem dL_side_190 : decode cL_side 190 = .ok (.iload 10, 2) := by decide +kernel
theorem dL_side_192 : decode cL_side 192 = .ok (.aload_n 0, 1) := by decide +kernel
theorem dL_side_193 : decode cL_side 193 = .ok (.iload 9, 2) := by decide +kernel
theorem dL_side_195 : decode cL_side 195 = .ok (.bipush 7, 2) := by decide +kernel
theorem dL_side_197 : decode cL_side 197 = .ok (.invokevirtual 24, 3) := by decide +kernel
theorem dL_side_200 : decode cL_side 200 = .ok (.iconst 1, 1) := by decide +kernel
theorem dL_side_201 : decode cL_side 201 = .ok (.isub, 1) := by decide +kernel
theorem dL_side_202 : decode cL_side 202 = .ok (.if_icmp .ne 7, 3) := by decide +kernel
theorem dL_side_205 : decode cL_side 205 = .ok (.iconst 1, 1) := by decide +kernel
theorem dL_side_206 : decode cL_side 206 = .ok (.goto 4, 3) := by decide +kernel
theorem dL_side_209 : decode cL_side 209 = .ok (.iconst 0, 1) := by decide +kernel
theorem dL_side_210 : decode cL_side 210 = .ok (.istore 13, 2) := by decide +kernel
theorem dL_side_212 : decode cL_side 212 = .ok (.aload 6, 2) := by decide +kernel
theorem dL_side_214 : decode cL_side 214 = .ok (.iload 9, 2) := by decide +kernel
theorem dL_side_216 : decode cL_side 216 = .ok (.dup2, 1) := by decide +kernel
theorem dL_side_217 : decode cL_side 217 = .ok (.iaload, 1) := by decide +kernel
theorem dL_side_218 : decode cL_side 218 = .ok (.iload 11, 2) := by decide +kernel
theorem dL_side_220 : decode cL_side 220 = .ok (.iadd, 1) := by decide +kernel
theorem dL_side_221 : decode cL_side 221 = .ok (.iastore, 1) := by decide +kernel
theorem dL_side_222 : decode cL_side 222 = .ok (.aload_n 0, 1) := by decide +kernel
theorem dL_side_223 : decode cL_side 223 = .ok (.iload 9, 2) := by decide +kernel
theorem dL_side_225 : decode cL_side 225 = .ok (.bipush 8, 2) := by decide +kernel
theorem dL_side_227 : decode cL_side 227 = .ok (.invokevirtual 24, 3) := by decide +kernel
theorem dL_side_230 : decode cL_side 230 = .ok (.iload 10, 2) := by decide +kernel
theorem dL_side_232 : decode cL_side 232 = .ok (.iadd, 1) := by decide +kernel
theorem dL_side_233 : decode cL_side 233 = .ok (.iload_n 2, 1) := by decide +kernel
theorem dL_side_234 : decode cL_side 234 = .ok (.if_icmp .ne 100, 3) := by decide +kernel
theorem dL_side_237 : decode cL_side 237 = .ok (.aload_n 0, 1) := by decide +kernel
theorem dL_side_238 : decode cL_side 238 = .ok (.bipush 6, 2) := by decide +kernel
theorem dL_side_240 : decode cL_side 240 = .ok (.aload_n 0, 1) := by decide +kernel
theorem dL_side_241 : decode cL_side 241 = .ok (.iload 9, 2) := by decide +kernel
theorem dL_side_243 : decode cL_side 243 = .ok (.iconst 0, 1) := by decide +kernel
theorem dL_side_244 : decode cL_side 244 = .ok (.invokevirtual 24, 3) := by decide +kernel
theorem dL_side_247 : decode cL_side 247 = .ok (.iadd, 1) := by decide +kernel
theorem dL_side_248 : decode cL_side 248 = .ok (.invokevirtual 17, 3) := by decide +kernel
theorem dL_side_251 : decode cL_side 251 = .ok (.iload_n 1, 1) := by decide +kernel
theorem dL_side_252 : decode cL_side 252 = .ok (.if_icmp .ne 82, 3) := by decide +kernel
theorem dL_side_255 : decode cL_side 255 = .ok (.iload 13, 2) := by decide +kernel
theorem dL_side_257 : decode cL_side 257 = .ok (.ifCond .eq 29, 3) := by decide +kernel
theorem dL_side_260 : decode cL_side 260 = .ok (.iload 12, 2) := by decide +kernel
theorem dL_side_262 : decode cL_side 262 = .ok (.iconst 3, 1) := by decide +kernel
theorem dL_side_263 : decode cL_side 263 = .ok (.if_icmp .lt 71, 3) := by decide +kernel
theorem dL_side_266 : decode cL_side 266 = .ok (.iload 11, 2) := by decide +kernel
theorem dL_side_268 : decode cL_side 268 = .ok (.iload 12, 2) := by decide +kernel
theorem dL_side_270 : decode cL_side 270 = .ok (.iadd, 1) := by decide +kernel
theorem dL_side_271 : decode cL_side 271 = .ok (.aload_n 0, 1) := by decide +kernel
theorem dL_side_272 : decode cL_side 272 = .ok (.bipush 6, 2) := by decide +kernel
theorem dL_side_274 : decode cL_side 274 = .ok (.invokevirtual 21, 3) := by decide +kernel
theorem dL_side_277 : decode cL_side 277 = .ok (.iadd, 1) := by decide +kernel
theorem dL_side_278 : decode cL_side 278 = .ok (.aload_n 0, 1) := by decide +kernel
theorem dL_side_279 : decode cL_side 279 = .ok (.iconst 1, 1) := by decide +kernel
theorem dL_side_280 : decode cL_side 280 = .ok (.invokevirtual 17, 3) := by decide +kernel
theorem dL_side_283 : decode cL_side 283 = .ok (.if_icmp .ne 51, 3) := by decide +kernel
theorem dL_side_286 : decode cL_side 286 = .ok (.iload 13, 2) := by decide +kernel
theorem dL_side_288 : decode cL_side 288 = .ok (.ifCond .ne 8, 3) := by decide +kernel
theorem dL_side_291 : decode cL_side 291 = .ok (.iload 12, 2) := by decide +kernel
theorem dL_side_293 : decode cL_side 293 = .ok (.ifCond .ne 41, 3) := by decide +kernel
theorem dL_side_296 : decode cL_side 296 = .ok (.iload 11, 2) := by decide +kernel
theorem dL_side_298 : decode cL_side 298 = .ok (.aload_n 0, 1) := by decide +kernel
theorem dL_side_299 : decode cL_side 299 = .ok (.iconst 1, 1) := by decide +kernel
theorem dL_side_300 : decode cL_side 300 = .ok (.invokevirtual 17, 3) := by decide +kernel
theorem dL_side_303 : decode cL_side 303 = .ok (.if_icmp .gt 31, 3) := by decide +kernel
theorem dL_side_306 : decode cL_side 306 = .ok (.aload_n 0, 1) := by decide +kernel
theorem dL_side_307 : decode cL_side 307 = .ok (.iload_n 1, 1) := by decide +kernel
theorem dL_side_308 : decode cL_side 308 = .ok (.iload_n 2, 1) := by decide +kernel
theorem dL_side_309 : decode cL_side 309 = .ok (.iconst 3, 1) := by decide +kernel
theorem dL_side_310 : decode cL_side 310 = .ok (.invokevirtual 9, 3) := by decide +kernel
theorem dL_side_313 : decode cL_side 313 = .ok (.aload_n 0, 1) := by decide +kernel
theorem dL_side_314 : decode cL_side 314 = .ok (.iload 9, 2) := by decide +kernel
theorem dL_side_316 : decode cL_side 316 = .ok (.iconst 5, 1) := by decide +kernel
theorem dL_side_317 : decode cL_side 317 = .ok (.invokevirtual 24, 3) := by decide +kernel
theorem dL_side_320 : decode cL_side 320 = .ok (.iload 10, 2) := by decide +kernel
theorem dL_side_322 : decode cL_side 322 = .ok (.ifCond .ne 7, 3) := by decide +kernel
theorem dL_side_325 : decode cL_side 325 = .ok (.iconst 2, 1) := by decide +kernel
theorem dL_side_326 : decode cL_side 326 = .ok (.goto 4, 3) := by decide +kernel
theorem dL_side_329 : decode cL_side 329 = .ok (.iconst 0, 1) := by decide +kernel
theorem dL_side_330 : decode cL_side 330 = .ok (.iadd, 1) := by decide +kernel
theorem dL_side_331 : decode cL_side 331 = .ok (.if_icmp .eq 5, 3) := by decide +kernel
theorem dL_side_334 : decode cL_side 334 = .ok (.iconst 0, 1) := by decide +kernel
theorem dL_side_335 : decode cL_side 335 = .ok (.ireturn, 1) := by decide +kernel
theorem dL_side_336 : decode cL_side 336 = .ok (.iinc 2 1, 3) := by decide +kernel
theorem dL_side_339 : decode cL_side 339 = .ok (.goto (-318), 3) := by decide +kernel
theorem dL_side_342 : decode cL_side 342 = .ok (.iconst 0, 1) := by decide +kernel
theorem dL_side_343 : decode cL_side 343 = .ok (.istore 8, 2) := by decide +kernel
theorem dL_side_345 : decode cL_side 345 = .ok (.iload 8, 2) := by decide +kernel
theorem dL_side_347 : decode cL_side 347 = .ok (.aload_n 0, 1) := by decide +kernel
theorem dL_side_348 : decode cL_side 348 = .ok (.iconst 0, 1) := by decide +kernel
theorem dL_side_349 : decode cL_side 349 = .ok (.invokevirtual 21, 3) := by decide +kernel
theorem dL_side_352 : decode cL_side 352 = .ok (.if_icmp .ge 95, 3) := by decide +kernel
theorem dL_side_355 : decode cL_side 355 = .ok (.aload_n 0, 1) := by decide +kernel
theorem dL_side_356 : decode cL_side 356 = .ok (.iload 8, 2) := by decide +kernel
theorem dL_side_358 : decode cL_side 358 = .ok (.invokevirtual 28, 3) := by decide +kernel
theorem dL_side_361 : decode cL_side 361 = .ok (.ifCond .ne 25, 3) := by decide +kernel
theorem dL_side_364 : decode cL_side 364 = .ok (.aload_n 0, 1) := by decide +kernel
theorem dL_side_365 : decode cL_side 365 = .ok (.bipush 6, 2) := by decide +kernel
theorem dL_side_367 : decode cL_side 367 = .ok (.aload_n 0, 1) := by decide +kernel
theorem dL_side_368 : decode cL_side 368 = .ok (.iload 8, 2) := by decide +kernel
theorem dL_side_370 : decode cL_side 370 = .ok (.iconst 0, 1) := by decide +kernel
theorem dL_side_371 : decode cL_side 371 = .ok (.invokevirtual 24, 3) := by decide +kernel
theorem dL_side_374 : decode cL_side 374 = .ok (.iadd, 1) := by decide +kernel
theorem dL_side_375 : decode cL_side 375 = .ok (.invokevirtual 17, 3) := by decide +kernel
theorem dL_side_378 : decode cL_side 378 = .ok (.iload_n 1, 1) := by decide +kernel
theorem dL_side_379 : decode cL_side 379 = .ok (.if_icmp .ne 7, 3) := by decide +kernel
theorem dL_side_382 : decode cL_side 382 = .ok (.iconst 1, 1) := by decide +kernel
theorem dL_side_383 : decode cL_side 383 = .ok (.goto 4, 3) := by decide +kernel
theorem dL_side_386 : decode cL_side 386 = .ok (.iconst 0, 1) := by decide +kernel
theorem dL_side_387 : decode cL_side 387 = .ok (.istore 9, 2) := by decide +kernel
theorem dL_side_389 : decode cL_side 389 = .ok (.aload_n 0, 1) := by decide +kernel
theorem dL_side_390 : decode cL_side 390 = .ok (.iload 8, 2) := by decide +kernel
theorem dL_side_392 : decode cL_side 392 = .ok (.iconst 4, 1) := by decide +kernel
theorem dL_side_393 : decode cL_side 393 = .ok (.invokevirtual 24, 3) := by decide +kernel
theorem dL_side_396 : decode cL_side 396 = .ok (.invokestatic 31, 3) := by decide +kernel
theorem dL_side_399 : decode cL_side 399 = .ok (.istore 10, 2) := by decide +kernel
theorem dL_side_401 : decode cL_side 401 = .ok (.aload 6, 2) := by decide +kernel
theorem dL_side_403 : decode cL_side 403 = .ok (.iload 8, 2) := by decide +kernel
theorem dL_side_405 : decode cL_side 405 = .ok (.iaload, 1) := by decide +kernel
theorem dL_side_406 : decode cL_side 406 = .ok (.iload 9, 2) := by decide +kernel
theorem dL_side_408 : decode cL_side 408 = .ok (.ifCond .eq 27, 3) := by decide +kernel
theorem dL_side_411 : decode cL_side 411 = .ok (.aload_n 0, 1) := by decide +kernel
theorem dL_side_412 : decode cL_side 412 = .ok (.iload 8, 2) := by decide +kernel
theorem dL_side_414 : decode cL_side 414 = .ok (.iconst 1, 1) := by decide +kernel
theorem dL_side_415 : decode cL_side 415 = .ok (.invokevirtual 24, 3) := by decide +kernel
theorem dL_side_418 : decode cL_side 418 = .ok (.iload 10, 2) := by decide +kernel
theorem dL_side_420 : decode cL_side 420 = .ok (.ifCond .ne 7, 3) := by decide +kernel
theorem dL_side_423 : decode cL_side 423 = .ok (.iconst 0, 1) := by decide +kernel
theorem dL_side_424 : decode cL_side 424 = .ok (.goto 7, 3) := by decide +kernel
theorem dL_side_427 : decode cL_side 427 = .ok (.iload 10, 2) := by decide +kernel
theorem dL_side_429 : decode cL_side 429 = .ok (.iconst 1, 1) := by decide +kernel
theorem dL_side_430 : decode cL_side 430 = .ok (.iadd, 1) := by decide +kernel
theorem dL_side_431 : decode cL_side 431 = .ok (.iadd, 1) := by decide +kernel
theorem dL_side_432 : decode cL_side 432 = .ok (.goto 4, 3) := by decide +kernel
theorem dL_side_435 : decode cL_side 435 = .ok (.iconst 0, 1) := by decide +kernel
theorem dL_side_436 : decode cL_side 436 = .ok (.if_icmp .eq 5, 3) := by decide +kernel
theorem dL_side_439 : decode cL_side 439 = .ok (.iconst 0, 1) := by decide +kernel
theorem dL_side_440 : decode cL_side 440 = .ok (.ireturn, 1) := by decide +kernel
theorem dL_side_441 : decode cL_side 441 = .ok (.iinc 8 1, 3) := by decide +kernel
theorem dL_side_444 : decode cL_side 444 = .ok (.goto (-99), 3) := by decide +kernel
theorem dL_side_447 : decode cL_side 447 = .ok (.iload_n 2, 1) := by decide +kernel
theorem dL_side_448 : decode cL_side 448 = .ok (.aload_n 0, 1) := by decide +kernel
theorem dL_side_449 : decode cL_side 449 = .ok (.iconst 2, 1) := by decide +kernel
theorem dL_side_450 : decode cL_side 450 = .ok (.iload_n 1, 1) := by decide +kernel
theorem dL_side_451 : decode cL_side 451 = .ok (.iadd, 1) := by decide +kernel
theorem dL_side_452 : decode cL_side 452 = .ok (.invokevirtual 21, 3) := by decide +kernel
theorem dL_side_455 : decode cL_side 455 = .ok (.if_icmp .ne 75, 3) := by decide +kernel
theorem dL_side_458 : decode cL_side 458 = .ok (.iload_n 3, 1) := by decide +kernel
theorem dL_side_459 : decode cL_side 459 = .ok (.aload_n 0, 1) := by decide +kernel
theorem dL_side_460 : decode cL_side 460 = .ok (.iconst 4, 1) := by decide +kernel
theorem dL_side_461 : decode cL_side 461 = .ok (.iload_n 1, 1) := by decide +kernel
theorem dL_side_462 : decode cL_side 462 = .ok (.iadd, 1) := by decide +kernel
theorem dL_side_463 : decode cL_side 463 = .ok (.invokevirtual 21, 3) := by decide +kernel
theorem dL_side_466 : decode cL_side 466 = .ok (.if_icmp .ne 64, 3) := by decide +kernel
theorem dL_side_469 : decode cL_side 469 = .ok (.aload 5, 2) := by decide +kernel
theorem dL_side_471 : decode cL_side 471 = .ok (.iconst 1, 1) := by decide +kernel
theorem dL_side_472 : decode cL_side 472 = .ok (.iaload, 1) := by decide +kernel
theorem dL_side_473 : decode cL_side 473 = .ok (.aload_n 0, 1) := by decide +kernel
theorem dL_side_474 : decode cL_side 474 = .ok (.iload_n 1, 1) := by decide +kernel
theorem dL_side_475 : decode cL_side 475 = .ok (.iconst 0, 1) := by decide +kernel
theorem dL_side_476 : decode cL_side 476 = .ok (.invokevirtual 34, 3) := by decide +kernel
theorem dL_side_479 : decode cL_side 479 = .ok (.if_icmp .ne 51, 3) := by decide +kernel
theorem dL_side_482 : decode cL_side 482 = .ok (.aload 5, 2) := by decide +kernel
theorem dL_side_484 : decode cL_side 484 = .ok (.iconst 2, 1) := by decide +kernel
theorem dL_side_485 : decode cL_side 485 = .ok (.iaload, 1) := by decide +kernel
theorem dL_side_486 : decode cL_side 486 = .ok (.aload_n 0, 1) := by decide +kernel
theorem dL_side_487 : decode cL_side 487 = .ok (.iload_n 1, 1) := by decide +kernel
theorem dL_side_488 : decode cL_side 488 = .ok (.iconst 1, 1) := by decide +kernel
theorem dL_side_489 : decode cL_side 489 = .ok (.invokevirtual 34, 3) := by decide +kernel
theorem dL_side_492 : decode cL_side 492 = .ok (.if_icmp .ne 38, 3) := by decide +kernel
theorem dL_side_495 : decode cL_side 495 = .ok (.iload 4, 2) := by decide +kernel
theorem dL_side_497 : decode cL_side 497 = .ok (.aload_n 0, 1) := by decide +kernel
theorem dL_side_498 : decode cL_side 498 = .ok (.iload_n 1, 1) := by decide +kernel
theorem dL_side_499 : decode cL_side 499 = .ok (.iconst 2, 1) := by decide +kernel
theorem dL_side_500 : decode cL_side 500 = .ok (.invokevirtual 34, 3) := by decide +kernel
theorem dL_side_503 : decode cL_side 503 = .ok (.aload_n 0, 1) := by decide +kernel
theorem dL_side_504 : decode cL_side 504 = .ok (.iload_n 1, 1) := by decide +kernel
theorem dL_side_505 : decode cL_side 505 = .ok (.iconst 4, 1) := by decide +kernel
theorem dL_side_506 : decode cL_side 506 = .ok (.invokevirtual 34, 3) := by decide +kernel
theorem dL_side_509 : decode cL_side 509 = .ok (.iadd, 1) := by decide +kernel
theorem dL_side_510 : decode cL_side 510 = .ok (.if_icmp .ne 20, 3) := by decide +kernel
theorem dL_side_513 : decode cL_side 513 = .ok (.aload 5, 2) := by decide +kernel
theorem dL_side_515 : decode cL_side 515 = .ok (.iconst 3, 1) := by decide +kernel
theorem dL_side_516 : decode cL_side 516 = .ok (.iaload, 1) := by decide +kernel
theorem dL_side_517 : decode cL_side 517 = .ok (.aload_n 0, 1) := by decide +kernel
