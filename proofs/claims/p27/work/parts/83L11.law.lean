set_option maxRecDepth 20000 in
theorem ggL_chooses_X8_undo : GoodIn wsL_chooses wsX8_undo := goodIn_r _ [358, 137, 12, 359, 360, 361, 141, 362, 143, 144, 149, 150, 151, 152, 153, 154, 155, 156, 157, 158, 159, 50, 160, 62, 161, 162, 163, 164, 52, 57, 165, 363, 364, 365, 366, 367, 368, 369, 370, 371, 384, 385, 372, 373, 374, 380, 381, 382, 383] (by decide +kernel) (by decide +kernel)
set_option maxRecDepth 20000 in
theorem gL_chooses_X8_undo : GoodIn wsL_chooses (wsV RL 88 RX8 yX8_undo wsX8_undo) := goodIn_app (goodIn_of _ (by decide +kernel)) ggL_chooses_X8_undo
theorem dL_chooses_0 : decode cL_chooses 0 = .ok (.iload_n 1, 1) := by decide +kernel
theorem dL_chooses_1 : decode cL_chooses 1 = .ok (.iconst 2, 1) := by decide +kernel
theorem dL_chooses_2 : decode cL_chooses 2 = .ok (.invokestatic 85, 3) := by decide +kernel
theorem dL_chooses_5 : decode cL_chooses 5 = .ok (.istore_n 2, 1) := by decide +kernel
theorem dL_chooses_6 : decode cL_chooses 6 = .ok (.iload_n 1, 1) := by decide +kernel
theorem dL_chooses_7 : decode cL_chooses 7 = .ok (.iconst 2, 1) := by decide +kernel
theorem dL_chooses_8 : decode cL_chooses 8 = .ok (.ishr, 1) := by decide +kernel
theorem dL_chooses_9 : decode cL_chooses 9 = .ok (.bipush 30, 2) := by decide +kernel
theorem dL_chooses_11 : decode cL_chooses 11 = .ok (.invokestatic 85, 3) := by decide +kernel
theorem dL_chooses_14 : decode cL_chooses 14 = .ok (.istore_n 3, 1) := by decide +kernel
theorem dL_chooses_15 : decode cL_chooses 15 = .ok (.iconst 1, 1) := by decide +kernel
theorem dL_chooses_16 : decode cL_chooses 16 = .ok (.iload_n 1, 1) := by decide +kernel
theorem dL_chooses_17 : decode cL_chooses 17 = .ok (.bipush 6, 2) := by decide +kernel
theorem dL_chooses_19 : decode cL_chooses 19 = .ok (.ishr, 1) := by decide +kernel
theorem dL_chooses_20 : decode cL_chooses 20 = .ok (.iconst 4, 1) := by decide +kernel
theorem dL_chooses_21 : decode cL_chooses 21 = .ok (.invokestatic 85, 3) := by decide +kernel
theorem dL_chooses_24 : decode cL_chooses 24 = .ok (.iadd, 1) := by decide +kernel
theorem dL_chooses_25 : decode cL_chooses 25 = .ok (.istore 4, 2) := by decide +kernel
theorem dL_chooses_27 : decode cL_chooses 27 = .ok (.aload_n 0, 1) := by decide +kernel
theorem dL_chooses_28 : decode cL_chooses 28 = .ok (.iload_n 2, 1) := by decide +kernel
theorem dL_chooses_29 : decode cL_chooses 29 = .ok (.iload_n 3, 1) := by decide +kernel
theorem dL_chooses_30 : decode cL_chooses 30 = .ok (.iload 4, 2) := by decide +kernel
theorem dL_chooses_32 : decode cL_chooses 32 = .ok (.iconst 0, 1) := by decide +kernel
theorem dL_chooses_33 : decode cL_chooses 33 = .ok (.invokevirtual 78, 3) := by decide +kernel
theorem dL_chooses_36 : decode cL_chooses 36 = .ok (.istore 5, 2) := by decide +kernel
theorem dL_chooses_38 : decode cL_chooses 38 = .ok (.aload_n 0, 1) := by decide +kernel
theorem dL_chooses_39 : decode cL_chooses 39 = .ok (.iload_n 2, 1) := by decide +kernel
theorem dL_chooses_40 : decode cL_chooses 40 = .ok (.iload_n 3, 1) := by decide +kernel
theorem dL_chooses_41 : decode cL_chooses 41 = .ok (.iload 4, 2) := by decide +kernel
theorem dL_chooses_43 : decode cL_chooses 43 = .ok (.iconst 2, 1) := by decide +kernel
theorem dL_chooses_44 : decode cL_chooses 44 = .ok (.invokevirtual 78, 3) := by decide +kernel
theorem dL_chooses_47 : decode cL_chooses 47 = .ok (.istore 6, 2) := by decide +kernel
theorem dL_chooses_49 : decode cL_chooses 49 = .ok (.iload 5, 2) := by decide +kernel
theorem dL_chooses_51 : decode cL_chooses 51 = .ok (.bipush (-99), 2) := by decide +kernel
theorem dL_chooses_53 : decode cL_chooses 53 = .ok (.if_icmp .eq 10, 3) := by decide +kernel
theorem dL_chooses_56 : decode cL_chooses 56 = .ok (.iload 6, 2) := by decide +kernel
theorem dL_chooses_58 : decode cL_chooses 58 = .ok (.bipush (-99), 2) := by decide +kernel
theorem dL_chooses_60 : decode cL_chooses 60 = .ok (.if_icmp .ne 29, 3) := by decide +kernel
theorem dL_chooses_63 : decode cL_chooses 63 = .ok (.iload 5, 2) := by decide +kernel
theorem dL_chooses_65 : decode cL_chooses 65 = .ok (.iload 6, 2) := by decide +kernel
theorem dL_chooses_67 : decode cL_chooses 67 = .ok (.if_icmp .ne 20, 3) := by decide +kernel
theorem dL_chooses_70 : decode cL_chooses 70 = .ok (.aload_n 0, 1) := by decide +kernel
theorem dL_chooses_71 : decode cL_chooses 71 = .ok (.iload_n 2, 1) := by decide +kernel
theorem dL_chooses_72 : decode cL_chooses 72 = .ok (.iload_n 3, 1) := by decide +kernel
theorem dL_chooses_73 : decode cL_chooses 73 = .ok (.iload 4, 2) := by decide +kernel
theorem dL_chooses_75 : decode cL_chooses 75 = .ok (.invokevirtual 63, 3) := by decide +kernel
theorem dL_chooses_78 : decode cL_chooses 78 = .ok (.bipush (-2), 2) := by decide +kernel
theorem dL_chooses_80 : decode cL_chooses 80 = .ok (.if_icmp .ne 7, 3) := by decide +kernel
theorem dL_chooses_83 : decode cL_chooses 83 = .ok (.iconst 1, 1) := by decide +kernel
theorem dL_chooses_84 : decode cL_chooses 84 = .ok (.goto 4, 3) := by decide +kernel
theorem dL_chooses_87 : decode cL_chooses 87 = .ok (.iconst 0, 1) := by decide +kernel
theorem dL_chooses_88 : decode cL_chooses 88 = .ok (.ireturn, 1) := by decide +kernel
theorem dL_chooses_89 : decode cL_chooses 89 = .ok (.iconst 0, 1) := by decide +kernel
theorem dL_chooses_90 : decode cL_chooses 90 = .ok (.istore 7, 2) := by decide +kernel
theorem dL_chooses_92 : decode cL_chooses 92 = .ok (.iconst 0, 1) := by decide +kernel
theorem dL_chooses_93 : decode cL_chooses 93 = .ok (.istore 8, 2) := by decide +kernel
theorem dL_chooses_95 : decode cL_chooses 95 = .ok (.iload 8, 2) := by decide +kernel
theorem dL_chooses_97 : decode cL_chooses 97 = .ok (.aload_n 0, 1) := by decide +kernel
theorem dL_chooses_98 : decode cL_chooses 98 = .ok (.iconst 0, 1) := by decide +kernel
theorem dL_chooses_99 : decode cL_chooses 99 = .ok (.invokevirtual 21, 3) := by decide +kernel
theorem dL_chooses_102 : decode cL_chooses 102 = .ok (.if_icmp .ge 73, 3) := by decide +kernel
theorem dL_chooses_105 : decode cL_chooses 105 = .ok (.iload 6, 2) := by decide +kernel
theorem dL_chooses_107 : decode cL_chooses 107 = .ok (.iload 8, 2) := by decide +kernel
theorem dL_chooses_109 : decode cL_chooses 109 = .ok (.ishr, 1) := by decide +kernel
theorem dL_chooses_110 : decode cL_chooses 110 = .ok (.iconst 1, 1) := by decide +kernel
theorem dL_chooses_111 : decode cL_chooses 111 = .ok (.iand, 1) := by decide +kernel
theorem dL_chooses_112 : decode cL_chooses 112 = .ok (.iconst 1, 1) := by decide +kernel
theorem dL_chooses_113 : decode cL_chooses 113 = .ok (.if_icmp .ne 7, 3) := by decide +kernel
theorem dL_chooses_116 : decode cL_chooses 116 = .ok (.iconst 1, 1) := by decide +kernel
theorem dL_chooses_117 : decode cL_chooses 117 = .ok (.goto 4, 3) := by decide +kernel
theorem dL_chooses_120 : decode cL_chooses 120 = .ok (.iconst 0, 1) := by decide +kernel
theorem dL_chooses_121 : decode cL_chooses 121 = .ok (.istore 9, 2) := by decide +kernel
theorem dL_chooses_123 : decode cL_chooses 123 = .ok (.iload 7, 2) := by decide +kernel
theorem dL_chooses_125 : decode cL_chooses 125 = .ok (.iload 9, 2) := by decide +kernel
theorem dL_chooses_127 : decode cL_chooses 127 = .ok (.ifCond .eq 13, 3) := by decide +kernel
theorem dL_chooses_130 : decode cL_chooses 130 = .ok (.aload_n 0, 1) := by decide +kernel
theorem dL_chooses_131 : decode cL_chooses 131 = .ok (.iload 8, 2) := by decide +kernel
theorem dL_chooses_133 : decode cL_chooses 133 = .ok (.iconst 2, 1) := by decide +kernel
theorem dL_chooses_134 : decode cL_chooses 134 = .ok (.invokevirtual 24, 3) := by decide +kernel
theorem dL_chooses_137 : decode cL_chooses 137 = .ok (.goto 4, 3) := by decide +kernel
theorem dL_chooses_140 : decode cL_chooses 140 = .ok (.iconst 0, 1) := by decide +kernel
theorem dL_chooses_141 : decode cL_chooses 141 = .ok (.iadd, 1) := by decide +kernel
theorem dL_chooses_142 : decode cL_chooses 142 = .ok (.istore 7, 2) := by decide +kernel
theorem dL_chooses_144 : decode cL_chooses 144 = .ok (.iload 9, 2) := by decide +kernel
theorem dL_chooses_146 : decode cL_chooses 146 = .ok (.ifCond .eq 23, 3) := by decide +kernel
theorem dL_chooses_149 : decode cL_chooses 149 = .ok (.aload_n 0, 1) := by decide +kernel
theorem dL_chooses_150 : decode cL_chooses 150 = .ok (.bipush 6, 2) := by decide +kernel
theorem dL_chooses_152 : decode cL_chooses 152 = .ok (.aload_n 0, 1) := by decide +kernel
theorem dL_chooses_153 : decode cL_chooses 153 = .ok (.iload 8, 2) := by decide +kernel
theorem dL_chooses_155 : decode cL_chooses 155 = .ok (.iconst 0, 1) := by decide +kernel
theorem dL_chooses_156 : decode cL_chooses 156 = .ok (.invokevirtual 24, 3) := by decide +kernel
theorem dL_chooses_159 : decode cL_chooses 159 = .ok (.iadd, 1) := by decide +kernel
theorem dL_chooses_160 : decode cL_chooses 160 = .ok (.invokevirtual 17, 3) := by decide +kernel
theorem dL_chooses_163 : decode cL_chooses 163 = .ok (.iload_n 2, 1) := by decide +kernel
theorem dL_chooses_164 : decode cL_chooses 164 = .ok (.if_icmp .eq 5, 3) := by decide +kernel
theorem dL_chooses_167 : decode cL_chooses 167 = .ok (.iconst 0, 1) := by decide +kernel
theorem dL_chooses_168 : decode cL_chooses 168 = .ok (.ireturn, 1) := by decide +kernel
theorem dL_chooses_169 : decode cL_chooses 169 = .ok (.iinc 8 1, 3) := by decide +kernel
theorem dL_chooses_172 : decode cL_chooses 172 = .ok (.goto (-77), 3) := by decide +kernel
theorem dL_chooses_175 : decode cL_chooses 175 = .ok (.iload 7, 2) := by decide +kernel
theorem dL_chooses_177 : decode cL_chooses 177 = .ok (.iload 5, 2) := by decide +kernel
theorem dL_chooses_179 : decode cL_chooses 179 = .ok (.if_icmp .ne 30, 3) := by decide +kernel
theorem dL_chooses_182 : decode cL_chooses 182 = .ok (.aload_n 0, 1) := by decide +kernel
theorem dL_chooses_183 : decode cL_chooses 183 = .ok (.iload_n 2, 1) := by decide +kernel
theorem dL_chooses_184 : decode cL_chooses 184 = .ok (.iload_n 3, 1) := by decide +kernel
theorem dL_chooses_185 : decode cL_chooses 185 = .ok (.iload 4, 2) := by decide +kernel
theorem dL_chooses_187 : decode cL_chooses 187 = .ok (.iconst 1, 1) := by decide +kernel
theorem dL_chooses_188 : decode cL_chooses 188 = .ok (.invokevirtual 78, 3) := by decide +kernel
theorem dL_chooses_191 : decode cL_chooses 191 = .ok (.iload 5, 2) := by decide +kernel
theorem dL_chooses_193 : decode cL_chooses 193 = .ok (.if_icmp .ne 16, 3) := by decide +kernel
theorem dL_chooses_196 : decode cL_chooses 196 = .ok (.aload_n 0, 1) := by decide +kernel
theorem dL_chooses_197 : decode cL_chooses 197 = .ok (.iload_n 2, 1) := by decide +kernel
theorem dL_chooses_198 : decode cL_chooses 198 = .ok (.iload_n 3, 1) := by decide +kernel
theorem dL_chooses_199 : decode cL_chooses 199 = .ok (.iload 4, 2) := by decide +kernel
theorem dL_chooses_201 : decode cL_chooses 201 = .ok (.invokevirtual 63, 3) := by decide +kernel
theorem dL_chooses_204 : decode cL_chooses 204 = .ok (.iload 5, 2) := by decide +kernel
theorem dL_chooses_206 : decode cL_chooses 206 = .ok (.if_icmp .eq 5, 3) := by decide +kernel
theorem dL_chooses_209 : decode cL_chooses 209 = .ok (.iconst 0, 1) := by decide +kernel
theorem dL_chooses_210 : decode cL_chooses 210 = .ok (.ireturn, 1) := by decide +kernel
theorem dL_chooses_211 : decode cL_chooses 211 = .ok (.iconst 0, 1) := by decide +kernel
theorem dL_chooses_212 : decode cL_chooses 212 = .ok (.istore 8, 2) := by decide +kernel
theorem dL_chooses_214 : decode cL_chooses 214 = .ok (.iload 8, 2) := by decide +kernel
theorem dL_chooses_216 : decode cL_chooses 216 = .ok (.aload_n 0, 1) := by decide +kernel
theorem dL_chooses_217 : decode cL_chooses 217 = .ok (.iconst 0, 1) := by decide +kernel
theorem dL_chooses_218 : decode cL_chooses 218 = .ok (.invokevirtual 21, 3) := by decide +kernel
theorem dL_chooses_221 : decode cL_chooses 221 = .ok (.if_icmp .ge 59, 3) := by decide +kernel
theorem dL_chooses_224 : decode cL_chooses 224 = .ok (.iload 6, 2) := by decide +kernel
theorem dL_chooses_226 : decode cL_chooses 226 = .ok (.iload 8, 2) := by decide +kernel
theorem dL_chooses_228 : decode cL_chooses 228 = .ok (.ishr, 1) := by decide +kernel
theorem dL_chooses_229 : decode cL_chooses 229 = .ok (.iconst 1, 1) := by decide +kernel
theorem dL_chooses_230 : decode cL_chooses 230 = .ok (.iand, 1) := by decide +kernel
theorem dL_chooses_231 : decode cL_chooses 231 = .ok (.iconst 1, 1) := by decide +kernel
theorem dL_chooses_232 : decode cL_chooses 232 = .ok (.if_icmp .ne 7, 3) := by decide +kernel
theorem dL_chooses_235 : decode cL_chooses 235 = .ok (.iconst 1, 1) := by decide +kernel
theorem dL_chooses_236 : decode cL_chooses 236 = .ok (.goto 4, 3) := by decide +kernel
theorem dL_chooses_239 : decode cL_chooses 239 = .ok (.iconst 0, 1) := by decide +kernel
theorem dL_chooses_240 : decode cL_chooses 240 = .ok (.istore 9, 2) := by decide +kernel
theorem dL_chooses_242 : decode cL_chooses 242 = .ok (.iload 9, 2) := by decide +kernel
theorem dL_chooses_244 : decode cL_chooses 244 = .ok (.ifCond .eq 30, 3) := by decide +kernel
theorem dL_chooses_247 : decode cL_chooses 247 = .ok (.aload_n 0, 1) := by decide +kernel
theorem dL_chooses_248 : decode cL_chooses 248 = .ok (.iload 8, 2) := by decide +kernel
theorem dL_chooses_250 : decode cL_chooses 250 = .ok (.invokevirtual 28, 3) := by decide +kernel
theorem dL_chooses_253 : decode cL_chooses 253 = .ok (.ifCond .eq 21, 3) := by decide +kernel
theorem dL_chooses_256 : decode cL_chooses 256 = .ok (.iload 4, 2) := by decide +kernel
theorem dL_chooses_258 : decode cL_chooses 258 = .ok (.iconst 4, 1) := by decide +kernel
theorem dL_chooses_259 : decode cL_chooses 259 = .ok (.if_icmp .eq 13, 3) := by decide +kernel
theorem dL_chooses_262 : decode cL_chooses 262 = .ok (.aload_n 0, 1) := by decide +kernel
theorem dL_chooses_263 : decode cL_chooses 263 = .ok (.iload 8, 2) := by decide +kernel
theorem dL_chooses_265 : decode cL_chooses 265 = .ok (.invokevirtual 28, 3) := by decide +kernel
theorem dL_chooses_268 : decode cL_chooses 268 = .ok (.iconst 4, 1) := by decide +kernel
theorem dL_chooses_269 : decode cL_chooses 269 = .ok (.if_icmp .eq 5, 3) := by decide +kernel
theorem dL_chooses_272 : decode cL_chooses 272 = .ok (.iconst 0, 1) := by decide +kernel
theorem dL_chooses_273 : decode cL_chooses 273 = .ok (.ireturn, 1) := by decide +kernel
theorem dL_chooses_274 : decode cL_chooses 274 = .ok (.iinc 8 1, 3) := by decide +kernel
theorem dL_chooses_277 : decode cL_chooses 277 = .ok (.goto (-63), 3) := by decide +kernel
theorem dL_chooses_280 : decode cL_chooses 280 = .ok (.aload_n 0, 1) := by decide +kernel
theorem dL_chooses_281 : decode cL_chooses 281 = .ok (.iload_n 2, 1) := by decide +kernel
theorem dL_chooses_282 : decode cL_chooses 282 = .ok (.iload_n 3, 1) := by decide +kernel
theorem dL_chooses_283 : decode cL_chooses 283 = .ok (.iload 4, 2) := by decide +kernel
theorem dL_chooses_285 : decode cL_chooses 285 = .ok (.iconst 2, 1) := by decide +kernel
theorem dL_chooses_286 : decode cL_chooses 286 = .ok (.invokevirtual 78, 3) := by decide +kernel
theorem dL_chooses_289 : decode cL_chooses 289 = .ok (.iload 6, 2) := by decide +kernel
theorem dL_chooses_291 : decode cL_chooses 291 = .ok (.if_icmp .ne 25, 3) := by decide +kernel
theorem dL_chooses_294 : decode cL_chooses 294 = .ok (.iload_n 1, 1) := by decide +kernel
theorem dL_chooses_295 : decode cL_chooses 295 = .ok (.bipush 9, 2) := by decide +kernel
theorem dL_chooses_297 : decode cL_chooses 297 = .ok (.ishr, 1) := by decide +kernel
theorem dL_chooses_298 : decode cL_chooses 298 = .ok (.iconst 2, 1) := by decide +kernel
theorem dL_chooses_299 : decode cL_chooses 299 = .ok (.invokestatic 85, 3) := by decide +kernel
theorem dL_chooses_302 : decode cL_chooses 302 = .ok (.ifCond .eq 10, 3) := by decide +kernel
theorem dL_chooses_305 : decode cL_chooses 305 = .ok (.aload_n 0, 1) := by decide +kernel
theorem dL_chooses_306 : decode cL_chooses 306 = .ok (.invokevirtual 88, 3) := by decide +kernel
theorem dL_chooses_309 : decode cL_chooses 309 = .ok (.ifCond .lt 7, 3) := by decide +kernel
theorem dL_chooses_312 : decode cL_chooses 312 = .ok (.iconst 1, 1) := by decide +kernel
theorem dL_chooses_313 : decode cL_chooses 313 = .ok (.goto 4, 3) := by decide +kernel
theorem dL_chooses_316 : decode cL_chooses 316 = .ok (.iconst 0, 1) := by decide +kernel
theorem dL_chooses_317 : decode cL_chooses 317 = .ok (.ireturn, 1) := by decide +kernel
set_option maxRecDepth 20000 in
theorem ggL_acts_L_low : GoodIn wsL_acts wsL_low := goodIn_r _ [4, 5] (by decide +kernel) (by decide +kernel)
set_option maxRecDepth 20000 in
theorem gL_acts_L_low : GoodIn wsL_acts (va_wsS RL 85 yL_low wsL_low) := goodIn_app (goodIn_of _ (by decide +kernel)) ggL_acts_L_low
set_option maxRecDepth 20000 in
theorem ggL_acts_X8_count : GoodIn wsL_acts wsX8_count := goodIn_r _ [10, 11, 12, 13, 14, 15, 16, 17, 18, 9, 19, 20, 21, 22, 23, 24, 25, 26, 27, 28, 29, 30, 31, 32, 33, 34, 35, 36, 37, 38, 39, 40, 41, 42, 43, 44, 45, 46, 47, 48, 49, 50, 51, 52, 53, 54, 55, 56, 57, 58, 59, 60, 61, 62, 63, 64, 65, 66, 67, 68, 69, 70, 71, 72, 73, 74, 75, 76, 77, 78, 79, 80, 81, 82, 83, 84, 85, 86, 87, 88, 89, 90, 91, 92, 93, 94, 95, 96, 97, 98, 99, 100, 101, 102, 103, 104, 105, 106, 107, 108, 109, 110, 111, 112, 113, 114, 115, 116, 117, 118, 119, 120, 121, 122, 123, 124, 125, 126, 127, 128, 129, 130, 131, 132, 133, 134, 135, 136, 137, 138, 139, 140, 141, 142, 143, 144, 145, 146, 147, 148, 149, 150, 151, 152, 153, 154, 155, 156, 157, 158, 159, 160, 161, 381, 382, 383, 384, 385, 386, 387, 388, 389, 390, 391, 392, 393, 394, 395, 396, 397, 398, 399, 400, 401, 402, 403, 404, 405, 406, 407, 408, 409, 410, 411, 412, 413, 414, 415, 416] (by decide +kernel) (by decide +kernel)
set_option maxRecDepth 20000 in
theorem gL_acts_X8_count : GoodIn wsL_acts (wsV RL 21 RX8 yX8_count wsX8_count) := goodIn_app (goodIn_of _ (by decide +kernel)) ggL_acts_X8_count
