set_option maxRecDepth 20000 in
theorem ggL_acts_X8_setCard : GoodIn wsL_acts wsX8_setCard := wsL_acts_good (goodIn_r _ [302, 14, 11, 303, 304, 9, 305, 306, 307, 150, 151, 152, 180, 181, 182, 183, 184, 185, 186, 187, 188, 189, 190, 191, 192, 193, 194, 195, 196, 197, 198, 199, 200, 201, 23, 202, 56, 203, 204, 205, 206, 25, 51, 207, 20, 21, 22, 24, 308, 309, 310, 311, 381, 382, 383, 384, 385, 386, 387, 388, 389, 390, 391, 392, 406, 407, 413, 414, 415, 416] (by decide +kernel) (by decide +kernel))
set_option maxRecDepth 20000 in
theorem gL_acts_X8_setCard : GoodIn wsL_acts (wsV RL 57 RX8 yX8_setCard wsX8_setCard) := goodIn_app (goodIn_of _ (by decide +kernel)) ggL_acts_X8_setCard
set_option maxRecDepth 20000 in
theorem ggL_acts_X8_setSide : GoodIn wsL_acts wsX8_setSide := wsL_acts_good (goodIn_r _ [315, 14, 11, 150, 151, 9, 152, 316, 148, 149, 180, 181, 182, 183, 184, 185, 186, 187, 188, 189, 190, 191, 192, 193, 194, 195, 196, 197, 198, 199, 200, 201, 23, 202, 56, 203, 204, 205, 206, 25, 51, 207, 166, 118, 119, 317, 318, 319, 320, 381, 382, 383, 384, 385, 386, 387, 388, 389, 390, 391, 392, 413, 414, 415, 416, 406, 407] (by decide +kernel) (by decide +kernel))
set_option maxRecDepth 20000 in
theorem gL_acts_X8_setSide : GoodIn wsL_acts (wsV RL 60 RX8 yX8_setSide wsX8_setSide) := goodIn_app (goodIn_of _ (by decide +kernel)) ggL_acts_X8_setSide
set_option maxRecDepth 20000 in
theorem ggL_acts_X8_take : GoodIn wsL_acts wsX8_take := wsL_acts_good (goodIn_r _ [324, 14, 11, 12, 325, 326, 9, 327, 150, 151, 152, 180, 181, 182, 183, 184, 185, 186, 187, 188, 189, 190, 191, 192, 193, 194, 195, 196, 197, 198, 199, 200, 201, 23, 202, 56, 203, 204, 205, 206, 25, 51, 207, 328, 329, 330, 331, 332, 333, 334, 335, 20, 21, 22, 24, 26, 27, 28, 29, 30, 31, 32, 33, 34, 35, 36, 37, 38, 39, 40, 41, 42, 43, 44, 45, 46, 47, 48, 49, 50, 52, 53, 54, 55, 57, 58, 59, 60, 61, 62, 63, 64, 65, 66, 67, 68, 69, 70, 71, 72, 73, 74, 75, 76, 77, 78, 79, 80, 81, 82, 83, 84, 85, 86, 87, 88, 89, 90, 91, 92, 93, 94, 95, 96, 97, 98, 99, 100, 381, 382, 383, 384, 385, 386, 387, 388, 389, 390, 391, 392, 393, 394, 395, 396, 397, 398, 399, 400, 406, 407, 413, 414, 415, 416] (by decide +kernel) (by decide +kernel))
set_option maxRecDepth 20000 in
theorem gL_acts_X8_take : GoodIn wsL_acts (wsV RL 66 RX8 yX8_take wsX8_take) := goodIn_app (goodIn_of _ (by decide +kernel)) ggL_acts_X8_take
set_option maxRecDepth 20000 in
theorem ggL_acts_X8_restore : GoodIn wsL_acts wsX8_restore := wsL_acts_good (goodIn_r _ [339, 11, 14, 12, 325, 326, 9, 327, 150, 151, 152, 340, 341, 342, 194, 343, 198, 70, 71, 180, 181, 182, 183, 184, 185, 186, 187, 188, 189, 190, 191, 192, 193, 195, 196, 197, 199, 200, 201, 23, 202, 56, 203, 204, 205, 206, 25, 51, 207, 344, 345, 346, 347, 348, 332, 333, 334, 335, 20, 21, 22, 24, 26, 27, 28, 29, 30, 31, 32, 33, 34, 35, 36, 37, 38, 39, 40, 41, 42, 43, 44, 45, 46, 47, 48, 49, 50, 52, 53, 54, 55, 57, 58, 59, 60, 61, 62, 63, 64, 65, 66, 67, 68, 69, 72, 73, 74, 75, 76, 77, 78, 79, 80, 81, 82, 83, 84, 85, 86, 87, 88, 89, 90, 91, 92, 93, 94, 95, 96, 97, 98, 99, 100, 381, 382, 383, 384, 385, 386, 387, 388, 389, 390, 391, 392, 393, 394, 395, 396, 397, 398, 399, 400, 406, 407, 413, 414, 415, 416] (by decide +kernel) (by decide +kernel))
set_option maxRecDepth 20000 in
theorem gL_acts_X8_restore : GoodIn wsL_acts (wsV RL 69 RX8 yX8_restore wsX8_restore) := goodIn_app (goodIn_of _ (by decide +kernel)) ggL_acts_X8_restore
set_option maxRecDepth 20000 in
theorem ggL_acts_L_arranges : GoodIn wsL_acts wsL_arranges := wsL_acts_good (goodIn_r _ [351, 6, 7, 8, 9, 10, 11, 12, 13, 14, 15, 16, 17, 18, 19, 20, 21, 22, 23, 24, 25, 26, 27, 28, 29, 30, 31, 32, 33, 34, 35, 36, 37, 38, 39, 40, 41, 42, 43, 44, 45, 46, 47, 48, 49, 50, 51, 52, 53, 54, 55, 56, 57, 58, 59, 60, 61, 62, 63, 64, 65, 66, 67, 68, 69, 70, 71, 72, 73, 74, 75, 76, 77, 78, 79, 80, 81, 82, 83, 84, 85, 86, 87, 88, 89, 90, 91, 92, 93, 94, 95, 96, 97, 98, 99, 100, 101, 102, 103, 104, 105, 106, 107, 108, 109, 110, 111, 112, 113, 114, 115, 116, 117, 118, 119, 120, 121, 122, 123, 124, 125, 126, 127, 128, 129, 130, 131, 132, 133, 134, 135, 136, 137, 138, 139, 140, 141, 142, 143, 144, 145, 146, 147, 148, 149, 150, 151, 152, 153, 154, 155, 156, 157, 158, 159, 160, 161, 352, 353, 354, 355, 332, 333, 334, 335, 356, 357, 358, 359, 360, 361, 362, 363, 364, 365, 366, 367, 368, 369, 370, 371, 372, 373, 374, 375, 376, 377, 378, 379, 380, 180, 181, 182, 183, 184, 185, 186, 187, 188, 189, 190, 191, 192, 193, 194, 195, 196, 197, 198, 199, 200, 201, 202, 203, 204, 205, 206, 207, 162, 163, 164, 165, 166, 1, 2, 3, 4, 5, 287, 288, 289, 290, 291, 292, 293, 294, 381, 382, 383, 384, 385, 386, 387, 388, 389, 390, 391, 392, 393, 394, 395, 396, 397, 398, 399, 400, 401, 402, 403, 404, 405, 406, 407, 408, 409, 410, 411, 412, 413, 414, 415, 416] (by decide +kernel) (by decide +kernel))
set_option maxRecDepth 20000 in
theorem gL_acts_L_arranges : GoodIn wsL_acts (va_wsS RL 91 yL_arranges wsL_arranges) := goodIn_app (goodIn_of _ (by decide +kernel)) ggL_acts_L_arranges
theorem dL_acts_0 : decode cL_acts 0 = .ok (.iload_n 1, 1) := by decide +kernel
theorem dL_acts_1 : decode cL_acts 1 = .ok (.bipush 12, 2) := by decide +kernel
theorem dL_acts_3 : decode cL_acts 3 = .ok (.invokestatic 85, 3) := by decide +kernel
theorem dL_acts_6 : decode cL_acts 6 = .ok (.istore_n 3, 1) := by decide +kernel
theorem dL_acts_7 : decode cL_acts 7 = .ok (.aload_n 0, 1) := by decide +kernel
theorem dL_acts_8 : decode cL_acts 8 = .ok (.iconst 0, 1) := by decide +kernel
theorem dL_acts_9 : decode cL_acts 9 = .ok (.invokevirtual 21, 3) := by decide +kernel
theorem dL_acts_12 : decode cL_acts 12 = .ok (.istore 4, 2) := by decide +kernel
theorem dL_acts_14 : decode cL_acts 14 = .ok (.iload 4, 2) := by decide +kernel
theorem dL_acts_16 : decode cL_acts 16 = .ok (.ifCond .ne 7, 3) := by decide +kernel
theorem dL_acts_19 : decode cL_acts 19 = .ok (.iconst 0, 1) := by decide +kernel
theorem dL_acts_20 : decode cL_acts 20 = .ok (.goto 9, 3) := by decide +kernel
theorem dL_acts_23 : decode cL_acts 23 = .ok (.iload_n 2, 1) := by decide +kernel
theorem dL_acts_24 : decode cL_acts 24 = .ok (.iload 4, 2) := by decide +kernel
theorem dL_acts_26 : decode cL_acts 26 = .ok (.invokestatic 85, 3) := by decide +kernel
theorem dL_acts_29 : decode cL_acts 29 = .ok (.istore 5, 2) := by decide +kernel
theorem dL_acts_31 : decode cL_acts 31 = .ok (.iload_n 3, 1) := by decide +kernel
theorem dL_acts_32 : decode cL_acts 32 = .ok (.iconst 5, 1) := by decide +kernel
theorem dL_acts_33 : decode cL_acts 33 = .ok (.if_icmp .lt 8, 3) := by decide +kernel
theorem dL_acts_36 : decode cL_acts 36 = .ok (.iload 4, 2) := by decide +kernel
theorem dL_acts_38 : decode cL_acts 38 = .ok (.ifCond .ne 149, 3) := by decide +kernel
theorem dL_acts_41 : decode cL_acts 41 = .ok (.aload_n 0, 1) := by decide +kernel
theorem dL_acts_42 : decode cL_acts 42 = .ok (.iload_n 2, 1) := by decide +kernel
theorem dL_acts_43 : decode cL_acts 43 = .ok (.iconst 4, 1) := by decide +kernel
theorem dL_acts_44 : decode cL_acts 44 = .ok (.invokestatic 85, 3) := by decide +kernel
theorem dL_acts_47 : decode cL_acts 47 = .ok (.iconst 1, 1) := by decide +kernel
theorem dL_acts_48 : decode cL_acts 48 = .ok (.iload_n 2, 1) := by decide +kernel
theorem dL_acts_49 : decode cL_acts 49 = .ok (.iconst 2, 1) := by decide +kernel
theorem dL_acts_50 : decode cL_acts 50 = .ok (.ishr, 1) := by decide +kernel
theorem dL_acts_51 : decode cL_acts 51 = .ok (.bipush 60, 2) := by decide +kernel
theorem dL_acts_53 : decode cL_acts 53 = .ok (.invokestatic 85, 3) := by decide +kernel
theorem dL_acts_56 : decode cL_acts 56 = .ok (.iadd, 1) := by decide +kernel
theorem dL_acts_57 : decode cL_acts 57 = .ok (.iconst 1, 1) := by decide +kernel
theorem dL_acts_58 : decode cL_acts 58 = .ok (.iload_n 2, 1) := by decide +kernel
theorem dL_acts_59 : decode cL_acts 59 = .ok (.iconst 4, 1) := by decide +kernel
theorem dL_acts_60 : decode cL_acts 60 = .ok (.ishr, 1) := by decide +kernel
theorem dL_acts_61 : decode cL_acts 61 = .ok (.iload_n 2, 1) := by decide +kernel
theorem dL_acts_62 : decode cL_acts 62 = .ok (.bipush 20, 2) := by decide +kernel
theorem dL_acts_64 : decode cL_acts 64 = .ok (.ishr, 1) := by decide +kernel
theorem dL_acts_65 : decode cL_acts 65 = .ok (.iconst 2, 1) := by decide +kernel
theorem dL_acts_66 : decode cL_acts 66 = .ok (.invokestatic 85, 3) := by decide +kernel
theorem dL_acts_69 : decode cL_acts 69 = .ok (.ifCond .ne 9, 3) := by decide +kernel
theorem dL_acts_72 : decode cL_acts 72 = .ok (.sipush 9999, 3) := by decide +kernel
theorem dL_acts_75 : decode cL_acts 75 = .ok (.goto 5, 3) := by decide +kernel
theorem dL_acts_78 : decode cL_acts 78 = .ok (.bipush 99, 2) := by decide +kernel
theorem dL_acts_80 : decode cL_acts 80 = .ok (.invokestatic 85, 3) := by decide +kernel
theorem dL_acts_83 : decode cL_acts 83 = .ok (.iadd, 1) := by decide +kernel
theorem dL_acts_84 : decode cL_acts 84 = .ok (.iconst 1, 1) := by decide +kernel
theorem dL_acts_85 : decode cL_acts 85 = .ok (.iload_n 2, 1) := by decide +kernel
theorem dL_acts_86 : decode cL_acts 86 = .ok (.bipush 6, 2) := by decide +kernel
theorem dL_acts_88 : decode cL_acts 88 = .ok (.ishr, 1) := by decide +kernel
theorem dL_acts_89 : decode cL_acts 89 = .ok (.bipush 15, 2) := by decide +kernel
theorem dL_acts_91 : decode cL_acts 91 = .ok (.invokestatic 85, 3) := by decide +kernel
theorem dL_acts_94 : decode cL_acts 94 = .ok (.iadd, 1) := by decide +kernel
theorem dL_acts_95 : decode cL_acts 95 = .ok (.iconst 1, 1) := by decide +kernel
theorem dL_acts_96 : decode cL_acts 96 = .ok (.aload_n 0, 1) := by decide +kernel
theorem dL_acts_97 : decode cL_acts 97 = .ok (.iconst 0, 1) := by decide +kernel
theorem dL_acts_98 : decode cL_acts 98 = .ok (.invokevirtual 17, 3) := by decide +kernel
theorem dL_acts_101 : decode cL_acts 101 = .ok (.ishl, 1) := by decide +kernel
theorem dL_acts_102 : decode cL_acts 102 = .ok (.ior, 1) := by decide +kernel
theorem dL_acts_103 : decode cL_acts 103 = .ok (.iload_n 2, 1) := by decide +kernel
theorem dL_acts_104 : decode cL_acts 104 = .ok (.bipush 21, 2) := by decide +kernel
theorem dL_acts_106 : decode cL_acts 106 = .ok (.ishr, 1) := by decide +kernel
theorem dL_acts_107 : decode cL_acts 107 = .ok (.iconst 2, 1) := by decide +kernel
theorem dL_acts_108 : decode cL_acts 108 = .ok (.invokestatic 85, 3) := by decide +kernel
theorem dL_acts_111 : decode cL_acts 111 = .ok (.ifCond .ne 7, 3) := by decide +kernel
theorem dL_acts_114 : decode cL_acts 114 = .ok (.iconst 0, 1) := by decide +kernel
theorem dL_acts_115 : decode cL_acts 115 = .ok (.goto 13, 3) := by decide +kernel
theorem dL_acts_118 : decode cL_acts 118 = .ok (.iload_n 2, 1) := by decide +kernel
theorem dL_acts_119 : decode cL_acts 119 = .ok (.bipush 8, 2) := by decide +kernel
theorem dL_acts_121 : decode cL_acts 121 = .ok (.ishr, 1) := by decide +kernel
theorem dL_acts_122 : decode cL_acts 122 = .ok (.sipush 256, 3) := by decide +kernel
theorem dL_acts_125 : decode cL_acts 125 = .ok (.invokestatic 85, 3) := by decide +kernel
theorem dL_acts_128 : decode cL_acts 128 = .ok (.iconst 1, 1) := by decide +kernel
theorem dL_acts_129 : decode cL_acts 129 = .ok (.iload_n 2, 1) := by decide +kernel
theorem dL_acts_130 : decode cL_acts 130 = .ok (.bipush 10, 2) := by decide +kernel
theorem dL_acts_132 : decode cL_acts 132 = .ok (.ishr, 1) := by decide +kernel
theorem dL_acts_133 : decode cL_acts 133 = .ok (.iconst 5, 1) := by decide +kernel
theorem dL_acts_134 : decode cL_acts 134 = .ok (.invokestatic 85, 3) := by decide +kernel
theorem dL_acts_137 : decode cL_acts 137 = .ok (.iadd, 1) := by decide +kernel
theorem dL_acts_138 : decode cL_acts 138 = .ok (.invokevirtual 47, 3) := by decide +kernel
theorem dL_acts_141 : decode cL_acts 141 = .ok (.istore 6, 2) := by decide +kernel
theorem dL_acts_143 : decode cL_acts 143 = .ok (.iload 6, 2) := by decide +kernel
theorem dL_acts_145 : decode cL_acts 145 = .ok (.iload 4, 2) := by decide +kernel
theorem dL_acts_147 : decode cL_acts 147 = .ok (.bipush 20, 2) := by decide +kernel
theorem dL_acts_149 : decode cL_acts 149 = .ok (.if_icmp .ne 8, 3) := by decide +kernel
theorem dL_acts_152 : decode cL_acts 152 = .ok (.bipush (-3), 2) := by decide +kernel
theorem dL_acts_154 : decode cL_acts 154 = .ok (.goto 5, 3) := by decide +kernel
theorem dL_acts_157 : decode cL_acts 157 = .ok (.iload 4, 2) := by decide +kernel
theorem dL_acts_159 : decode cL_acts 159 = .ok (.if_icmp .ne 26, 3) := by decide +kernel
theorem dL_acts_162 : decode cL_acts 162 = .ok (.iload 4, 2) := by decide +kernel
theorem dL_acts_164 : decode cL_acts 164 = .ok (.bipush 20, 2) := by decide +kernel
theorem dL_acts_166 : decode cL_acts 166 = .ok (.if_icmp .eq 15, 3) := by decide +kernel
theorem dL_acts_169 : decode cL_acts 169 = .ok (.aload_n 0, 1) := by decide +kernel
theorem dL_acts_170 : decode cL_acts 170 = .ok (.iload 4, 2) := by decide +kernel
theorem dL_acts_172 : decode cL_acts 172 = .ok (.bipush 6, 2) := by decide +kernel
theorem dL_acts_174 : decode cL_acts 174 = .ok (.invokevirtual 24, 3) := by decide +kernel
theorem dL_acts_177 : decode cL_acts 177 = .ok (.iconst 1, 1) := by decide +kernel
theorem dL_acts_178 : decode cL_acts 178 = .ok (.if_icmp .ne 7, 3) := by decide +kernel
theorem dL_acts_181 : decode cL_acts 181 = .ok (.iconst 1, 1) := by decide +kernel
theorem dL_acts_182 : decode cL_acts 182 = .ok (.goto 4, 3) := by decide +kernel
theorem dL_acts_185 : decode cL_acts 185 = .ok (.iconst 0, 1) := by decide +kernel
theorem dL_acts_186 : decode cL_acts 186 = .ok (.ireturn, 1) := by decide +kernel
theorem dL_acts_187 : decode cL_acts 187 = .ok (.iload_n 3, 1) := by decide +kernel
theorem dL_acts_188 : decode cL_acts 188 = .ok (.iconst 5, 1) := by decide +kernel
theorem dL_acts_189 : decode cL_acts 189 = .ok (.if_icmp .ne 61, 3) := by decide +kernel
theorem dL_acts_192 : decode cL_acts 192 = .ok (.aload_n 0, 1) := by decide +kernel
theorem dL_acts_193 : decode cL_acts 193 = .ok (.iload 5, 2) := by decide +kernel
theorem dL_acts_195 : decode cL_acts 195 = .ok (.invokevirtual 51, 3) := by decide +kernel
theorem dL_acts_198 : decode cL_acts 198 = .ok (.iload 4, 2) := by decide +kernel
theorem dL_acts_200 : decode cL_acts 200 = .ok (.iconst 1, 1) := by decide +kernel
theorem dL_acts_201 : decode cL_acts 201 = .ok (.isub, 1) := by decide +kernel
theorem dL_acts_202 : decode cL_acts 202 = .ok (.if_icmp .ne 46, 3) := by decide +kernel
theorem dL_acts_205 : decode cL_acts 205 = .ok (.aload_n 0, 1) := by decide +kernel
theorem dL_acts_206 : decode cL_acts 206 = .ok (.iconst 0, 1) := by decide +kernel
theorem dL_acts_207 : decode cL_acts 207 = .ok (.invokevirtual 21, 3) := by decide +kernel
theorem dL_acts_210 : decode cL_acts 210 = .ok (.iload 4, 2) := by decide +kernel
theorem dL_acts_212 : decode cL_acts 212 = .ok (.iconst 1, 1) := by decide +kernel
theorem dL_acts_213 : decode cL_acts 213 = .ok (.isub, 1) := by decide +kernel
theorem dL_acts_214 : decode cL_acts 214 = .ok (.if_icmp .ne 34, 3) := by decide +kernel
theorem dL_acts_217 : decode cL_acts 217 = .ok (.iload_n 1, 1) := by decide +kernel
theorem dL_acts_218 : decode cL_acts 218 = .ok (.iconst 4, 1) := by decide +kernel
theorem dL_acts_219 : decode cL_acts 219 = .ok (.ishr, 1) := by decide +kernel
theorem dL_acts_220 : decode cL_acts 220 = .ok (.iconst 2, 1) := by decide +kernel
theorem dL_acts_221 : decode cL_acts 221 = .ok (.invokestatic 85, 3) := by decide +kernel
theorem dL_acts_224 : decode cL_acts 224 = .ok (.ifCond .eq 20, 3) := by decide +kernel
theorem dL_acts_227 : decode cL_acts 227 = .ok (.aload_n 0, 1) := by decide +kernel
theorem dL_acts_228 : decode cL_acts 228 = .ok (.invokevirtual 88, 3) := by decide +kernel
theorem dL_acts_231 : decode cL_acts 231 = .ok (.ifCond .lt 17, 3) := by decide +kernel
theorem dL_acts_234 : decode cL_acts 234 = .ok (.aload_n 0, 1) := by decide +kernel
theorem dL_acts_235 : decode cL_acts 235 = .ok (.iconst 0, 1) := by decide +kernel
theorem dL_acts_236 : decode cL_acts 236 = .ok (.invokevirtual 21, 3) := by decide +kernel
theorem dL_acts_239 : decode cL_acts 239 = .ok (.iload 4, 2) := by decide +kernel
theorem dL_acts_241 : decode cL_acts 241 = .ok (.if_icmp .ne 7, 3) := by decide +kernel
theorem dL_acts_244 : decode cL_acts 244 = .ok (.iconst 1, 1) := by decide +kernel
theorem dL_acts_245 : decode cL_acts 245 = .ok (.goto 4, 3) := by decide +kernel
theorem dL_acts_248 : decode cL_acts 248 = .ok (.iconst 0, 1) := by decide +kernel
theorem dL_acts_249 : decode cL_acts 249 = .ok (.ireturn, 1) := by decide +kernel
theorem dL_acts_250 : decode cL_acts 250 = .ok (.iload_n 3, 1) := by decide +kernel
theorem dL_acts_251 : decode cL_acts 251 = .ok (.bipush 6, 2) := by decide +kernel
theorem dL_acts_253 : decode cL_acts 253 = .ok (.if_icmp .ne 57, 3) := by decide +kernel
theorem dL_acts_256 : decode cL_acts 256 = .ok (.aload_n 0, 1) := by decide +kernel
theorem dL_acts_257 : decode cL_acts 257 = .ok (.iload 5, 2) := by decide +kernel
theorem dL_acts_259 : decode cL_acts 259 = .ok (.bipush 6, 2) := by decide +kernel
theorem dL_acts_261 : decode cL_acts 261 = .ok (.invokevirtual 24, 3) := by decide +kernel
theorem dL_acts_264 : decode cL_acts 264 = .ok (.istore 6, 2) := by decide +kernel
theorem dL_acts_266 : decode cL_acts 266 = .ok (.aload_n 0, 1) := by decide +kernel
theorem dL_acts_267 : decode cL_acts 267 = .ok (.iload 5, 2) := by decide +kernel
theorem dL_acts_269 : decode cL_acts 269 = .ok (.bipush 6, 2) := by decide +kernel
theorem dL_acts_271 : decode cL_acts 271 = .ok (.iload_n 2, 1) := by decide +kernel
theorem dL_acts_272 : decode cL_acts 272 = .ok (.iconst 4, 1) := by decide +kernel
theorem dL_acts_273 : decode cL_acts 273 = .ok (.ishr, 1) := by decide +kernel
theorem dL_acts_274 : decode cL_acts 274 = .ok (.iconst 2, 1) := by decide +kernel
theorem dL_acts_275 : decode cL_acts 275 = .ok (.invokestatic 85, 3) := by decide +kernel
theorem dL_acts_278 : decode cL_acts 278 = .ok (.invokevirtual 54, 3) := by decide +kernel
theorem dL_acts_281 : decode cL_acts 281 = .ok (.iload 6, 2) := by decide +kernel
theorem dL_acts_283 : decode cL_acts 283 = .ok (.if_icmp .ne 25, 3) := by decide +kernel
theorem dL_acts_286 : decode cL_acts 286 = .ok (.aload_n 0, 1) := by decide +kernel
theorem dL_acts_287 : decode cL_acts 287 = .ok (.iload 5, 2) := by decide +kernel
theorem dL_acts_289 : decode cL_acts 289 = .ok (.bipush 6, 2) := by decide +kernel
theorem dL_acts_291 : decode cL_acts 291 = .ok (.invokevirtual 24, 3) := by decide +kernel
theorem dL_acts_294 : decode cL_acts 294 = .ok (.iload_n 2, 1) := by decide +kernel
theorem dL_acts_295 : decode cL_acts 295 = .ok (.iconst 4, 1) := by decide +kernel
theorem dL_acts_296 : decode cL_acts 296 = .ok (.ishr, 1) := by decide +kernel
theorem dL_acts_297 : decode cL_acts 297 = .ok (.iconst 2, 1) := by decide +kernel
theorem dL_acts_298 : decode cL_acts 298 = .ok (.invokestatic 85, 3) := by decide +kernel
theorem dL_acts_301 : decode cL_acts 301 = .ok (.if_icmp .ne 7, 3) := by decide +kernel
theorem dL_acts_304 : decode cL_acts 304 = .ok (.iconst 1, 1) := by decide +kernel
theorem dL_acts_305 : decode cL_acts 305 = .ok (.goto 4, 3) := by decide +kernel
theorem dL_acts_308 : decode cL_acts 308 = .ok (.iconst 0, 1) := by decide +kernel
theorem dL_acts_309 : decode cL_acts 309 = .ok (.ireturn, 1) := by decide +kernel
theorem dL_acts_310 : decode cL_acts 310 = .ok (.iload_n 3, 1) := by decide +kernel
theorem dL_acts_311 : decode cL_acts 311 = .ok (.bipush 9, 2) := by decide +kernel
theorem dL_acts_313 : decode cL_acts 313 = .ok (.if_icmp .ge 127, 3) := by decide +kernel
theorem dL_acts_316 : decode cL_acts 316 = .ok (.iload_n 2, 1) := by decide +kernel
theorem dL_acts_317 : decode cL_acts 317 = .ok (.iconst 5, 1) := by decide +kernel
theorem dL_acts_318 : decode cL_acts 318 = .ok (.invokestatic 85, 3) := by decide +kernel
theorem dL_acts_321 : decode cL_acts 321 = .ok (.istore 6, 2) := by decide +kernel
theorem dL_acts_323 : decode cL_acts 323 = .ok (.iload 6, 2) := by decide +kernel
theorem dL_acts_325 : decode cL_acts 325 = .ok (.ifCond .ne 13, 3) := by decide +kernel
theorem dL_acts_328 : decode cL_acts 328 = .ok (.iload_n 2, 1) := by decide +kernel
theorem dL_acts_329 : decode cL_acts 329 = .ok (.iconst 3, 1) := by decide +kernel
theorem dL_acts_330 : decode cL_acts 330 = .ok (.ishr, 1) := by decide +kernel
theorem dL_acts_331 : decode cL_acts 331 = .ok (.iconst 4, 1) := by decide +kernel
theorem dL_acts_332 : decode cL_acts 332 = .ok (.invokestatic 85, 3) := by decide +kernel
theorem dL_acts_335 : decode cL_acts 335 = .ok (.goto 65, 3) := by decide +kernel
theorem dL_acts_338 : decode cL_acts 338 = .ok (.iload 6, 2) := by decide +kernel
theorem dL_acts_340 : decode cL_acts 340 = .ok (.iconst 1, 1) := by decide +kernel
theorem dL_acts_341 : decode cL_acts 341 = .ok (.if_icmp .ne 17, 3) := by decide +kernel
theorem dL_acts_344 : decode cL_acts 344 = .ok (.bipush 20, 2) := by decide +kernel
theorem dL_acts_346 : decode cL_acts 346 = .ok (.iload_n 2, 1) := by decide +kernel
theorem dL_acts_347 : decode cL_acts 347 = .ok (.iconst 3, 1) := by decide +kernel
theorem dL_acts_348 : decode cL_acts 348 = .ok (.ishr, 1) := by decide +kernel
theorem dL_acts_349 : decode cL_acts 349 = .ok (.bipush 41, 2) := by decide +kernel
theorem dL_acts_351 : decode cL_acts 351 = .ok (.invokestatic 85, 3) := by decide +kernel
theorem dL_acts_354 : decode cL_acts 354 = .ok (.iadd, 1) := by decide +kernel
theorem dL_acts_355 : decode cL_acts 355 = .ok (.goto 45, 3) := by decide +kernel
theorem dL_acts_358 : decode cL_acts 358 = .ok (.iload 6, 2) := by decide +kernel
theorem dL_acts_360 : decode cL_acts 360 = .ok (.iconst 2, 1) := by decide +kernel
theorem dL_acts_361 : decode cL_acts 361 = .ok (.if_icmp .ne 16, 3) := by decide +kernel
theorem dL_acts_364 : decode cL_acts 364 = .ok (.iconst 1, 1) := by decide +kernel
theorem dL_acts_365 : decode cL_acts 365 = .ok (.iload_n 2, 1) := by decide +kernel
theorem dL_acts_366 : decode cL_acts 366 = .ok (.iconst 3, 1) := by decide +kernel
theorem dL_acts_367 : decode cL_acts 367 = .ok (.ishr, 1) := by decide +kernel
theorem dL_acts_368 : decode cL_acts 368 = .ok (.bipush 9, 2) := by decide +kernel
theorem dL_acts_370 : decode cL_acts 370 = .ok (.invokestatic 85, 3) := by decide +kernel
theorem dL_acts_373 : decode cL_acts 373 = .ok (.iadd, 1) := by decide +kernel
theorem dL_acts_374 : decode cL_acts 374 = .ok (.goto 26, 3) := by decide +kernel
theorem dL_acts_377 : decode cL_acts 377 = .ok (.iload 6, 2) := by decide +kernel
theorem dL_acts_379 : decode cL_acts 379 = .ok (.iconst 3, 1) := by decide +kernel
theorem dL_acts_380 : decode cL_acts 380 = .ok (.if_icmp .ne 13, 3) := by decide +kernel
theorem dL_acts_383 : decode cL_acts 383 = .ok (.iload_n 2, 1) := by decide +kernel
theorem dL_acts_384 : decode cL_acts 384 = .ok (.iconst 3, 1) := by decide +kernel
theorem dL_acts_385 : decode cL_acts 385 = .ok (.ishr, 1) := by decide +kernel
theorem dL_acts_386 : decode cL_acts 386 = .ok (.iconst 3, 1) := by decide +kernel
theorem dL_acts_387 : decode cL_acts 387 = .ok (.invokestatic 85, 3) := by decide +kernel
theorem dL_acts_390 : decode cL_acts 390 = .ok (.goto 10, 3) := by decide +kernel
theorem dL_acts_393 : decode cL_acts 393 = .ok (.iload_n 2, 1) := by decide +kernel
theorem dL_acts_394 : decode cL_acts 394 = .ok (.iconst 3, 1) := by decide +kernel
theorem dL_acts_395 : decode cL_acts 395 = .ok (.ishr, 1) := by decide +kernel
theorem dL_acts_396 : decode cL_acts 396 = .ok (.iconst 4, 1) := by decide +kernel
theorem dL_acts_397 : decode cL_acts 397 = .ok (.invokestatic 85, 3) := by decide +kernel
theorem dL_acts_400 : decode cL_acts 400 = .ok (.istore 7, 2) := by decide +kernel
theorem dL_acts_402 : decode cL_acts 402 = .ok (.aload_n 0, 1) := by decide +kernel
theorem dL_acts_403 : decode cL_acts 403 = .ok (.iload 6, 2) := by decide +kernel
theorem dL_acts_405 : decode cL_acts 405 = .ok (.invokevirtual 17, 3) := by decide +kernel
theorem dL_acts_408 : decode cL_acts 408 = .ok (.istore 8, 2) := by decide +kernel
theorem dL_acts_410 : decode cL_acts 410 = .ok (.aload_n 0, 1) := by decide +kernel
theorem dL_acts_411 : decode cL_acts 411 = .ok (.iload 6, 2) := by decide +kernel
theorem dL_acts_413 : decode cL_acts 413 = .ok (.iload 7, 2) := by decide +kernel
theorem dL_acts_415 : decode cL_acts 415 = .ok (.invokevirtual 57, 3) := by decide +kernel
theorem dL_acts_418 : decode cL_acts 418 = .ok (.iload 8, 2) := by decide +kernel
theorem dL_acts_420 : decode cL_acts 420 = .ok (.if_icmp .ne 18, 3) := by decide +kernel
theorem dL_acts_423 : decode cL_acts 423 = .ok (.aload_n 0, 1) := by decide +kernel
theorem dL_acts_424 : decode cL_acts 424 = .ok (.iload 6, 2) := by decide +kernel
theorem dL_acts_426 : decode cL_acts 426 = .ok (.invokevirtual 17, 3) := by decide +kernel
theorem dL_acts_429 : decode cL_acts 429 = .ok (.iload 7, 2) := by decide +kernel
theorem dL_acts_431 : decode cL_acts 431 = .ok (.if_icmp .ne 7, 3) := by decide +kernel
theorem dL_acts_434 : decode cL_acts 434 = .ok (.iconst 1, 1) := by decide +kernel
theorem dL_acts_435 : decode cL_acts 435 = .ok (.goto 4, 3) := by decide +kernel
theorem dL_acts_438 : decode cL_acts 438 = .ok (.iconst 0, 1) := by decide +kernel
theorem dL_acts_439 : decode cL_acts 439 = .ok (.ireturn, 1) := by decide +kernel
theorem dL_acts_440 : decode cL_acts 440 = .ok (.iload_n 3, 1) := by decide +kernel
theorem dL_acts_441 : decode cL_acts 441 = .ok (.bipush 9, 2) := by decide +kernel
theorem dL_acts_443 : decode cL_acts 443 = .ok (.if_icmp .ne 64, 3) := by decide +kernel
theorem dL_acts_446 : decode cL_acts 446 = .ok (.iload_n 2, 1) := by decide +kernel
theorem dL_acts_447 : decode cL_acts 447 = .ok (.iconst 4, 1) := by decide +kernel
theorem dL_acts_448 : decode cL_acts 448 = .ok (.invokestatic 85, 3) := by decide +kernel
theorem dL_acts_451 : decode cL_acts 451 = .ok (.istore 6, 2) := by decide +kernel
theorem dL_acts_453 : decode cL_acts 453 = .ok (.aload_n 0, 1) := by decide +kernel
theorem dL_acts_454 : decode cL_acts 454 = .ok (.bipush 6, 2) := by decide +kernel
theorem dL_acts_456 : decode cL_acts 456 = .ok (.iload 6, 2) := by decide +kernel
theorem dL_acts_458 : decode cL_acts 458 = .ok (.iadd, 1) := by decide +kernel
theorem dL_acts_459 : decode cL_acts 459 = .ok (.invokevirtual 17, 3) := by decide +kernel
theorem dL_acts_462 : decode cL_acts 462 = .ok (.istore 7, 2) := by decide +kernel
theorem dL_acts_464 : decode cL_acts 464 = .ok (.aload_n 0, 1) := by decide +kernel
theorem dL_acts_465 : decode cL_acts 465 = .ok (.iload 6, 2) := by decide +kernel
theorem dL_acts_467 : decode cL_acts 467 = .ok (.iload_n 2, 1) := by decide +kernel
theorem dL_acts_468 : decode cL_acts 468 = .ok (.iconst 2, 1) := by decide +kernel
theorem dL_acts_469 : decode cL_acts 469 = .ok (.ishr, 1) := by decide +kernel
theorem dL_acts_470 : decode cL_acts 470 = .ok (.iconst 2, 1) := by decide +kernel
theorem dL_acts_471 : decode cL_acts 471 = .ok (.invokestatic 85, 3) := by decide +kernel
theorem dL_acts_474 : decode cL_acts 474 = .ok (.invokevirtual 60, 3) := by decide +kernel
theorem dL_acts_477 : decode cL_acts 477 = .ok (.iload 7, 2) := by decide +kernel
theorem dL_acts_479 : decode cL_acts 479 = .ok (.if_icmp .ne 26, 3) := by decide +kernel
theorem dL_acts_482 : decode cL_acts 482 = .ok (.aload_n 0, 1) := by decide +kernel
theorem dL_acts_483 : decode cL_acts 483 = .ok (.bipush 6, 2) := by decide +kernel
