set_option maxRecDepth 20000 in
theorem ggL_acts_X8_setCard : GoodIn wsL_acts wsX8_setCard := goodIn_r _ [302, 14, 11, 303, 304, 9, 305, 306, 307, 150, 151, 152, 180, 181, 182, 183, 184, 185, 186, 187, 188, 189, 190, 191, 192, 193, 194, 195, 196, 197, 198, 199, 200, 201, 23, 202, 56, 203, 204, 205, 206, 25, 51, 207, 20, 21, 22, 24, 308, 309, 310, 311, 381, 382, 383, 384, 385, 386, 387, 388, 389, 390, 391, 392, 406, 407, 413, 414, 415, 416] (by decide +kernel) (by decide +kernel)
set_option maxRecDepth 20000 in
theorem gL_acts_X8_setCard : GoodIn wsL_acts (wsV RL 57 RX8 yX8_setCard wsX8_setCard) := goodIn_app (goodIn_of _ (by decide +kernel)) ggL_acts_X8_setCard
set_option maxRecDepth 20000 in
theorem ggL_acts_X8_setSide : GoodIn wsL_acts wsX8_setSide := goodIn_r _ [315, 14, 11, 150, 151, 9, 152, 316, 148, 149, 180, 181, 182, 183, 184, 185, 186, 187, 188, 189, 190, 191, 192, 193, 194, 195, 196, 197, 198, 199, 200, 201, 23, 202, 56, 203, 204, 205, 206, 25, 51, 207, 166, 118, 119, 317, 318, 319, 320, 381, 382, 383, 384, 385, 386, 387, 388, 389, 390, 391, 392, 413, 414, 415, 416, 406, 407] (by decide +kernel) (by decide +kernel)
set_option maxRecDepth 20000 in
theorem gL_acts_X8_setSide : GoodIn wsL_acts (wsV RL 60 RX8 yX8_setSide wsX8_setSide) := goodIn_app (goodIn_of _ (by decide +kernel)) ggL_acts_X8_setSide
set_option maxRecDepth 20000 in
theorem ggL_acts_X8_take : GoodIn wsL_acts wsX8_take := goodIn_r _ [324, 14, 11, 12, 325, 326, 9, 327, 150, 151, 152, 180, 181, 182, 183, 184, 185, 186, 187, 188, 189, 190, 191, 192, 193, 194, 195, 196, 197, 198, 199, 200, 201, 23, 202, 56, 203, 204, 205, 206, 25, 51, 207, 328, 329, 330, 331, 332, 333, 334, 335, 20, 21, 22, 24, 26, 27, 28, 29, 30, 31, 32, 33, 34, 35, 36, 37, 38, 39, 40, 41, 42, 43, 44, 45, 46, 47, 48, 49, 50, 52, 53, 54, 55, 57, 58, 59, 60, 61, 62, 63, 64, 65, 66, 67, 68, 69, 70, 71, 72, 73, 74, 75, 76, 77, 78, 79, 80, 81, 82, 83, 84, 85, 86, 87, 88, 89, 90, 91, 92, 93, 94, 95, 96, 97, 98, 99, 100, 381, 382, 383, 384, 385, 386, 387, 388, 389, 390, 391, 392, 393, 394, 395, 396, 397, 398, 399, 400, 406, 407, 413, 414, 415, 416] (by decide +kernel) (by decide +kernel)
set_option maxRecDepth 20000 in
theorem gL_acts_X8_take : GoodIn wsL_acts (wsV RL 66 RX8 yX8_take wsX8_take) := goodIn_app (goodIn_of _ (by decide +kernel)) ggL_acts_X8_take
set_option maxRecDepth 20000 in
theorem ggL_acts_X8_restore : GoodIn wsL_acts wsX8_restore := goodIn_r _ [339, 11, 14, 12, 325, 326, 9, 327, 150, 151, 152, 340, 341, 342, 194, 343, 198, 70, 71, 180, 181, 182, 183, 184, 185, 186, 187, 188, 189, 190, 191, 192, 193, 195, 196, 197, 199, 200, 201, 23, 202, 56, 203, 204, 205, 206, 25, 51, 207, 344, 345, 346, 347, 348, 332, 333, 334, 335, 20, 21, 22, 24, 26, 27, 28, 29, 30, 31, 32, 33, 34, 35, 36, 37, 38, 39, 40, 41, 42, 43, 44, 45, 46, 47, 48, 49, 50, 52, 53, 54, 55, 57, 58, 59, 60, 61, 62, 63, 64, 65, 66, 67, 68, 69, 72, 73, 74, 75, 76, 77, 78, 79, 80, 81, 82, 83, 84, 85, 86, 87, 88, 89, 90, 91, 92, 93, 94, 95, 96, 97, 98, 99, 100, 381, 382, 383, 384, 385, 386, 387, 388, 389, 390, 391, 392, 393, 394, 395, 396, 397, 398, 399, 400, 406, 407, 413, 414, 415, 416] (by decide +kernel) (by decide +kernel)
set_option maxRecDepth 20000 in
theorem gL_acts_X8_restore : GoodIn wsL_acts (wsV RL 69 RX8 yX8_restore wsX8_restore) := goodIn_app (goodIn_of _ (by decide +kernel)) ggL_acts_X8_restore
set_option maxRecDepth 20000 in
theorem ggL_acts_L_arranges : GoodIn wsL_acts wsL_arranges := goodIn_r _ [351, 6, 7, 8, 9, 10, 11, 12, 13, 14, 15, 16, 17, 18, 19, 20, 21, 22, 23, 24, 25, 26, 27, 28, 29, 30, 31, 32, 33, 34, 35, 36, 37, 38, 39, 40, 41, 42, 43, 44, 45, 46, 47, 48, 49, 50, 51, 52, 53, 54, 55, 56, 57, 58, 59, 60, 61, 62, 63, 64, 65, 66, 67, 68, 69, 70, 71, 72, 73, 74, 75, 76, 77, 78, 79, 80, 81, 82, 83, 84, 85, 86, 87, 88, 89, 90, 91, 92, 93, 94, 95, 96, 97, 98, 99, 100, 101, 102, 103, 104, 105, 106, 107, 108, 109, 110, 111, 112, 113, 114, 115, 116, 117, 118, 119, 120, 121, 122, 123, 124, 125, 126, 127, 128, 129, 130, 131, 132, 133, 134, 135, 136, 137, 138, 139, 140, 141, 142, 143, 144, 145, 146, 147, 148, 149, 150, 151, 152, 153, 154, 155, 156, 157, 158, 159, 160, 161, 352, 353, 354, 355, 332, 333, 334, 335, 356, 357, 358, 359, 360, 361, 362, 363, 364, 365, 366, 367, 368, 369, 370, 371, 372, 373, 374, 375, 376, 377, 378, 379, 380, 180, 181, 182, 183, 184, 185, 186, 187, 188, 189, 190, 191, 192, 193, 194, 195, 196, 197, 198, 199, 200, 201, 202, 203, 204, 205, 206, 207, 162, 163, 164, 165, 166, 1, 2, 3, 4, 5, 287, 288, 289, 290, 291, 292, 293, 294, 381, 382, 383, 384, 385, 386, 387, 388, 389, 390, 391, 392, 393, 394, 395, 396, 397, 398, 399, 400, 401, 402, 403, 404, 405, 406, 407, 408, 409, 410, 411, 412, 413, 414, 415, 416] (by decide +kernel) (by decide +kernel)
set_option maxRecDepth 20000 in
theorem gL_acts_L_arranges : GoodIn wsL_acts (va_wsS RL 91 yL_arranges wsL_arranges) := goodIn_app (goodIn_of _ (by decide +kernel)) ggL_acts_L_arranges
theorem dL_acts_0 : decode cL_acts 0 = .ok (.iload_n 1, 1) := by decide +kernel
theorem dL_acts_1 : decode cL_acts 1 = .ok (.bipush 12, 2) := by decide +kernel
theorem dL_acts_3 : decode cL_acts 3 = .ok (.invokestatic 85, 3) := by decide +kernel
theorem dL_acts_6 : decode cL_acts 6 = .ok (.istore_n 3, 1) := by decide +kernel
theorem dL_acts_7 : decode cL_acts 7 = .ok (.aload_n 0, 1) := by decide +kernel
theorem dL_acts_8 : decode cL_acts 8 = .ok (.iconst 0, 1) := by decide +kernel
theorem dL_acts_9 : decode cL_acts 9 = .ok (.invokevirtual 21, 3) := by decide +kernel
theorem dL_acts_12 : decode cL_acts 12 = .ok (.istore 4, 2) := by decide +kernel
theorem dL_acts_14 : decode cL_acts 14 = .ok (.iload 4, 2) := by decide +kernel
theorem dL_acts_16 : decode cL_acts 16 = .ok (.ifCond .ne 7, 3) := by decide +kernel
theorem dL_acts_19 : decode cL_acts 19 = .ok (.iconst 0, 1) := by decide +kernel
theorem dL_acts_20 : decode cL_acts 20 = .ok (.goto 9, 3) := by decide +kernel
theorem dL_acts_23 : decode cL_acts 23 = .ok (.iload_n 2, 1) := by decide +kernel
theorem dL_acts_24 : decode cL_acts 24 = .ok (.iload 4, 2) := by decide +kernel
theorem dL_acts_26 : decode cL_acts 26 = .ok (.invokestatic 85, 3) := by decide +kernel
theorem dL_acts_29 : decode cL_acts 29 = .ok (.istore 5, 2) := by decide +kernel
theorem dL_acts_31 : decode cL_acts 31 = .ok (.iload_n 3, 1) := by decide +kernel
theorem dL_acts_32 : decode cL_acts 32 = .ok (.iconst 5, 1) := by decide +kernel
theorem dL_acts_33 : decode cL_acts 33 = .ok (.if_icmp .lt 8, 3) := by decide +kernel
theorem dL_acts_36 : decode cL_acts 36 = .ok (.iload 4, 2) := by decide +kernel
theorem dL_acts_38 : decode cL_acts 38 = .ok (.ifCond .ne 149, 3) := by decide +kernel
theorem dL_acts_41 : decode cL_acts 41 = .ok (.aload_n 0, 1) := by decide +kernel
theorem dL_acts_42 : decode cL_acts 42 = .ok (.iload_n 2, 1) := by decide +kernel
theorem dL_acts_43 : decode cL_acts 43 = .ok (.iconst 4, 1) := by decide +kernel
theorem dL_acts_44 : decode cL_acts 44 = .ok (.invokestatic 85, 3) := by decide +kernel
theorem dL_acts_47 : decode cL_acts 47 = .ok (.iconst 1, 1) := by decide +kernel
theorem dL_acts_48 : decode cL_acts 48 = .ok (.iload_n 2, 1) := by decide +kernel
theorem dL_acts_49 : decode cL_acts 49 = .ok (.iconst 2, 1) := by decide +kernel
theorem dL_acts_50 : decode cL_acts 50 = .ok (.ishr, 1) := by decide +kernel
theorem dL_acts_51 : decode cL_acts 51 = .ok (.bipush 60, 2) := by decide +kernel
theorem dL_acts_53 : decode cL_acts 53 = .ok (.invokestatic 85, 3) := by decide +kernel
theorem dL_acts_56 : decode cL_acts 56 = .ok (.iadd, 1) := by decide +kernel
theorem dL_acts_57 : decode cL_acts 57 = .ok (.iconst 1, 1) := by decide +kernel
theorem dL_acts_58 : decode cL_acts 58 = .ok (.iload_n 2, 1) := by decide +kernel
theorem dL_acts_59 : decode cL_acts 59 = .ok (.iconst 4, 1) := by decide +kernel
theorem dL_acts_60 : decode cL_acts 60 = .ok (.ishr, 1) := by decide +kernel
theorem dL_acts_61 : decode cL_acts 61 = .ok (.iload_n 2, 1) := by decide +kernel
theorem dL_acts_62 : decode cL_acts 62 = .ok (.bipush 20, 2) := by decide +kernel
theorem dL_acts_64 : decode cL_acts 64 = .ok (.ishr, 1) := by decide +kernel
theorem dL_acts_65 : decode cL_acts 65 = .ok (.iconst 2, 1) := by decide +kernel
theorem dL_acts_66 : decode cL_acts 66 = .ok (.invokestatic 85, 3) := by decide +kernel
theorem dL_acts_69 : decode cL_acts 69 = .ok (.ifCond .ne 9, 3) := by decide +kernel
theorem dL_acts_72 : decode cL_acts 72 = .ok (.sipush 9999, 3) := by decide +kernel
theorem dL_acts_75 : decode cL_acts 75 = .ok (.goto 5, 3) := by decide +kernel
theorem dL_acts_78 : decode cL_acts 78 = .ok (.bipush 99, 2) := by decide +kernel
theorem dL_acts_80 : decode cL_acts 80 = .ok (.invokestatic 85, 3) := by decide +kernel
theorem dL_acts_83 : decode cL_acts 83 = .ok (.iadd, 1) := by decide +kernel
theorem dL_acts_84 : decode cL_acts 84 = .ok (.iconst 1, 1) := by decide +kernel
theorem dL_acts_85 : decode cL_acts 85 = .ok (.iload_n 2, 1) := by decide +kernel
theorem dL_acts_86 : decode cL_acts 86 = .ok (.bipush 6, 2) := by decide +kernel
theorem dL_acts_88 : decode cL_acts 88 = .ok (.ishr, 1) := by decide +kernel
theorem dL_acts_89 : decode cL_acts 89 = .ok (.bipush 15, 2) := by decide +kernel
theorem dL_acts_91 : decode cL_acts 91 = .ok (.invokestatic 85, 3) := by decide +kernel
theorem dL_acts_94 : decode cL_acts 94 = .ok (.iadd, 1) := by decide +kernel
theorem dL_acts_95 : decode cL_acts 95 = .ok (.iconst 1, 1) := by decide +kernel
theorem dL_acts_96 : decode cL_acts 96 = .ok (.aload_n 0, 1) := by decide +kernel
theorem dL_acts_97 : decode cL_acts 97 = .ok (.iconst 0, 1) := by decide +kernel
theorem dL_acts_98 : decode cL_acts 98 = .ok (.invokevirtual 17, 3) := by decide +kernel
theorem dL_acts_101 : decode cL_acts 101 = .ok (.ishl, 1) := by decide +kernel
theorem dL_acts_102 : decode cL_acts 102 = .ok (.ior, 1) := by decide +kernel
theorem dL_acts_103 : decode cL_acts 103 = .ok (.iload_n 2, 1) := by decide +kernel
theorem dL_acts_104 : decode cL_acts 104 = .ok (.bipush 21, 2) := by decide +kernel
theorem dL_acts_106 : decode cL_acts 106 = .ok (.ishr, 1) := by decide +kernel
theorem dL_acts_107 : decode cL_acts 107 = .ok (.iconst 2, 1) := by decide +kernel
theorem dL_acts_108 : decode cL_acts 108 = .ok (.invokestatic 85, 3) := by decide +kernel
theorem dL_acts_111 : decode cL_acts 111 = .ok (.ifCond .ne 7, 3) := by decide +kernel
theorem dL_acts_114 : decode cL_acts 114 = .ok (.iconst 0, 1) := by decide +kernel
