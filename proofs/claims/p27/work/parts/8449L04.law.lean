set_option maxRecDepth 20000 in
theorem ggL_refuses_X8_restore : GoodIn wsL_refuses wsX8_restore := wsL_refuses_good (goodIn_r _ [337, 6, 9, 7, 323, 324, 4, 325, 145, 146, 147, 338, 339, 340, 184, 341, 188, 65, 66, 170, 171, 172, 173, 174, 175, 176, 177, 178, 179, 180, 181, 182, 183, 185, 186, 187, 189, 190, 191, 18, 192, 51, 193, 194, 195, 196, 20, 46, 197, 342, 343, 344, 345, 346, 330, 331, 332, 333, 15, 16, 17, 19, 21, 22, 23, 24, 25, 26, 27, 28, 29, 30, 31, 32, 33, 34, 35, 36, 37, 38, 39, 40, 41, 42, 43, 44, 45, 47, 48, 49, 50, 52, 53, 54, 55, 56, 57, 58, 59, 60, 61, 62, 63, 64, 67, 68, 69, 70, 71, 72, 73, 74, 75, 76, 77, 78, 79, 80, 81, 82, 83, 84, 85, 86, 87, 88, 89, 90, 91, 92, 93, 94, 95, 510, 511, 512, 513, 514, 515, 516, 517, 518, 519, 520, 521, 522, 523, 524, 525, 526, 527, 528, 529, 535, 536, 542, 543, 544, 545] (by decide +kernel) (by decide +kernel))
set_option maxRecDepth 20000 in
theorem gL_refuses_X8_restore : GoodIn wsL_refuses (wsV RL 69 RX8 yX8_restore wsX8_restore) := goodIn_app (goodIn_of _ (by decide +kernel)) ggL_refuses_X8_restore
set_option maxRecDepth 20000 in
theorem ggL_refuses_X8_append : GoodIn wsL_refuses wsX8_append := wsL_refuses_good (goodIn_r _ [350, 10, 145, 146, 4, 147, 351, 352, 353, 354, 355, 356, 357, 510, 511, 512, 513, 514, 515, 516, 517, 518, 537, 538, 539, 540, 541] (by decide +kernel) (by decide +kernel))
set_option maxRecDepth 20000 in
theorem gL_refuses_X8_append : GoodIn wsL_refuses (wsV RL 72 RX8 yX8_append wsX8_append) := goodIn_app (goodIn_of _ (by decide +kernel)) ggL_refuses_X8_append
set_option maxRecDepth 20000 in
theorem ggL_refuses_X8_card : GoodIn wsL_refuses wsX8_card := wsL_refuses_good (goodIn_r _ [361, 6, 145, 146, 4, 147, 15, 16, 17, 18, 19, 20, 243, 113, 114, 510, 511, 512, 513, 514, 515, 516, 517, 518, 519, 520, 521, 542, 543, 544, 545] (by decide +kernel) (by decide +kernel))
set_option maxRecDepth 20000 in
theorem gL_refuses_X8_card : GoodIn wsL_refuses (wsV RL 17 RX8 yX8_card wsX8_card) := goodIn_app (goodIn_of _ (by decide +kernel)) ggL_refuses_X8_card
set_option maxRecDepth 20000 in
theorem ggL_refuses_X8_dish : GoodIn wsL_refuses wsX8_dish := wsL_refuses_good (goodIn_r _ [365, 6, 7, 215, 208, 209, 18, 210, 46, 146, 4, 147, 145, 224, 48, 49, 50, 51, 11, 12, 13, 14, 8, 15, 16, 17, 19, 20, 21, 22, 23, 24, 25, 26, 27, 28, 29, 30, 31, 32, 33, 34, 35, 36, 37, 38, 39, 40, 41, 42, 43, 44, 45, 47, 52, 53, 54, 55, 56, 57, 58, 59, 60, 61, 62, 63, 64, 65, 66, 67, 68, 69, 70, 71, 72, 73, 74, 75, 76, 77, 78, 79, 80, 81, 82, 83, 84, 85, 86, 87, 88, 89, 90, 91, 92, 93, 94, 95, 96, 97, 98, 99, 100, 101, 102, 103, 104, 105, 106, 107, 108, 109, 110, 111, 112, 113, 114, 115, 116, 117, 118, 119, 120, 121, 122, 123, 124, 125, 126, 127, 128, 129, 130, 131, 132, 133, 134, 135, 136, 366, 367, 368, 369, 370, 371, 372, 243, 373, 374, 375, 376, 377, 378, 379, 380, 381, 382, 383, 384, 385, 386, 387, 388, 389, 390, 391, 392, 393, 394, 395, 396, 397, 398, 399, 400, 401, 402, 403, 404, 405, 406, 407, 408, 409, 410, 411, 412, 413, 414, 415, 416, 417, 510, 511, 512, 513, 514, 515, 516, 517, 518, 519, 520, 521, 522, 523, 524, 525, 526, 527, 528, 529, 542, 543, 544, 545, 530, 531, 532, 533, 534, 551, 552, 553, 554, 555, 556, 557] (by decide +kernel) (by decide +kernel))
set_option maxRecDepth 20000 in
theorem gL_refuses_X8_dish : GoodIn wsL_refuses (wsV RL 24 RX8 yX8_dish wsX8_dish) := goodIn_app (goodIn_of _ (by decide +kernel)) ggL_refuses_X8_dish
set_option maxRecDepth 20000 in
theorem ggL_refuses_X8_line : GoodIn wsL_refuses wsX8_line := wsL_refuses_good (goodIn_r _ [421, 8, 372, 6, 7, 242, 143, 4, 144, 145, 146, 147, 11, 12, 13, 14, 15, 16, 17, 18, 19, 20, 21, 22, 23, 24, 25, 26, 27, 28, 29, 30, 31, 32, 33, 34, 35, 36, 37, 38, 39, 40, 41, 42, 43, 44, 45, 46, 47, 48, 49, 50, 51, 52, 53, 54, 55, 56, 57, 58, 59, 60, 61, 62, 63, 64, 65, 66, 67, 68, 69, 70, 71, 72, 73, 74, 75, 76, 77, 78, 79, 80, 81, 82, 83, 84, 85, 86, 87, 88, 89, 90, 91, 92, 93, 94, 95, 96, 97, 98, 99, 100, 101, 102, 103, 104, 105, 106, 107, 108, 109, 110, 111, 112, 113, 114, 115, 116, 117, 118, 119, 120, 121, 122, 123, 124, 125, 126, 127, 128, 129, 130, 131, 132, 133, 134, 135, 136, 138, 373, 374, 375, 376, 377, 378, 379, 380, 381, 382, 383, 384, 385, 386, 387, 388, 389, 390, 391, 392, 393, 394, 395, 396, 397, 398, 399, 400, 401, 402, 403, 404, 405, 422, 423, 424, 425, 426, 427, 428, 429, 414, 415, 416, 417, 430, 431, 432, 433, 410, 411, 412, 413, 434, 435, 436, 437, 438, 439, 440, 441, 442, 263, 264, 443, 444, 367, 224, 445, 446, 447, 448, 449, 450, 451, 366, 148, 510, 511, 512, 513, 514, 515, 516, 517, 518, 519, 520, 521, 542, 543, 544, 545, 522, 523, 524, 525, 526, 527, 528, 529, 530, 531, 532, 533, 534, 551, 552, 553, 554, 555, 556, 557] (by decide +kernel) (by decide +kernel))
set_option maxRecDepth 20000 in
theorem gL_refuses_X8_line : GoodIn wsL_refuses (wsV RL 9 RX8 yX8_line wsX8_line) := goodIn_app (goodIn_of _ (by decide +kernel)) ggL_refuses_X8_line
set_option maxRecDepth 20000 in
theorem ggL_refuses_X8_account : GoodIn wsL_refuses wsX8_account := wsL_refuses_good (goodIn_r _ [455, 8, 242, 143, 4, 144, 145, 146, 147, 11, 12, 13, 14, 7, 6, 15, 16, 17, 18, 19, 20, 21, 22, 23, 24, 25, 26, 27, 28, 29, 30, 31, 32, 33, 34, 35, 36, 37, 38, 39, 40, 41, 42, 43, 44, 45, 46, 47, 48, 49, 50, 51, 52, 53, 54, 55, 56, 57, 58, 59, 60, 61, 62, 63, 64, 65, 66, 67, 68, 69, 70, 71, 72, 73, 74, 75, 76, 77, 78, 79, 80, 81, 82, 83, 84, 85, 86, 87, 88, 89, 90, 91, 92, 93, 94, 95, 96, 97, 98, 99, 100, 101, 102, 103, 104, 105, 106, 107, 108, 109, 110, 111, 112, 113, 114, 115, 116, 117, 118, 119, 120, 121, 122, 123, 124, 125, 126, 127, 128, 129, 130, 131, 132, 133, 134, 135, 136, 456, 510, 511, 512, 513, 514, 515, 516, 517, 518, 519, 520, 521, 542, 543, 544, 545, 522, 523, 524, 525, 526, 527, 528, 529, 530, 531, 532, 533, 534] (by decide +kernel) (by decide +kernel))
set_option maxRecDepth 20000 in
theorem gL_refuses_X8_account : GoodIn wsL_refuses (wsV RL 34 RX8 yX8_account wsX8_account) := goodIn_app (goodIn_of _ (by decide +kernel)) ggL_refuses_X8_account
set_option maxRecDepth 20000 in
theorem ggL_refuses_X8_why : GoodIn wsL_refuses wsX8_why := wsL_refuses_good (goodIn_r _ [460, 6, 7, 215, 208, 209, 18, 210, 46, 146, 4, 147, 461, 53, 54, 55, 56, 48, 49, 50, 51, 15, 16, 17, 19, 20, 462, 62, 63, 64, 65, 66, 463, 68, 69, 70, 330, 331, 332, 333, 21, 22, 23, 24, 25, 26, 27, 28, 29, 30, 31, 32, 33, 34, 35, 36, 37, 38, 39, 40, 41, 42, 43, 44, 45, 47, 52, 57, 58, 59, 60, 61, 67, 71, 72, 73, 74, 75, 76, 77, 78, 79, 80, 81, 82, 83, 84, 85, 86, 87, 88, 89, 90, 91, 92, 93, 94, 95, 366, 510, 511, 512, 513, 514, 515, 516, 517, 518, 519, 520, 521, 522, 523, 524, 525, 526, 527, 528, 529, 542, 543, 544, 545] (by decide +kernel) (by decide +kernel))
set_option maxRecDepth 20000 in
theorem gL_refuses_X8_why : GoodIn wsL_refuses (wsV RL 28 RX8 yX8_why wsX8_why) := goodIn_app (goodIn_of _ (by decide +kernel)) ggL_refuses_X8_why
set_option maxRecDepth 20000 in
theorem ggL_refuses_X8_replacement : GoodIn wsL_refuses wsX8_replacement := wsL_refuses_good (goodIn_r _ [467, 6, 7, 468, 215, 208, 209, 18, 210, 46, 146, 4, 147, 330, 331, 332, 333, 15, 16, 17, 19, 20, 21, 22, 23, 24, 25, 26, 27, 28, 29, 30, 31, 32, 33, 34, 35, 36, 37, 38, 39, 40, 41, 42, 43, 44, 45, 47, 48, 49, 50, 51, 52, 53, 54, 55, 56, 57, 58, 59, 60, 61, 62, 63, 64, 65, 66, 67, 68, 69, 70, 71, 72, 73, 74, 75, 76, 77, 78, 79, 80, 81, 82, 83, 84, 85, 86, 87, 88, 89, 90, 91, 92, 93, 94, 95, 366, 469, 190, 191, 192, 193, 194, 195, 196, 197, 203, 204, 205, 206, 207, 162, 163, 164, 165, 145, 470, 471, 472, 449, 450, 451, 510, 511, 512, 513, 514, 515, 516, 517, 518, 519, 520, 521, 522, 523, 524, 525, 526, 527, 528, 529, 542, 543, 544, 545] (by decide +kernel) (by decide +kernel))
set_option maxRecDepth 20000 in
theorem gL_refuses_X8_replacement : GoodIn wsL_refuses (wsV RL 37 RX8 yX8_replacement wsX8_replacement) := goodIn_app (goodIn_of _ (by decide +kernel)) ggL_refuses_X8_replacement
set_option maxRecDepth 20000 in
theorem ggL_refuses_X8_printedFor : GoodIn wsL_refuses wsX8_printedFor := wsL_refuses_good (goodIn_r _ [476, 7, 6, 229, 230, 4, 231, 232, 233, 145, 146, 147, 15, 16, 17, 18, 19, 20, 21, 22, 23, 24, 25, 26, 27, 28, 29, 30, 31, 32, 33, 34, 35, 36, 37, 38, 39, 40, 41, 42, 43, 44, 45, 46, 47, 48, 49, 50, 51, 52, 53, 54, 55, 56, 57, 58, 59, 60, 61, 62, 63, 64, 65, 66, 67, 68, 69, 70, 71, 72, 73, 74, 75, 76, 77, 78, 79, 80, 81, 82, 83, 84, 85, 86, 87, 88, 89, 90, 91, 92, 93, 94, 95, 510, 511, 512, 513, 514, 515, 516, 517, 518, 519, 520, 521, 522, 523, 524, 525, 526, 527, 528, 529, 542, 543, 544, 545] (by decide +kernel) (by decide +kernel))
set_option maxRecDepth 20000 in
theorem gL_refuses_X8_printedFor : GoodIn wsL_refuses (wsV RL 40 RX8 yX8_printedFor wsX8_printedFor) := goodIn_app (goodIn_of _ (by decide +kernel)) ggL_refuses_X8_printedFor
set_option maxRecDepth 20000 in
theorem ggL_refuses_X8_bestSides : GoodIn wsL_refuses wsX8_bestSides := wsL_refuses_good (goodIn_r _ [480, 6, 8, 145, 146, 4, 147, 330, 331, 332, 333, 7, 15, 16, 17, 18, 19, 20, 21, 22, 23, 24, 25, 26, 27, 28, 29, 30, 31, 32, 33, 34, 35, 36, 37, 38, 39, 40, 41, 42, 43, 44, 45, 46, 47, 48, 49, 50, 51, 52, 53, 54, 55, 56, 57, 58, 59, 60, 61, 62, 63, 64, 65, 66, 67, 68, 69, 70, 71, 72, 73, 74, 75, 76, 77, 78, 79, 80, 81, 82, 83, 84, 85, 86, 87, 88, 89, 90, 91, 92, 93, 94, 95, 481, 482, 483, 484, 485, 96, 97, 98, 99, 100, 101, 102, 103, 104, 105, 106, 107, 108, 109, 110, 111, 112, 113, 114, 115, 116, 117, 118, 119, 120, 121, 122, 123, 124, 125, 126, 127, 128, 129, 130, 131, 132, 133, 134, 135, 136, 486, 487, 488, 489, 490, 154, 155, 156, 491, 492, 493, 494, 495, 496, 497, 498, 499, 500, 501, 153, 510, 511, 512, 513, 514, 515, 516, 517, 518, 519, 520, 521, 542, 543, 544, 545, 522, 523, 524, 525, 526, 527, 528, 529, 530, 531, 532, 533, 534] (by decide +kernel) (by decide +kernel))
set_option maxRecDepth 20000 in
theorem gL_refuses_X8_bestSides : GoodIn wsL_refuses (wsV RL 75 RX8 yX8_bestSides wsX8_bestSides) := goodIn_app (goodIn_of _ (by decide +kernel)) ggL_refuses_X8_bestSides
set_option maxRecDepth 20000 in
theorem ggL_refuses_X8_bestSet : GoodIn wsL_refuses wsX8_bestSet := wsL_refuses_good (goodIn_r _ [505, 252, 6, 253, 254, 4, 255, 242, 143, 144, 145, 146, 147, 256, 257, 258, 259, 260, 261, 262, 263, 33, 264, 265, 266, 267, 268, 269, 270, 271, 272, 273, 113, 114, 274, 275, 276, 277, 278, 16, 17, 18, 19, 20, 279, 43, 44, 45, 46, 280, 48, 49, 50, 51, 281, 282, 283, 284, 58, 59, 60, 61, 62, 63, 64, 56, 65, 66, 67, 68, 69, 70, 72, 73, 285, 79, 80, 81, 82, 83, 84, 85, 86, 87, 88, 89, 90, 91, 92, 93, 94, 95, 286, 287, 288, 289, 290, 291, 292, 293, 294, 295, 296, 297, 298, 299, 300, 301, 302, 303, 304, 305, 506, 507, 508, 509, 310, 311, 312, 313, 315, 316, 317, 318, 510, 511, 512, 513, 514, 515, 516, 517, 518, 519, 520, 521, 546, 547, 548, 549, 550, 542, 543, 544, 545] (by decide +kernel) (by decide +kernel))
set_option maxRecDepth 20000 in
theorem gL_refuses_X8_bestSet : GoodIn wsL_refuses (wsV RL 78 RX8 yX8_bestSet wsX8_bestSet) := goodIn_app (goodIn_of _ (by decide +kernel)) ggL_refuses_X8_bestSet
theorem dL_refuses_0 : decode cL_refuses 0 = .ok (.aload_n 0, 1) := by decide +kernel
theorem dL_refuses_1 : decode cL_refuses 1 = .ok (.iconst 0, 1) := by decide +kernel
theorem dL_refuses_2 : decode cL_refuses 2 = .ok (.invokevirtual 21, 3) := by decide +kernel
theorem dL_refuses_5 : decode cL_refuses 5 = .ok (.istore_n 1, 1) := by decide +kernel
theorem dL_refuses_6 : decode cL_refuses 6 = .ok (.aload_n 0, 1) := by decide +kernel
theorem dL_refuses_7 : decode cL_refuses 7 = .ok (.bipush 14, 2) := by decide +kernel
theorem dL_refuses_9 : decode cL_refuses 9 = .ok (.invokevirtual 21, 3) := by decide +kernel
theorem dL_refuses_12 : decode cL_refuses 12 = .ok (.istore_n 2, 1) := by decide +kernel
theorem dL_refuses_13 : decode cL_refuses 13 = .ok (.aload_n 0, 1) := by decide +kernel
theorem dL_refuses_14 : decode cL_refuses 14 = .ok (.iconst 4, 1) := by decide +kernel
theorem dL_refuses_15 : decode cL_refuses 15 = .ok (.iconst 1, 1) := by decide +kernel
theorem dL_refuses_16 : decode cL_refuses 16 = .ok (.iconst 1, 1) := by decide +kernel
theorem dL_refuses_17 : decode cL_refuses 17 = .ok (.iconst 1, 1) := by decide +kernel
theorem dL_refuses_18 : decode cL_refuses 18 = .ok (.iconst 0, 1) := by decide +kernel
theorem dL_refuses_19 : decode cL_refuses 19 = .ok (.iconst 1, 1) := by decide +kernel
theorem dL_refuses_20 : decode cL_refuses 20 = .ok (.invokevirtual 47, 3) := by decide +kernel
theorem dL_refuses_23 : decode cL_refuses 23 = .ok (.iconst (-1), 1) := by decide +kernel
theorem dL_refuses_24 : decode cL_refuses 24 = .ok (.if_icmp .ne 363, 3) := by decide +kernel
theorem dL_refuses_27 : decode cL_refuses 27 = .ok (.aload_n 0, 1) := by decide +kernel
theorem dL_refuses_28 : decode cL_refuses 28 = .ok (.iconst 0, 1) := by decide +kernel
theorem dL_refuses_29 : decode cL_refuses 29 = .ok (.bipush 100, 2) := by decide +kernel
theorem dL_refuses_31 : decode cL_refuses 31 = .ok (.iconst 1, 1) := by decide +kernel
theorem dL_refuses_32 : decode cL_refuses 32 = .ok (.iconst 1, 1) := by decide +kernel
theorem dL_refuses_33 : decode cL_refuses 33 = .ok (.iconst 0, 1) := by decide +kernel
theorem dL_refuses_34 : decode cL_refuses 34 = .ok (.iconst 1, 1) := by decide +kernel
theorem dL_refuses_35 : decode cL_refuses 35 = .ok (.invokevirtual 47, 3) := by decide +kernel
theorem dL_refuses_38 : decode cL_refuses 38 = .ok (.iconst (-1), 1) := by decide +kernel
theorem dL_refuses_39 : decode cL_refuses 39 = .ok (.if_icmp .ne 348, 3) := by decide +kernel
theorem dL_refuses_42 : decode cL_refuses 42 = .ok (.aload_n 0, 1) := by decide +kernel
theorem dL_refuses_43 : decode cL_refuses 43 = .ok (.iconst 0, 1) := by decide +kernel
theorem dL_refuses_44 : decode cL_refuses 44 = .ok (.iconst 1, 1) := by decide +kernel
theorem dL_refuses_45 : decode cL_refuses 45 = .ok (.iconst 0, 1) := by decide +kernel
theorem dL_refuses_46 : decode cL_refuses 46 = .ok (.iconst 1, 1) := by decide +kernel
theorem dL_refuses_47 : decode cL_refuses 47 = .ok (.iconst 0, 1) := by decide +kernel
theorem dL_refuses_48 : decode cL_refuses 48 = .ok (.iconst 1, 1) := by decide +kernel
theorem dL_refuses_49 : decode cL_refuses 49 = .ok (.invokevirtual 47, 3) := by decide +kernel
theorem dL_refuses_52 : decode cL_refuses 52 = .ok (.iconst (-1), 1) := by decide +kernel
theorem dL_refuses_53 : decode cL_refuses 53 = .ok (.if_icmp .ne 334, 3) := by decide +kernel
theorem dL_refuses_56 : decode cL_refuses 56 = .ok (.aload_n 0, 1) := by decide +kernel
theorem dL_refuses_57 : decode cL_refuses 57 = .ok (.iconst 0, 1) := by decide +kernel
theorem dL_refuses_58 : decode cL_refuses 58 = .ok (.iconst 1, 1) := by decide +kernel
theorem dL_refuses_59 : decode cL_refuses 59 = .ok (.iconst 1, 1) := by decide +kernel
theorem dL_refuses_60 : decode cL_refuses 60 = .ok (.bipush 16, 2) := by decide +kernel
theorem dL_refuses_62 : decode cL_refuses 62 = .ok (.iconst 0, 1) := by decide +kernel
theorem dL_refuses_63 : decode cL_refuses 63 = .ok (.iconst 1, 1) := by decide +kernel
theorem dL_refuses_64 : decode cL_refuses 64 = .ok (.invokevirtual 47, 3) := by decide +kernel
theorem dL_refuses_67 : decode cL_refuses 67 = .ok (.iconst (-1), 1) := by decide +kernel
theorem dL_refuses_68 : decode cL_refuses 68 = .ok (.if_icmp .ne 319, 3) := by decide +kernel
theorem dL_refuses_71 : decode cL_refuses 71 = .ok (.aload_n 0, 1) := by decide +kernel
theorem dL_refuses_72 : decode cL_refuses 72 = .ok (.iconst 0, 1) := by decide +kernel
theorem dL_refuses_73 : decode cL_refuses 73 = .ok (.iconst 1, 1) := by decide +kernel
theorem dL_refuses_74 : decode cL_refuses 74 = .ok (.iconst 1, 1) := by decide +kernel
theorem dL_refuses_75 : decode cL_refuses 75 = .ok (.iconst 1, 1) := by decide +kernel
theorem dL_refuses_76 : decode cL_refuses 76 = .ok (.iconst (-1), 1) := by decide +kernel
theorem dL_refuses_77 : decode cL_refuses 77 = .ok (.iconst 1, 1) := by decide +kernel
theorem dL_refuses_78 : decode cL_refuses 78 = .ok (.invokevirtual 47, 3) := by decide +kernel
theorem dL_refuses_81 : decode cL_refuses 81 = .ok (.iconst (-1), 1) := by decide +kernel
theorem dL_refuses_82 : decode cL_refuses 82 = .ok (.if_icmp .ne 305, 3) := by decide +kernel
theorem dL_refuses_85 : decode cL_refuses 85 = .ok (.aload_n 0, 1) := by decide +kernel
theorem dL_refuses_86 : decode cL_refuses 86 = .ok (.iconst 0, 1) := by decide +kernel
theorem dL_refuses_87 : decode cL_refuses 87 = .ok (.iconst 1, 1) := by decide +kernel
theorem dL_refuses_88 : decode cL_refuses 88 = .ok (.iconst 1, 1) := by decide +kernel
theorem dL_refuses_89 : decode cL_refuses 89 = .ok (.iconst 1, 1) := by decide +kernel
theorem dL_refuses_90 : decode cL_refuses 90 = .ok (.iconst 0, 1) := by decide +kernel
theorem dL_refuses_91 : decode cL_refuses 91 = .ok (.iconst 0, 1) := by decide +kernel
theorem dL_refuses_92 : decode cL_refuses 92 = .ok (.invokevirtual 47, 3) := by decide +kernel
theorem dL_refuses_95 : decode cL_refuses 95 = .ok (.iconst (-1), 1) := by decide +kernel
theorem dL_refuses_96 : decode cL_refuses 96 = .ok (.if_icmp .ne 291, 3) := by decide +kernel
theorem dL_refuses_99 : decode cL_refuses 99 = .ok (.aload_n 0, 1) := by decide +kernel
theorem dL_refuses_100 : decode cL_refuses 100 = .ok (.iload_n 1, 1) := by decide +kernel
theorem dL_refuses_101 : decode cL_refuses 101 = .ok (.invokevirtual 51, 3) := by decide +kernel
theorem dL_refuses_104 : decode cL_refuses 104 = .ok (.iconst (-1), 1) := by decide +kernel
theorem dL_refuses_105 : decode cL_refuses 105 = .ok (.if_icmp .ne 282, 3) := by decide +kernel
theorem dL_refuses_108 : decode cL_refuses 108 = .ok (.aload_n 0, 1) := by decide +kernel
theorem dL_refuses_109 : decode cL_refuses 109 = .ok (.iconst (-1), 1) := by decide +kernel
theorem dL_refuses_110 : decode cL_refuses 110 = .ok (.invokevirtual 51, 3) := by decide +kernel
theorem dL_refuses_113 : decode cL_refuses 113 = .ok (.iconst (-1), 1) := by decide +kernel
theorem dL_refuses_114 : decode cL_refuses 114 = .ok (.if_icmp .ne 273, 3) := by decide +kernel
theorem dL_refuses_117 : decode cL_refuses 117 = .ok (.aload_n 0, 1) := by decide +kernel
theorem dL_refuses_118 : decode cL_refuses 118 = .ok (.iload_n 1, 1) := by decide +kernel
theorem dL_refuses_119 : decode cL_refuses 119 = .ok (.iconst 0, 1) := by decide +kernel
theorem dL_refuses_120 : decode cL_refuses 120 = .ok (.iconst 0, 1) := by decide +kernel
theorem dL_refuses_121 : decode cL_refuses 121 = .ok (.invokevirtual 54, 3) := by decide +kernel
theorem dL_refuses_124 : decode cL_refuses 124 = .ok (.iconst (-1), 1) := by decide +kernel
theorem dL_refuses_125 : decode cL_refuses 125 = .ok (.if_icmp .ne 262, 3) := by decide +kernel
theorem dL_refuses_128 : decode cL_refuses 128 = .ok (.aload_n 0, 1) := by decide +kernel
theorem dL_refuses_129 : decode cL_refuses 129 = .ok (.iconst 0, 1) := by decide +kernel
theorem dL_refuses_130 : decode cL_refuses 130 = .ok (.bipush 7, 2) := by decide +kernel
theorem dL_refuses_132 : decode cL_refuses 132 = .ok (.iconst 0, 1) := by decide +kernel
theorem dL_refuses_133 : decode cL_refuses 133 = .ok (.invokevirtual 54, 3) := by decide +kernel
theorem dL_refuses_136 : decode cL_refuses 136 = .ok (.iconst (-1), 1) := by decide +kernel
theorem dL_refuses_137 : decode cL_refuses 137 = .ok (.if_icmp .ne 250, 3) := by decide +kernel
theorem dL_refuses_140 : decode cL_refuses 140 = .ok (.aload_n 0, 1) := by decide +kernel
theorem dL_refuses_141 : decode cL_refuses 141 = .ok (.bipush 6, 2) := by decide +kernel
theorem dL_refuses_143 : decode cL_refuses 143 = .ok (.iconst 0, 1) := by decide +kernel
theorem dL_refuses_144 : decode cL_refuses 144 = .ok (.invokevirtual 57, 3) := by decide +kernel
theorem dL_refuses_147 : decode cL_refuses 147 = .ok (.iconst (-1), 1) := by decide +kernel
theorem dL_refuses_148 : decode cL_refuses 148 = .ok (.if_icmp .ne 239, 3) := by decide +kernel
theorem dL_refuses_151 : decode cL_refuses 151 = .ok (.aload_n 0, 1) := by decide +kernel
theorem dL_refuses_152 : decode cL_refuses 152 = .ok (.iconst 0, 1) := by decide +kernel
theorem dL_refuses_153 : decode cL_refuses 153 = .ok (.iconst 4, 1) := by decide +kernel
theorem dL_refuses_154 : decode cL_refuses 154 = .ok (.invokevirtual 57, 3) := by decide +kernel
theorem dL_refuses_157 : decode cL_refuses 157 = .ok (.iconst (-1), 1) := by decide +kernel
theorem dL_refuses_158 : decode cL_refuses 158 = .ok (.if_icmp .ne 229, 3) := by decide +kernel
theorem dL_refuses_161 : decode cL_refuses 161 = .ok (.aload_n 0, 1) := by decide +kernel
theorem dL_refuses_162 : decode cL_refuses 162 = .ok (.iconst 1, 1) := by decide +kernel
theorem dL_refuses_163 : decode cL_refuses 163 = .ok (.bipush 19, 2) := by decide +kernel
theorem dL_refuses_165 : decode cL_refuses 165 = .ok (.invokevirtual 57, 3) := by decide +kernel
