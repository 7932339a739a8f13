set_option maxRecDepth 20000 in
theorem gL_side_X8_card : GoodIn wsL_side (wsV RL 17 RX8 yX8_card wsX8_card) := goodIn_app (goodIn_of _ (by decide +kernel)) ggL_side_X8_card
set_option maxRecDepth 20000 in
theorem ggL_side_X8_count : GoodIn wsL_side wsX8_count := goodIn_r _ [229, 9, 10, 7, 230, 231, 17, 18, 19, 5, 20, 21, 22, 23, 24, 25, 26, 27, 28, 29, 30, 31, 32, 33, 34, 35, 36, 37, 38, 39, 40, 41, 42, 43, 44, 45, 46, 47, 48, 49, 50, 51, 52, 53, 54, 55, 56, 57, 58, 59, 60, 61, 62, 63, 64, 65, 66, 67, 68, 69, 70, 71, 72, 73, 74, 75, 76, 77, 78, 79, 80, 81, 82, 83, 84, 85, 86, 87, 88, 89, 90, 91, 92, 93, 94, 95, 96, 97, 98, 99, 100, 101, 102, 103, 104, 105, 106, 107, 108, 109, 110, 111, 112, 113, 114, 115, 116, 117, 118, 119, 120, 121, 122, 123, 124, 125, 126, 127, 128, 129, 130, 131, 132, 133, 134, 135, 136, 137, 138, 139, 140, 141, 142, 232, 143, 233, 234, 235, 236, 12, 13, 14, 15, 16, 220, 237, 238, 239, 240, 241, 242, 243, 244, 281, 282, 283, 284, 285, 286, 287, 288, 289, 290, 291, 292, 297, 298, 299, 300, 301, 302, 303, 304, 305, 306, 307, 308, 309, 317, 318, 319, 320, 321, 322, 323, 293, 294, 295, 296] (by decide +kernel) (by decide +kernel)
set_option maxRecDepth 20000 in
theorem gL_side_X8_count : GoodIn wsL_side (wsV RL 21 RX8 yX8_count wsX8_count) := goodIn_app (goodIn_of _ (by decide +kernel)) ggL_side_X8_count
set_option maxRecDepth 20000 in
theorem ggL_side_X8_dish : GoodIn wsL_side wsX8_dish := goodIn_r _ [248, 9, 10, 249, 250, 251, 24, 252, 52, 15, 5, 16, 14, 211, 54, 55, 56, 57, 17, 18, 19, 20, 7, 21, 22, 23, 25, 26, 27, 28, 29, 30, 31, 32, 33, 34, 35, 36, 37, 38, 39, 40, 41, 42, 43, 44, 45, 46, 47, 48, 49, 50, 51, 53, 58, 59, 60, 61, 62, 63, 64, 65, 66, 67, 68, 69, 70, 71, 72, 73, 74, 75, 76, 77, 78, 79, 80, 81, 82, 83, 84, 85, 86, 87, 88, 89, 90, 91, 92, 93, 94, 95, 96, 97, 98, 99, 100, 101, 102, 103, 104, 105, 106, 107, 108, 109, 110, 111, 112, 113, 114, 115, 116, 117, 118, 119, 120, 121, 122, 123, 124, 125, 126, 127, 128, 129, 130, 131, 132, 133, 134, 135, 136, 137, 138, 139, 140, 141, 142, 219, 210, 253, 254, 255, 256, 8, 225, 144, 145, 146, 147, 148, 149, 150, 151, 152, 153, 154, 155, 156, 157, 158, 159, 160, 161, 162, 163, 164, 165, 166, 167, 168, 169, 170, 171, 172, 173, 174, 175, 176, 257, 258, 259, 260, 193, 194, 195, 196, 185, 186, 187, 188, 281, 282, 283, 284, 285, 286, 287, 288, 289, 290, 291, 292, 297, 298, 299, 300, 301, 302, 303, 304, 293, 294, 295, 296, 305, 306, 307, 308, 309, 310, 311, 312, 313, 314, 315, 316] (by decide +kernel) (by decide +kernel)
set_option maxRecDepth 20000 in
theorem gL_side_X8_dish : GoodIn wsL_side (wsV RL 24 RX8 yX8_dish wsX8_dish) := goodIn_app (goodIn_of _ (by decide +kernel)) ggL_side_X8_dish
set_option maxRecDepth 20000 in
theorem ggL_side_X8_why : GoodIn wsL_side wsX8_why := goodIn_r _ [264, 9, 10, 249, 250, 251, 24, 252, 52, 15, 5, 16, 265, 59, 60, 61, 62, 54, 55, 56, 57, 21, 22, 23, 25, 26, 266, 68, 69, 70, 71, 72, 267, 74, 75, 76, 268, 269, 270, 271, 27, 28, 29, 30, 31, 32, 33, 34, 35, 36, 37, 38, 39, 40, 41, 42, 43, 44, 45, 46, 47, 48, 49, 50, 51, 53, 58, 63, 64, 65, 66, 67, 73, 77, 78, 79, 80, 81, 82, 83, 84, 85, 86, 87, 88, 89, 90, 91, 92, 93, 94, 95, 96, 97, 98, 99, 100, 101, 219, 281, 282, 283, 284, 285, 286, 287, 288, 289, 290, 291, 292, 297, 298, 299, 300, 301, 302, 303, 304, 293, 294, 295, 296] (by decide +kernel) (by decide +kernel)
set_option maxRecDepth 20000 in
theorem gL_side_X8_why : GoodIn wsL_side (wsV RL 28 RX8 yX8_why wsX8_why) := goodIn_app (goodIn_of _ (by decide +kernel)) ggL_side_X8_why
set_option maxRecDepth 20000 in
theorem ggL_side_L_size : GoodIn wsL_side wsL_size := goodIn_r _ [275] (by decide +kernel) (by decide +kernel)
set_option maxRecDepth 20000 in
theorem gL_side_L_size : GoodIn wsL_side (va_wsS RL 31 yL_size wsL_size) := goodIn_app (goodIn_of _ (by decide +kernel)) ggL_side_L_size
set_option maxRecDepth 20000 in
theorem ggL_side_X8_account : GoodIn wsL_side wsX8_account := goodIn_r _ [279, 7, 11, 12, 5, 13, 14, 15, 16, 17, 18, 19, 20, 10, 9, 21, 22, 23, 24, 25, 26, 27, 28, 29, 30, 31, 32, 33, 34, 35, 36, 37, 38, 39, 40, 41, 42, 43, 44, 45, 46, 47, 48, 49, 50, 51, 52, 53, 54, 55, 56, 57, 58, 59, 60, 61, 62, 63, 64, 65, 66, 67, 68, 69, 70, 71, 72, 73, 74, 75, 76, 77, 78, 79, 80, 81, 82, 83, 84, 85, 86, 87, 88, 89, 90, 91, 92, 93, 94, 95, 96, 97, 98, 99, 100, 101, 102, 103, 104, 105, 106, 107, 108, 109, 110, 111, 112, 113, 114, 115, 116, 117, 118, 119, 120, 121, 122, 123, 124, 125, 126, 127, 128, 129, 130, 131, 132, 133, 134, 135, 136, 137, 138, 139, 140, 141, 142, 280, 281, 282, 283, 284, 285, 286, 287, 288, 289, 290, 291, 292, 293, 294, 295, 296, 297, 298, 299, 300, 301, 302, 303, 304, 305, 306, 307, 308, 309] (by decide +kernel) (by decide +kernel)
set_option maxRecDepth 20000 in
theorem gL_side_X8_account : GoodIn wsL_side (wsV RL 34 RX8 yX8_account wsX8_account) := goodIn_app (goodIn_of _ (by decide +kernel)) ggL_side_X8_account
theorem dL_side_0 : decode cL_side 0 = .ok (.iconst 0, 1) := by decide +kernel
theorem dL_side_1 : decode cL_side 1 = .ok (.istore_n 2, 1) := by decide +kernel
theorem dL_side_2 : decode cL_side 2 = .ok (.iconst 0, 1) := by decide +kernel
theorem dL_side_3 : decode cL_side 3 = .ok (.istore_n 3, 1) := by decide +kernel
theorem dL_side_4 : decode cL_side 4 = .ok (.iconst 0, 1) := by decide +kernel
theorem dL_side_5 : decode cL_side 5 = .ok (.istore 4, 2) := by decide +kernel
theorem dL_side_7 : decode cL_side 7 = .ok (.iconst 4, 1) := by decide +kernel
theorem dL_side_8 : decode cL_side 8 = .ok (.newarray .int, 2) := by decide +kernel
theorem dL_side_10 : decode cL_side 10 = .ok (.astore 5, 2) := by decide +kernel
theorem dL_side_12 : decode cL_side 12 = .ok (.bipush 20, 2) := by decide +kernel
theorem dL_side_14 : decode cL_side 14 = .ok (.newarray .int, 2) := by decide +kernel
theorem dL_side_16 : decode cL_side 16 = .ok (.astore 6, 2) := by decide +kernel
theorem dL_side_18 : decode cL_side 18 = .ok (.iconst 1, 1) := by decide +kernel
theorem dL_side_19 : decode cL_side 19 = .ok (.istore 7, 2) := by decide +kernel
theorem dL_side_21 : decode cL_side 21 = .ok (.iload 7, 2) := by decide +kernel
theorem dL_side_23 : decode cL_side 23 = .ok (.ifCond .eq 319, 3) := by decide +kernel
theorem dL_side_26 : decode cL_side 26 = .ok (.aload_n 0, 1) := by decide +kernel
theorem dL_side_27 : decode cL_side 27 = .ok (.iload_n 1, 1) := by decide +kernel
theorem dL_side_28 : decode cL_side 28 = .ok (.iload_n 2, 1) := by decide +kernel
theorem dL_side_29 : decode cL_side 29 = .ok (.iconst 0, 1) := by decide +kernel
theorem dL_side_30 : decode cL_side 30 = .ok (.invokevirtual 9, 3) := by decide +kernel
theorem dL_side_33 : decode cL_side 33 = .ok (.istore 8, 2) := by decide +kernel
theorem dL_side_35 : decode cL_side 35 = .ok (.iload 8, 2) := by decide +kernel
theorem dL_side_37 : decode cL_side 37 = .ok (.bipush (-99), 2) := by decide +kernel
theorem dL_side_39 : decode cL_side 39 = .ok (.if_icmp .eq 7, 3) := by decide +kernel
theorem dL_side_42 : decode cL_side 42 = .ok (.iconst 1, 1) := by decide +kernel
theorem dL_side_43 : decode cL_side 43 = .ok (.goto 4, 3) := by decide +kernel
theorem dL_side_46 : decode cL_side 46 = .ok (.iconst 0, 1) := by decide +kernel
theorem dL_side_47 : decode cL_side 47 = .ok (.istore 7, 2) := by decide +kernel
theorem dL_side_49 : decode cL_side 49 = .ok (.iload 7, 2) := by decide +kernel
theorem dL_side_51 : decode cL_side 51 = .ok (.ifCond .eq 288, 3) := by decide +kernel
theorem dL_side_54 : decode cL_side 54 = .ok (.aload_n 0, 1) := by decide +kernel
theorem dL_side_55 : decode cL_side 55 = .ok (.iload_n 1, 1) := by decide +kernel
theorem dL_side_56 : decode cL_side 56 = .ok (.iload_n 2, 1) := by decide +kernel
theorem dL_side_57 : decode cL_side 57 = .ok (.iconst 1, 1) := by decide +kernel
theorem dL_side_58 : decode cL_side 58 = .ok (.invokevirtual 9, 3) := by decide +kernel
theorem dL_side_61 : decode cL_side 61 = .ok (.istore 9, 2) := by decide +kernel
theorem dL_side_63 : decode cL_side 63 = .ok (.aload_n 0, 1) := by decide +kernel
theorem dL_side_64 : decode cL_side 64 = .ok (.iload_n 1, 1) := by decide +kernel
theorem dL_side_65 : decode cL_side 65 = .ok (.iload_n 2, 1) := by decide +kernel
theorem dL_side_66 : decode cL_side 66 = .ok (.iconst 2, 1) := by decide +kernel
theorem dL_side_67 : decode cL_side 67 = .ok (.invokevirtual 9, 3) := by decide +kernel
theorem dL_side_70 : decode cL_side 70 = .ok (.istore 10, 2) := by decide +kernel
theorem dL_side_72 : decode cL_side 72 = .ok (.aload 5, 2) := by decide +kernel
theorem dL_side_74 : decode cL_side 74 = .ok (.iload 8, 2) := by decide +kernel
theorem dL_side_76 : decode cL_side 76 = .ok (.dup2, 1) := by decide +kernel
theorem dL_side_77 : decode cL_side 77 = .ok (.iaload, 1) := by decide +kernel
theorem dL_side_78 : decode cL_side 78 = .ok (.iconst 1, 1) := by decide +kernel
theorem dL_side_79 : decode cL_side 79 = .ok (.iadd, 1) := by decide +kernel
theorem dL_side_80 : decode cL_side 80 = .ok (.iastore, 1) := by decide +kernel
theorem dL_side_81 : decode cL_side 81 = .ok (.iload 4, 2) := by decide +kernel
theorem dL_side_83 : decode cL_side 83 = .ok (.iload 8, 2) := by decide +kernel
theorem dL_side_85 : decode cL_side 85 = .ok (.ifCond .ne 7, 3) := by decide +kernel
theorem dL_side_88 : decode cL_side 88 = .ok (.iconst 1, 1) := by decide +kernel
theorem dL_side_89 : decode cL_side 89 = .ok (.goto 4, 3) := by decide +kernel
theorem dL_side_92 : decode cL_side 92 = .ok (.iconst 0, 1) := by decide +kernel
theorem dL_side_93 : decode cL_side 93 = .ok (.iadd, 1) := by decide +kernel
theorem dL_side_94 : decode cL_side 94 = .ok (.istore 4, 2) := by decide +kernel
theorem dL_side_96 : decode cL_side 96 = .ok (.iload_n 3, 1) := by decide +kernel
theorem dL_side_97 : decode cL_side 97 = .ok (.aload_n 0, 1) := by decide +kernel
theorem dL_side_98 : decode cL_side 98 = .ok (.iload_n 1, 1) := by decide +kernel
theorem dL_side_99 : decode cL_side 99 = .ok (.iload_n 2, 1) := by decide +kernel
theorem dL_side_100 : decode cL_side 100 = .ok (.iconst 3, 1) := by decide +kernel
theorem dL_side_101 : decode cL_side 101 = .ok (.invokevirtual 9, 3) := by decide +kernel
theorem dL_side_104 : decode cL_side 104 = .ok (.iadd, 1) := by decide +kernel
