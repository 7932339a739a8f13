set_option maxRecDepth 20000 in
theorem ggL_law_X8_restore : GoodIn wsL_law wsX8_restore := wsL_good (goodIn_r _ [622, 15, 19, 31, 608, 609, 2, 610, 127, 128, 129, 623, 624, 625, 14, 626, 51, 307, 308, 134, 135, 136, 18, 137, 65, 64, 138, 139, 140, 141, 142, 143, 144, 145, 49, 50, 146, 147, 148, 22, 149, 56, 150, 151, 152, 153, 57, 58, 59, 627, 628, 629, 630, 631, 271, 272, 273, 274, 234, 235, 236, 237, 275, 276, 277, 30, 278, 75, 279, 280, 281, 282, 283, 284, 285, 286, 287, 288, 289, 290, 291, 76, 77, 292, 198, 199, 200, 293, 214, 215, 216, 294, 295, 296, 297, 298, 299, 300, 301, 302, 303, 304, 305, 306, 309, 310, 311, 312, 313, 314, 315, 316, 317, 318, 319, 320, 321, 322, 323, 324, 325, 326, 327, 328, 329, 330, 331, 332, 333, 334, 335, 336, 337, 1061, 1062, 1063, 1064, 1065, 1066, 1067, 1068, 1069, 1097, 1098, 1099, 1111, 1112, 1113, 1114, 1115, 1116, 1117, 1118, 1100, 1101, 1102, 1103, 1104, 1105] (by decide +kernel) (by decide +kernel))
set_option maxRecDepth 20000 in
theorem gL_law_X8_restore : GoodIn wsL_law (wsV RL 50 RX8 yX8_restore wsX8_restore) := goodIn_app (goodIn_of _ (by decide +kernel)) ggL_law_X8_restore
set_option maxRecDepth 20000 in
theorem ggL_law_X9_restore : GoodIn wsL_law wsX9_restore := wsL_good (goodIn_r _ [635, 103, 174, 175, 5, 176, 177, 178, 179, 180, 181, 105, 182, 183, 184, 422, 423, 424, 425, 426, 427, 428, 429, 430, 431, 432, 433, 434, 435, 436, 437, 221, 222, 223, 224, 438, 439, 440, 441, 442, 443, 444, 464, 465, 466, 1070, 1071, 1072, 1073, 1074, 1075, 1076, 1077, 1078, 1079, 1080, 1081, 1082, 1083, 1084, 1085, 1086, 1087, 1088, 1089, 1090, 1091, 1092, 1093, 1094, 1095, 1096] (by decide +kernel) (by decide +kernel))
set_option maxRecDepth 20000 in
theorem gL_law_X9_restore : GoodIn wsL_law (wsV RL 53 RX9 yX9_restore wsX9_restore) := goodIn_app (goodIn_of _ (by decide +kernel)) ggL_law_X9_restore
set_option maxRecDepth 20000 in
theorem ggL_law_X8_undo : GoodIn wsL_law wsX8_undo := wsL_good (goodIn_r _ [639, 19, 15, 640, 641, 642, 18, 643, 65, 64, 142, 143, 144, 14, 145, 49, 50, 51, 146, 147, 148, 22, 149, 56, 150, 151, 152, 153, 57, 58, 59, 1061, 1062, 1063, 1064, 1065, 1066, 1067, 1068, 1069, 1100, 1101, 1097, 1098, 1099, 1102, 1103, 1104, 1105] (by decide +kernel) (by decide +kernel))
set_option maxRecDepth 20000 in
theorem gL_law_X8_undo : GoodIn wsL_law (wsV RL 54 RX8 yX8_undo wsX8_undo) := goodIn_app (goodIn_of _ (by decide +kernel)) ggL_law_X8_undo
set_option maxRecDepth 20000 in
theorem ggL_law_X9_undo : GoodIn wsL_law wsX9_undo := wsL_good (goodIn_r _ [647, 181, 105, 103, 182, 183, 5, 184, 1070, 1071, 1072, 1073, 1074, 1075, 1076, 1077, 1078, 1079, 1080, 1081, 1082, 1083, 1084, 1085, 1086, 1087, 1088, 1089, 1090, 1091, 1092, 1093, 1094, 1095, 1096] (by decide +kernel) (by decide +kernel))
set_option maxRecDepth 20000 in
theorem gL_law_X9_undo : GoodIn wsL_law (wsV RL 57 RX9 yX9_undo wsX9_undo) := goodIn_app (goodIn_of _ (by decide +kernel)) ggL_law_X9_undo
set_option maxRecDepth 20000 in
theorem ggL_law_X8_append : GoodIn wsL_law wsX8_append := wsL_good (goodIn_r _ [651, 27, 127, 128, 2, 129, 652, 653, 654, 26, 655, 71, 69, 1061, 1062, 1063, 1064, 1065, 1066, 1067, 1068, 1069, 1106, 1107, 1108, 1109, 1110] (by decide +kernel) (by decide +kernel))
set_option maxRecDepth 20000 in
theorem gL_law_X8_append : GoodIn wsL_law (wsV RL 58 RX8 yX8_append wsX8_append) := goodIn_app (goodIn_of _ (by decide +kernel)) ggL_law_X8_append
set_option maxRecDepth 20000 in
theorem ggL_law_X9_append : GoodIn wsL_law wsX9_append := wsL_good (goodIn_r _ [659, 660, 106, 174, 175, 5, 176, 1070, 1071, 1072, 1073, 1074, 1075, 1076, 1077, 1078, 1079, 1080, 1081, 1082, 1083, 1084, 1085, 1086, 1087, 1088, 1089, 1090, 1091, 1092, 1093, 1094, 1095, 1096] (by decide +kernel) (by decide +kernel))
set_option maxRecDepth 20000 in
theorem gL_law_X9_append : GoodIn wsL_law (wsV RL 61 RX9 yX9_append wsX9_append) := goodIn_app (goodIn_of _ (by decide +kernel)) ggL_law_X9_append
