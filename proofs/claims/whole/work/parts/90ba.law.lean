set_option maxRecDepth 20000 in
theorem ggL_law_X8_init : GoodIn wsL_law wsX8_init := wsL_good (goodIn_r _ [8, 9, 10, 11, 12, 13, 14, 15, 16, 17, 18, 19, 20, 21, 22, 23, 24, 25, 26, 27, 28, 29, 30, 31, 32, 33, 34, 35, 36, 37, 38, 39, 40, 41, 42, 43, 44, 45, 46, 47, 48, 49, 50, 51, 52, 53, 54, 55, 56, 57, 58, 59, 60, 61, 62, 63, 64, 65, 66, 67, 68, 69, 70, 71, 72, 73, 74, 75, 76, 77, 78, 79, 80, 81, 82, 83, 84, 85, 86, 87, 88, 89, 90, 91, 92, 93, 94, 95, 96, 97, 98, 1097, 1098, 1099, 1061, 1062, 1063, 1064, 1065, 1066, 1067, 1068, 1069, 1100, 1101, 1102, 1103, 1104, 1105, 1106, 1107, 1108, 1109, 1110, 1111, 1112, 1113, 1114, 1115, 1116, 1117, 1118, 1119, 1120, 1121, 1122, 1123, 1124, 1125, 1126, 1127, 1128, 1129, 1130, 1131, 1132, 1133, 1134, 1135] (by decide +kernel) (by decide +kernel))
set_option maxRecDepth 20000 in
theorem gL_law_X8_init : GoodIn wsL_law (wsX8_init) := ggL_law_X8_init
set_option maxRecDepth 20000 in
theorem ggL_law_X9_init : GoodIn wsL_law wsX9_init := wsL_good (goodIn_r _ [101, 102, 10, 11, 55, 103, 104, 105, 106, 107, 108, 109, 110, 111, 112, 113, 114, 115, 96, 116, 117, 1070, 1071, 1072, 1073, 1074, 1075, 1076, 1077, 1078, 1079, 1080, 1081, 1082, 1083, 1084, 1085, 1086, 1087, 1088, 1089, 1090, 1091, 1092, 1093, 1094, 1095, 1096] (by decide +kernel) (by decide +kernel))
set_option maxRecDepth 20000 in
theorem gL_law_X9_init : GoodIn wsL_law (wsX9_init) := ggL_law_X9_init
set_option maxRecDepth 20000 in
theorem ggL_law_X8_addDish : GoodIn wsL_law wsX8_addDish := wsL_good (goodIn_r _ [121, 15, 19, 122, 123, 2, 124, 125, 126, 127, 128, 129, 130, 131, 132, 22, 133, 58, 134, 135, 136, 18, 137, 65, 64, 138, 139, 140, 141, 142, 143, 144, 14, 145, 49, 50, 51, 146, 147, 148, 149, 56, 150, 151, 152, 153, 57, 59, 154, 155, 156, 157, 158, 159, 160, 161, 162, 163, 164, 165, 166, 1061, 1062, 1063, 1064, 1065, 1066, 1067, 1068, 1069, 1097, 1098, 1099, 1102, 1103, 1104, 1105, 1100, 1101] (by decide +kernel) (by decide +kernel))
set_option maxRecDepth 20000 in
theorem gL_law_X8_addDish : GoodIn wsL_law (wsV RL 13 RX8 yX8_addDish wsX8_addDish) := goodIn_app (goodIn_of _ (by decide +kernel)) ggL_law_X8_addDish
set_option maxRecDepth 20000 in
theorem ggL_law_X9_addDish : GoodIn wsL_law wsX9_addDish := wsL_good (goodIn_r _ [170, 103, 171, 172, 5, 173, 174, 175, 176, 177, 178, 179, 180, 181, 105, 182, 183, 184, 185, 186, 187, 1070, 1071, 1072, 1073, 1074, 1075, 1076, 1077, 1078, 1079, 1080, 1081, 1082, 1083, 1084, 1085, 1086, 1087, 1088, 1089, 1090, 1091, 1092, 1093, 1094, 1095, 1096] (by decide +kernel) (by decide +kernel))
set_option maxRecDepth 20000 in
theorem gL_law_X9_addDish : GoodIn wsL_law (wsV RL 17 RX9 yX9_addDish wsX9_addDish) := goodIn_app (goodIn_of _ (by decide +kernel)) ggL_law_X9_addDish
set_option maxRecDepth 20000 in
theorem ggL_law_X8_removeDish : GoodIn wsL_law wsX8_removeDish := wsL_good (goodIn_r _ [191, 15, 19, 192, 164, 165, 22, 166, 58, 128, 2, 129, 134, 135, 136, 18, 137, 65, 64, 138, 139, 140, 141, 142, 143, 144, 14, 145, 49, 50, 51, 146, 147, 148, 149, 56, 150, 151, 152, 153, 57, 59, 193, 194, 195, 196, 163, 197, 198, 199, 200, 1061, 1062, 1063, 1064, 1065, 1066, 1067, 1068, 1069, 1097, 1098, 1099, 1102, 1103, 1104, 1105, 1100, 1101] (by decide +kernel) (by decide +kernel))
set_option maxRecDepth 20000 in
theorem gL_law_X8_removeDish : GoodIn wsL_law (wsV RL 18 RX8 yX8_removeDish wsX8_removeDish) := goodIn_app (goodIn_of _ (by decide +kernel)) ggL_law_X8_removeDish
set_option maxRecDepth 20000 in
theorem ggL_law_X9_removeDish : GoodIn wsL_law wsX9_removeDish := wsL_good (goodIn_r _ [204, 103, 205, 206, 207, 5, 208, 174, 175, 176, 177, 178, 179, 180, 181, 105, 182, 183, 184, 1070, 1071, 1072, 1073, 1074, 1075, 1076, 1077, 1078, 1079, 1080, 1081, 1082, 1083, 1084, 1085, 1086, 1087, 1088, 1089, 1090, 1091, 1092, 1093, 1094, 1095, 1096] (by decide +kernel) (by decide +kernel))
set_option maxRecDepth 20000 in
theorem gL_law_X9_removeDish : GoodIn wsL_law (wsV RL 22 RX9 yX9_removeDish wsX9_removeDish) := goodIn_app (goodIn_of _ (by decide +kernel)) ggL_law_X9_removeDish
