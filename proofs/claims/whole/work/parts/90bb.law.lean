set_option maxRecDepth 20000 in
theorem ggL_law_X8_setDish : GoodIn wsL_law wsX8_setDish := wsL_good (goodIn_r _ [212, 15, 19, 192, 164, 165, 22, 166, 58, 128, 2, 129, 122, 123, 124, 125, 126, 127, 134, 135, 136, 18, 137, 65, 64, 138, 139, 140, 141, 142, 143, 144, 14, 145, 49, 50, 51, 146, 147, 148, 149, 56, 150, 151, 152, 153, 57, 59, 213, 214, 215, 216, 159, 160, 161, 162, 163, 1061, 1062, 1063, 1064, 1065, 1066, 1067, 1068, 1069, 1097, 1098, 1099, 1102, 1103, 1104, 1105, 1100, 1101] (by decide +kernel) (by decide +kernel))
set_option maxRecDepth 20000 in
theorem gL_law_X8_setDish : GoodIn wsL_law (wsV RL 23 RX8 yX8_setDish wsX8_setDish) := goodIn_app (goodIn_of _ (by decide +kernel)) ggL_law_X8_setDish
set_option maxRecDepth 20000 in
theorem ggL_law_X9_setDish : GoodIn wsL_law wsX9_setDish := wsL_good (goodIn_r _ [220, 103, 205, 206, 207, 5, 208, 174, 175, 176, 171, 172, 173, 177, 178, 179, 180, 181, 105, 182, 183, 184, 221, 222, 223, 224, 1070, 1071, 1072, 1073, 1074, 1075, 1076, 1077, 1078, 1079, 1080, 1081, 1082, 1083, 1084, 1085, 1086, 1087, 1088, 1089, 1090, 1091, 1092, 1093, 1094, 1095, 1096] (by decide +kernel) (by decide +kernel))
set_option maxRecDepth 20000 in
theorem gL_law_X9_setDish : GoodIn wsL_law (wsV RL 27 RX9 yX9_setDish wsX9_setDish) := goodIn_app (goodIn_of _ (by decide +kernel)) ggL_law_X9_setDish
set_option maxRecDepth 20000 in
theorem ggL_law_X8_setCard : GoodIn wsL_law wsX8_setCard := wsL_good (goodIn_r _ [228, 19, 15, 229, 230, 2, 231, 232, 233, 127, 128, 129, 134, 135, 136, 18, 137, 65, 64, 138, 139, 140, 141, 142, 143, 144, 14, 145, 49, 50, 51, 146, 147, 148, 22, 149, 56, 150, 151, 152, 153, 57, 58, 59, 234, 235, 236, 237, 238, 239, 240, 241, 1061, 1062, 1063, 1064, 1065, 1066, 1067, 1068, 1069, 1097, 1098, 1099, 1100, 1101, 1102, 1103, 1104, 1105] (by decide +kernel) (by decide +kernel))
set_option maxRecDepth 20000 in
theorem gL_law_X8_setCard : GoodIn wsL_law (wsV RL 28 RX8 yX8_setCard wsX8_setCard) := goodIn_app (goodIn_of _ (by decide +kernel)) ggL_law_X8_setCard
set_option maxRecDepth 20000 in
theorem ggL_law_X9_setCard : GoodIn wsL_law wsX9_setCard := wsL_good (goodIn_r _ [245, 103, 246, 247, 5, 248, 174, 175, 176, 177, 178, 179, 180, 181, 105, 182, 183, 184, 1070, 1071, 1072, 1073, 1074, 1075, 1076, 1077, 1078, 1079, 1080, 1081, 1082, 1083, 1084, 1085, 1086, 1087, 1088, 1089, 1090, 1091, 1092, 1093, 1094, 1095, 1096] (by decide +kernel) (by decide +kernel))
set_option maxRecDepth 20000 in
theorem gL_law_X9_setCard : GoodIn wsL_law (wsV RL 32 RX9 yX9_setCard wsX9_setCard) := goodIn_app (goodIn_of _ (by decide +kernel)) ggL_law_X9_setCard
set_option maxRecDepth 20000 in
theorem ggL_law_X8_setSide : GoodIn wsL_law wsX8_setSide := wsL_good (goodIn_r _ [252, 19, 15, 127, 128, 2, 129, 253, 254, 255, 134, 135, 136, 18, 137, 65, 64, 138, 139, 140, 141, 142, 143, 144, 14, 145, 49, 50, 51, 146, 147, 148, 22, 149, 56, 150, 151, 152, 153, 57, 58, 59, 256, 257, 258, 259, 260, 261, 262, 1061, 1062, 1063, 1064, 1065, 1066, 1067, 1068, 1069, 1097, 1098, 1099, 1102, 1103, 1104, 1105, 1100, 1101] (by decide +kernel) (by decide +kernel))
set_option maxRecDepth 20000 in
theorem gL_law_X8_setSide : GoodIn wsL_law (wsV RL 33 RX8 yX8_setSide wsX8_setSide) := goodIn_app (goodIn_of _ (by decide +kernel)) ggL_law_X8_setSide
set_option maxRecDepth 20000 in
theorem ggL_law_X9_setSide : GoodIn wsL_law wsX9_setSide := wsL_good (goodIn_r _ [266, 103, 174, 175, 5, 176, 177, 178, 179, 180, 181, 105, 182, 183, 184, 1070, 1071, 1072, 1073, 1074, 1075, 1076, 1077, 1078, 1079, 1080, 1081, 1082, 1083, 1084, 1085, 1086, 1087, 1088, 1089, 1090, 1091, 1092, 1093, 1094, 1095, 1096] (by decide +kernel) (by decide +kernel))
set_option maxRecDepth 20000 in
theorem gL_law_X9_setSide : GoodIn wsL_law (wsV RL 36 RX9 yX9_setSide wsX9_setSide) := goodIn_app (goodIn_of _ (by decide +kernel)) ggL_law_X9_setSide
