set_option maxRecDepth 20000 in
theorem ggL_acts_X8_card : GoodIn wsL_acts wsX8_card := goodIn_r _ [165, 11, 150, 151, 9, 152, 20, 21, 22, 23, 24, 25, 166, 118, 119, 381, 382, 383, 384, 385, 386, 387, 388, 389, 390, 391, 392, 413, 414, 415, 416] (by decide +kernel) (by decide +kernel)
set_option maxRecDepth 20000 in
theorem gL_acts_X8_card : GoodIn wsL_acts (wsV RL 17 RX8 yX8_card wsX8_card) := goodIn_app (goodIn_of _ (by decide +kernel)) ggL_acts_X8_card
set_option maxRecDepth 20000 in
theorem ggL_acts_X8_addDish : GoodIn wsL_acts wsX8_addDish := goodIn_r _ [170, 11, 14, 171, 172, 9, 173, 174, 175, 150, 151, 152, 176, 177, 178, 23, 179, 51, 180, 181, 182, 183, 184, 185, 186, 187, 188, 189, 190, 191, 192, 193, 194, 195, 196, 197, 198, 199, 200, 201, 202, 56, 203, 204, 205, 206, 25, 207, 208, 209, 210, 211, 212, 213, 214, 215, 216, 217, 218, 219, 220, 381, 382, 383, 384, 385, 386, 387, 388, 389, 390, 391, 392, 413, 414, 415, 416, 406, 407] (by decide +kernel) (by decide +kernel)
set_option maxRecDepth 20000 in
theorem gL_acts_X8_addDish : GoodIn wsL_acts (wsV RL 47 RX8 yX8_addDish wsX8_addDish) := goodIn_app (goodIn_of _ (by decide +kernel)) ggL_acts_X8_addDish
set_option maxRecDepth 20000 in
theorem ggL_acts_X8_dish : GoodIn wsL_acts wsX8_dish := goodIn_r _ [224, 11, 12, 225, 218, 219, 23, 220, 51, 151, 9, 152, 150, 226, 53, 54, 55, 56, 16, 17, 18, 19, 13, 20, 21, 22, 24, 25, 26, 27, 28, 29, 30, 31, 32, 33, 34, 35, 36, 37, 38, 39, 40, 41, 42, 43, 44, 45, 46, 47, 48, 49, 50, 52, 57, 58, 59, 60, 61, 62, 63, 64, 65, 66, 67, 68, 69, 70, 71, 72, 73, 74, 75, 76, 77, 78, 79, 80, 81, 82, 83, 84, 85, 86, 87, 88, 89, 90, 91, 92, 93, 94, 95, 96, 97, 98, 99, 100, 101, 102, 103, 104, 105, 106, 107, 108, 109, 110, 111, 112, 113, 114, 115, 116, 117, 118, 119, 120, 121, 122, 123, 124, 125, 126, 127, 128, 129, 130, 131, 132, 133, 134, 135, 136, 137, 138, 139, 140, 141, 227, 228, 229, 230, 231, 232, 233, 166, 234, 235, 236, 237, 238, 239, 240, 241, 242, 243, 244, 245, 246, 247, 248, 249, 250, 251, 252, 253, 254, 255, 256, 257, 258, 259, 260, 261, 262, 263, 264, 265, 266, 267, 268, 269, 270, 271, 272, 273, 274, 275, 276, 277, 278, 381, 382, 383, 384, 385, 386, 387, 388, 389, 390, 391, 392, 393, 394, 395, 396, 397, 398, 399, 400, 413, 414, 415, 416, 401, 402, 403, 404, 405, 417, 418, 419, 420, 421, 422, 423] (by decide +kernel) (by decide +kernel)
set_option maxRecDepth 20000 in
theorem gL_acts_X8_dish : GoodIn wsL_acts (wsV RL 24 RX8 yX8_dish wsX8_dish) := goodIn_app (goodIn_of _ (by decide +kernel)) ggL_acts_X8_dish
set_option maxRecDepth 20000 in
theorem ggL_acts_X8_removeDish : GoodIn wsL_acts wsX8_removeDish := goodIn_r _ [282, 11, 14, 225, 218, 219, 23, 220, 51, 151, 9, 152, 180, 181, 182, 183, 184, 185, 186, 187, 188, 189, 190, 191, 192, 193, 194, 195, 196, 197, 198, 199, 200, 201, 202, 56, 203, 204, 205, 206, 25, 207, 283, 284, 285, 286, 217, 142, 48, 49, 50, 381, 382, 383, 384, 385, 386, 387, 388, 389, 390, 391, 392, 413, 414, 415, 416, 406, 407] (by decide +kernel) (by decide +kernel)
set_option maxRecDepth 20000 in
theorem gL_acts_X8_removeDish : GoodIn wsL_acts (wsV RL 51 RX8 yX8_removeDish wsX8_removeDish) := goodIn_app (goodIn_of _ (by decide +kernel)) ggL_acts_X8_removeDish
set_option maxRecDepth 20000 in
theorem ggL_acts_X8_undo : GoodIn wsL_acts wsX8_undo := goodIn_r _ [290, 14, 11, 291, 292, 293, 183, 294, 185, 186, 191, 192, 193, 194, 195, 196, 197, 198, 199, 200, 201, 23, 202, 56, 203, 204, 205, 206, 25, 51, 207, 381, 382, 383, 384, 385, 386, 387, 388, 389, 406, 407, 390, 391, 392, 413, 414, 415, 416] (by decide +kernel) (by decide +kernel)
set_option maxRecDepth 20000 in
theorem gL_acts_X8_undo : GoodIn wsL_acts (wsV RL 88 RX8 yX8_undo wsX8_undo) := goodIn_app (goodIn_of _ (by decide +kernel)) ggL_acts_X8_undo
set_option maxRecDepth 20000 in
theorem ggL_acts_X8_setDish : GoodIn wsL_acts wsX8_setDish := goodIn_r _ [298, 11, 14, 225, 218, 219, 23, 220, 51, 151, 9, 152, 171, 172, 173, 174, 175, 150, 180, 181, 182, 183, 184, 185, 186, 187, 188, 189, 190, 191, 192, 193, 194, 195, 196, 197, 198, 199, 200, 201, 202, 56, 203, 204, 205, 206, 25, 207, 226, 53, 54, 55, 213, 214, 215, 216, 217, 381, 382, 383, 384, 385, 386, 387, 388, 389, 390, 391, 392, 413, 414, 415, 416, 406, 407] (by decide +kernel) (by decide +kernel)
set_option maxRecDepth 20000 in
theorem gL_acts_X8_setDish : GoodIn wsL_acts (wsV RL 54 RX8 yX8_setDish wsX8_setDish) := goodIn_app (goodIn_of _ (by decide +kernel)) ggL_acts_X8_setDish
