set_option maxRecDepth 100000 in
theorem gL_wsL_law_r1 : GoodIn lw_tbl wsL_law_r1 := goodIn_r wsL_law_r1 [52, 53, 35, 54, 55, 56, 57, 58, 59, 60, 61, 36, 267, 102, 103, 38, 268, 119, 67, 37, 269, 121, 122, 39] rfl (by decide +kernel)
set_option maxRecDepth 100000 in
theorem gL_wsL_law_r2 : GoodIn lw_tbl wsL_law_r2 := goodIn_r wsL_law_r2 [270, 144, 145, 40, 271, 187, 188, 41, 272, 273, 214, 215, 42, 274, 242, 243, 43, 275, 63, 64, 65, 66, 90, 92] rfl (by decide +kernel)
set_option maxRecDepth 100000 in
theorem gL_wsL_law_r3 : GoodIn lw_tbl wsL_law_r3 := goodIn_r wsL_law_r3 [93, 69, 70, 71, 88, 72, 73, 74, 75, 105, 106, 107, 108, 111, 112, 124, 125, 126, 127, 128, 129, 147, 148, 149] rfl (by decide +kernel)
set_option maxRecDepth 100000 in
theorem gL_wsL_law_r4 : GoodIn lw_tbl wsL_law_r4 := goodIn_r wsL_law_r4 [150, 153, 155, 190, 191, 192, 193, 195, 196, 197, 217, 218, 219, 220, 221, 222, 223, 245, 246, 247, 248, 266, 250, 251] rfl (by decide +kernel)
set_option maxRecDepth 100000 in
theorem gL_wsL_law_r5 : GoodIn lw_tbl wsL_law_r5 := goodIn_r wsL_law_r5 [760, 761, 34, 762, 714, 715, 716, 717, 597, 599, 14, 600, 341, 342, 343, 344, 345, 346, 347, 348, 157, 160, 162, 165] rfl (by decide +kernel)
set_option maxRecDepth 100000 in
theorem gL_wsL_law_r6 : GoodIn lw_tbl wsL_law_r6 := goodIn_r wsL_law_r6 [380, 381, 44, 382, 167, 349, 351, 2, 352, 353, 354, 355, 356, 357, 358, 359, 360, 361, 362, 363, 364, 365, 366, 367] rfl (by decide +kernel)
set_option maxRecDepth 100000 in
theorem gL_wsL_law_r7 : GoodIn lw_tbl wsL_law_r7 := goodIn_r wsL_law_r7 [368, 369, 370, 371, 372, 373, 310, 311, 375, 376, 377, 378, 379, 384, 385, 386, 388, 3, 389, 391, 392, 393, 394, 395] rfl (by decide +kernel)
set_option maxRecDepth 100000 in
theorem gL_wsL_law_r8 : GoodIn lw_tbl wsL_law_r8 := goodIn_r wsL_law_r8 [396, 397, 398, 399, 400, 45, 401, 402, 403, 404, 405, 407, 408, 601, 602, 603, 604, 631, 632, 633, 201, 605, 607, 15] rfl (by decide +kernel)
set_option maxRecDepth 100000 in
theorem gL_wsL_law_r9 : GoodIn lw_tbl wsL_law_r9 := goodIn_r wsL_law_r9 [608, 199, 610, 611, 612, 613, 615, 16, 616, 617, 618, 620, 17, 621, 622, 623, 624, 625, 626, 627, 628, 629, 634, 636] rfl (by decide +kernel)
set_option maxRecDepth 100000 in
theorem gL_wsL_law_r10 : GoodIn lw_tbl wsL_law_r10 := goodIn_r wsL_law_r10 [18, 637, 718, 638, 719, 720, 721, 722, 595, 596, 302, 303, 304, 708, 724, 725, 726, 727, 728, 729, 730, 731, 745, 746] rfl (by decide +kernel)
set_option maxRecDepth 100000 in
theorem gL_wsL_law_r11 : GoodIn lw_tbl wsL_law_r11 := goodIn_r wsL_law_r11 [747, 748, 736, 577, 578, 579, 749, 750, 751, 337, 339, 1, 340, 707, 763, 764, 765, 766, 421, 325, 326, 327, 328, 330] rfl (by decide +kernel)
set_option maxRecDepth 100000 in
theorem gL_wsL_law_r12 : GoodIn lw_tbl wsL_law_r12 := goodIn_r wsL_law_r12 [329, 46, 767, 573, 574, 575, 576, 452, 453, 454, 456, 768, 769, 770, 704, 705, 706, 732, 733, 734, 735, 699, 698, 737] rfl (by decide +kernel)
set_option maxRecDepth 100000 in
theorem gL_wsL_law_r13 : GoodIn lw_tbl wsL_law_r13 := goodIn_r wsL_law_r13 [739, 26, 740, 713, 639, 640, 641, 642, 224, 225, 226, 644, 646, 19, 647, 648, 649, 650, 651, 652, 654, 20, 655, 656] rfl (by decide +kernel)
set_option maxRecDepth 100000 in
theorem gL_wsL_law_r14 : GoodIn lw_tbl wsL_law_r14 := goodIn_r wsL_law_r14 [658, 21, 659, 660, 662, 663, 664, 665, 741, 742, 743, 744, 683, 684, 685, 686, 675, 677, 22, 678, 709, 710, 711, 712] rfl (by decide +kernel)
set_option maxRecDepth 100000 in
theorem gL_wsL_law_r15 : GoodIn lw_tbl wsL_law_r15 := goodIn_r wsL_law_r15 [771, 772, 773, 774, 775, 776, 777, 778, 780, 755, 756, 757, 758, 594, 759, 782, 783, 784, 785, 587, 588, 589, 590, 591] rfl (by decide +kernel)
set_option maxRecDepth 100000 in
theorem gL_wsL_law_r16 : GoodIn lw_tbl wsL_law_r16 := goodIn_r wsL_law_r16 [592, 593, 666, 667, 668, 669, 671, 672, 673, 674, 679, 680, 681, 682, 687, 689, 23, 690, 691, 693, 24, 694, 696, 449] rfl (by decide +kernel)
set_option maxRecDepth 100000 in
theorem gL_wsL_law_r17 : GoodIn lw_tbl wsL_law_r17 := goodIn_r wsL_law_r17 [450, 697, 695, 700, 702, 25, 703, 752, 753, 754, 409, 410, 411, 412, 413, 414, 415, 416, 320, 321, 322, 323, 324, 295] rfl (by decide +kernel)
set_option maxRecDepth 100000 in
theorem gL_wsL_law_r18 : GoodIn lw_tbl wsL_law_r18 := goodIn_r wsL_law_r18 [296, 297, 298, 299, 300, 301, 305, 306, 307, 308, 312, 313, 314, 315, 316, 318, 0, 319, 331, 332, 333, 334, 336, 417] rfl (by decide +kernel)
set_option maxRecDepth 100000 in
theorem gL_wsL_law_r19 : GoodIn lw_tbl wsL_law_r19 := goodIn_r wsL_law_r19 [418, 419, 420, 422, 423, 424, 425, 131, 132, 426, 428, 4, 429, 430, 432, 5, 433, 434, 435, 436, 437, 438, 440, 6] rfl (by decide +kernel)
set_option maxRecDepth 100000 in
theorem gL_wsL_law_r20 : GoodIn lw_tbl wsL_law_r20 := goodIn_r wsL_law_r20 [441, 442, 444, 7, 445, 447, 448, 458, 460, 8, 461, 462, 464, 9, 465, 467, 469, 10, 470, 471, 472, 473, 47, 474] rfl (by decide +kernel)
set_option maxRecDepth 100000 in
theorem gL_wsL_law_r21 : GoodIn lw_tbl wsL_law_r21 := goodIn_r wsL_law_r21 [475, 476, 477, 478, 955, 479, 480, 481, 482, 483, 954, 485, 486, 487, 488, 489, 490, 491, 492, 493, 494, 48, 495, 499] rfl (by decide +kernel)
set_option maxRecDepth 100000 in
theorem gL_wsL_law_r22 : GoodIn lw_tbl wsL_law_r22 := goodIn_r wsL_law_r22 [500, 496, 497, 498, 501, 502, 503, 504, 505, 49, 506, 507, 508, 509, 510, 511, 512, 513, 514, 515, 516, 517, 518, 519] rfl (by decide +kernel)
set_option maxRecDepth 100000 in
theorem gL_wsL_law_r23 : GoodIn lw_tbl wsL_law_r23 := goodIn_r wsL_law_r23 [520, 521, 522, 524, 525, 50, 526, 527, 528, 529, 530, 531, 532, 533, 535, 537, 539, 540, 541, 542, 543, 51, 544, 545] rfl (by decide +kernel)
set_option maxRecDepth 100000 in
theorem gL_wsL_law_r24 : GoodIn lw_tbl wsL_law_r24 := goodIn_r wsL_law_r24 [546, 547, 548, 549, 550, 551, 552, 554, 556, 11, 557, 559, 561, 12, 562, 563, 565, 13, 566, 567, 568, 569, 570, 571] rfl (by decide +kernel)
set_option maxRecDepth 100000 in
theorem gL_wsL_law_r25 : GoodIn lw_tbl wsL_law_r25 := goodIn_r wsL_law_r25 [572, 583, 584, 585, 586, 944, 945, 946, 940, 941, 942, 943, 789, 790, 791, 792, 793, 794, 795, 796, 797, 798, 799, 800] rfl (by decide +kernel)
set_option maxRecDepth 100000 in
theorem gL_wsL_law_r26 : GoodIn lw_tbl wsL_law_r26 := goodIn_r wsL_law_r26 [801, 802, 803, 804, 805, 806, 807, 808, 809, 810, 811, 812, 813, 814, 815, 817, 818, 819, 820, 821, 822, 823, 824, 889] rfl (by decide +kernel)
