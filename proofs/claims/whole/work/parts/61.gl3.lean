set_option maxRecDepth 20000 in
theorem ggL_law_X7_clearText : GoodIn wsL_law wsX7_clearText := goodIn_r _ [471, 26, 472, 719, 720, 721, 722, 723, 724, 751, 752, 753, 754, 755, 756, 757] (by decide +kernel) (by decide +kernel)
set_option maxRecDepth 20000 in
theorem gL_law_X7_clearText : GoodIn wsL_law (wsV RL 46 RX7 yX7_clearText wsX7_clearText) := goodIn_app (goodIn_of _ (by decide +kernel)) ggL_law_X7_clearText
set_option maxRecDepth 20000 in
theorem ggL_law_X8_clearText : GoodIn wsL_law wsX8_clearText := goodIn_r _ [476, 467, 725, 726, 727, 728, 729, 730, 731, 732, 733, 734, 735, 736] (by decide +kernel) (by decide +kernel)
set_option maxRecDepth 20000 in
theorem gL_law_X8_clearText : GoodIn wsL_law (wsV RL 49 RX8 yX8_clearText wsX8_clearText) := goodIn_app (goodIn_of _ (by decide +kernel)) ggL_law_X8_clearText
set_option maxRecDepth 20000 in
theorem ggL_law_X7_perform : GoodIn wsL_law wsX7_perform := goodIn_r _ [480, 26, 16, 15, 481, 482, 483, 484, 485, 486, 487, 25, 488, 489, 490, 462, 491, 492, 493, 494, 495, 496, 497, 498, 110, 499, 500, 501, 502, 503, 504, 505, 506, 507, 508, 509, 510, 111, 112, 113, 511, 512, 513, 514, 515, 516, 517, 518, 519, 520, 521, 522, 131, 132, 133, 14, 134, 74, 75, 76, 77, 78, 32, 135, 136, 137, 138, 34, 35, 37, 41, 45, 46, 139, 140, 141, 48, 142, 65, 143, 85, 86, 87, 88, 89, 90, 91, 92, 93, 144, 145, 146, 50, 147, 148, 69, 149, 150, 151, 152, 40, 153, 154, 155, 54, 156, 55, 157, 158, 159, 44, 160, 59, 161, 60, 61, 98, 99, 213, 214, 215, 216, 79, 217, 218, 219, 220, 221, 222, 223, 224, 225, 226, 227, 228, 229, 230, 231, 232, 233, 234, 235, 236, 237, 238, 239, 240, 241, 242, 243, 244, 245, 246, 247, 248, 249, 285, 286, 287, 288, 289, 290, 291, 292, 293, 294, 295, 296, 297, 298, 299, 80, 300, 301, 302, 303, 304, 305, 306, 307, 308, 309, 310, 311, 312, 313, 314, 315, 316, 317, 318, 319, 320, 321, 322, 323, 324, 325, 326, 327, 328, 329, 330, 331, 332, 333, 334, 335, 336, 337, 338, 339, 340, 341, 342, 343, 344, 345, 346, 347, 348, 349, 350, 351, 426, 427, 428, 429, 171, 172, 173, 2, 174, 22, 175, 176, 177, 21, 178, 179, 105, 180, 181, 182, 183, 184, 719, 720, 721, 722, 723, 724, 751, 752, 753, 754, 755, 756, 757, 737, 738, 739, 740, 741, 742, 743, 744, 745, 746, 747, 748, 767, 768, 769, 770, 771, 772, 773, 774, 775, 776, 777, 778, 758, 759, 760, 761, 762, 763, 764, 765, 766, 749, 750] (by decide +kernel) (by decide +kernel)
set_option maxRecDepth 20000 in
theorem gL_law_X7_perform : GoodIn wsL_law (wsV RL 50 RX7 yX7_perform wsX7_perform) := goodIn_app (goodIn_of _ (by decide +kernel)) ggL_law_X7_perform
set_option maxRecDepth 20000 in
theorem ggL_law_X8_perform : GoodIn wsL_law wsX8_perform := goodIn_r _ [526, 527, 467, 528, 529, 530, 5, 531, 532, 533, 534, 535, 536, 537, 538, 539, 540, 541, 122, 542, 543, 544, 189, 190, 191, 545, 546, 547, 548, 549, 550, 551, 552, 553, 196, 197, 198, 199, 119, 118, 554, 555, 556, 557, 254, 255, 256, 257, 258, 259, 260, 261, 262, 263, 264, 265, 266, 267, 268, 269, 270, 271, 272, 273, 274, 275, 276, 356, 357, 358, 359, 360, 361, 362, 363, 364, 365, 366, 367, 368, 369, 370, 371, 372, 373, 374, 375, 376, 377, 378, 379, 380, 381, 382, 383, 384, 385, 386, 387, 388, 389, 390, 391, 392, 393, 394, 395, 396, 397, 398, 399, 400, 434, 435, 436, 437, 438, 439, 440, 441, 442, 443, 444, 418, 419, 420, 421, 200, 201, 202, 203, 204, 120, 725, 726, 727, 728, 729, 730, 731, 732, 733, 734, 735, 736] (by decide +kernel) (by decide +kernel)
set_option maxRecDepth 20000 in
theorem gL_law_X8_perform : GoodIn wsL_law (wsV RL 53 RX8 yX8_perform wsX8_perform) := goodIn_app (goodIn_of _ (by decide +kernel)) ggL_law_X8_perform
set_option maxRecDepth 20000 in
theorem ggL_law_X7_undo : GoodIn wsL_law wsX7_undo := goodIn_r _ [561, 22, 15, 562, 563, 564, 21, 565, 179, 105, 184, 132, 133, 14, 134, 74, 75, 76, 77, 78, 32, 135, 136, 137, 138, 34, 35, 37, 41, 45, 46, 139, 140, 141, 48, 142, 65, 143, 85, 86, 87, 88, 89, 90, 91, 92, 93, 144, 145, 146, 50, 147, 148, 69, 149, 150, 151, 152, 40, 153, 154, 155, 54, 156, 55, 157, 158, 159, 44, 160, 59, 161, 60, 61, 98, 99, 719, 720, 721, 722, 723, 724, 749, 750, 737, 738, 739, 740, 741, 742, 743, 744, 745, 746, 747, 748, 767, 768, 769, 770, 771, 772, 773, 774, 775, 776, 777, 778, 758, 759, 760, 761, 762, 763, 764, 765, 766] (by decide +kernel) (by decide +kernel)
set_option maxRecDepth 20000 in
theorem gL_law_X7_undo : GoodIn wsL_law (wsV RL 54 RX7 yX7_undo wsX7_undo) := goodIn_app (goodIn_of _ (by decide +kernel)) ggL_law_X7_undo
set_option maxRecDepth 20000 in
theorem ggL_law_X8_undo : GoodIn wsL_law wsX8_undo := goodIn_r _ [569, 204, 118, 120, 725, 726, 727, 728, 729, 730, 731, 732, 733, 734, 735, 736] (by decide +kernel) (by decide +kernel)
set_option maxRecDepth 20000 in
theorem gL_law_X8_undo : GoodIn wsL_law (wsV RL 57 RX8 yX8_undo wsX8_undo) := goodIn_app (goodIn_of _ (by decide +kernel)) ggL_law_X8_undo
set_option maxRecDepth 20000 in
theorem ggL_law_X7_keep : GoodIn wsL_law wsX7_keep := goodIn_r _ [573, 17, 15, 18, 406, 131, 132, 133, 14, 134, 74, 75, 76, 77, 78, 32, 135, 136, 137, 138, 34, 35, 37, 41, 45, 46, 139, 140, 141, 48, 142, 65, 143, 85, 86, 87, 88, 89, 90, 91, 92, 93, 144, 145, 146, 50, 147, 148, 69, 149, 150, 151, 152, 40, 153, 154, 155, 54, 156, 55, 157, 158, 159, 44, 160, 59, 161, 60, 61, 98, 99, 719, 720, 721, 722, 723, 724, 737, 738, 739, 740, 741, 742, 743, 744, 745, 746, 747, 748, 767, 768, 769, 770, 771, 772, 773, 774, 775, 776, 777, 778, 758, 759, 760, 761, 762, 763, 764, 765, 766] (by decide +kernel) (by decide +kernel)
set_option maxRecDepth 20000 in
theorem gL_law_X7_keep : GoodIn wsL_law (wsV RL 58 RX7 yX7_keep wsX7_keep) := goodIn_app (goodIn_of _ (by decide +kernel)) ggL_law_X7_keep
set_option maxRecDepth 20000 in
theorem ggL_law_X8_keep : GoodIn wsL_law wsX8_keep := goodIn_r _ [577, 121, 118, 578, 725, 726, 727, 728, 729, 730, 731, 732, 733, 734, 735, 736] (by decide +kernel) (by decide +kernel)
set_option maxRecDepth 20000 in
theorem gL_law_X8_keep : GoodIn wsL_law (wsV RL 61 RX8 yX8_keep wsX8_keep) := goodIn_app (goodIn_of _ (by decide +kernel)) ggL_law_X8_keep
