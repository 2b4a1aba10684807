set_option maxRecDepth 20000 in
theorem ggL_law_X7_clearText : GoodIn wsL_law wsX7_clearText := goodIn_r _ [472, 26, 473, 720, 721, 722, 723, 724, 725, 752, 753, 754, 755, 756, 757, 758] (by decide +kernel) (by decide +kernel)
set_option maxRecDepth 20000 in
theorem gL_law_X7_clearText : GoodIn wsL_law (wsV RL 46 RX7 yX7_clearText wsX7_clearText) := goodIn_app (goodIn_of _ (by decide +kernel)) ggL_law_X7_clearText
set_option maxRecDepth 20000 in
theorem ggL_law_X8_clearText : GoodIn wsL_law wsX8_clearText := goodIn_r _ [477, 468, 726, 727, 728, 729, 730, 731, 732, 733, 734, 735, 736, 737] (by decide +kernel) (by decide +kernel)
set_option maxRecDepth 20000 in
theorem gL_law_X8_clearText : GoodIn wsL_law (wsV RL 49 RX8 yX8_clearText wsX8_clearText) := goodIn_app (goodIn_of _ (by decide +kernel)) ggL_law_X8_clearText
set_option maxRecDepth 20000 in
theorem ggL_law_X7_perform : GoodIn wsL_law wsX7_perform := goodIn_r _ [481, 26, 16, 15, 482, 483, 484, 485, 486, 487, 488, 25, 489, 490, 491, 463, 492, 493, 494, 495, 496, 497, 498, 499, 111, 500, 501, 502, 503, 504, 505, 506, 507, 508, 509, 510, 511, 112, 113, 114, 512, 513, 514, 515, 516, 517, 518, 519, 520, 521, 522, 523, 132, 133, 134, 14, 135, 74, 75, 76, 77, 78, 32, 136, 137, 138, 139, 34, 35, 37, 41, 45, 46, 140, 141, 142, 48, 143, 65, 144, 85, 86, 87, 88, 89, 90, 91, 92, 93, 145, 146, 147, 50, 148, 149, 69, 150, 151, 152, 153, 40, 154, 155, 156, 54, 157, 55, 158, 159, 160, 44, 161, 59, 162, 60, 61, 98, 99, 214, 215, 216, 217, 79, 218, 219, 220, 221, 222, 223, 224, 225, 226, 227, 228, 229, 230, 231, 232, 233, 234, 235, 236, 237, 238, 239, 240, 241, 242, 243, 244, 245, 246, 247, 248, 249, 250, 286, 287, 288, 289, 290, 291, 292, 293, 294, 295, 296, 297, 298, 299, 300, 80, 301, 302, 303, 304, 305, 306, 307, 308, 309, 310, 311, 312, 313, 314, 315, 316, 317, 318, 319, 320, 321, 322, 323, 324, 325, 326, 327, 328, 329, 330, 331, 332, 333, 334, 335, 336, 337, 338, 339, 340, 341, 342, 343, 344, 345, 346, 347, 348, 349, 350, 351, 352, 427, 428, 429, 430, 172, 173, 174, 2, 175, 22, 176, 177, 178, 21, 179, 180, 105, 181, 182, 183, 184, 185, 720, 721, 722, 723, 724, 725, 752, 753, 754, 755, 756, 757, 758, 738, 739, 740, 741, 742, 743, 744, 745, 746, 747, 748, 749, 768, 769, 770, 771, 772, 773, 774, 775, 776, 777, 778, 779, 759, 760, 761, 762, 763, 764, 765, 766, 767, 750, 751] (by decide +kernel) (by decide +kernel)
set_option maxRecDepth 20000 in
theorem gL_law_X7_perform : GoodIn wsL_law (wsV RL 50 RX7 yX7_perform wsX7_perform) := goodIn_app (goodIn_of _ (by decide +kernel)) ggL_law_X7_perform
set_option maxRecDepth 20000 in
theorem ggL_law_X8_perform : GoodIn wsL_law wsX8_perform := goodIn_r _ [527, 528, 468, 529, 530, 531, 5, 532, 533, 534, 535, 536, 537, 538, 539, 540, 541, 542, 123, 543, 544, 545, 190, 191, 192, 546, 547, 548, 549, 550, 551, 552, 553, 554, 197, 198, 199, 200, 120, 119, 555, 556, 557, 558, 255, 256, 257, 258, 259, 260, 261, 262, 263, 264, 265, 266, 267, 268, 269, 270, 271, 272, 273, 274, 275, 276, 277, 357, 358, 359, 360, 361, 362, 363, 364, 365, 366, 367, 368, 369, 370, 371, 372, 373, 374, 375, 376, 377, 378, 379, 380, 381, 382, 383, 384, 385, 386, 387, 388, 389, 390, 391, 392, 393, 394, 395, 396, 397, 398, 399, 400, 401, 435, 436, 437, 438, 439, 440, 441, 442, 443, 444, 445, 419, 420, 421, 422, 201, 202, 203, 204, 205, 121, 726, 727, 728, 729, 730, 731, 732, 733, 734, 735, 736, 737] (by decide +kernel) (by decide +kernel)
set_option maxRecDepth 20000 in
theorem gL_law_X8_perform : GoodIn wsL_law (wsV RL 53 RX8 yX8_perform wsX8_perform) := goodIn_app (goodIn_of _ (by decide +kernel)) ggL_law_X8_perform
set_option maxRecDepth 20000 in
theorem ggL_law_X7_undo : GoodIn wsL_law wsX7_undo := goodIn_r _ [562, 22, 15, 563, 564, 565, 21, 566, 180, 105, 185, 133, 134, 14, 135, 74, 75, 76, 77, 78, 32, 136, 137, 138, 139, 34, 35, 37, 41, 45, 46, 140, 141, 142, 48, 143, 65, 144, 85, 86, 87, 88, 89, 90, 91, 92, 93, 145, 146, 147, 50, 148, 149, 69, 150, 151, 152, 153, 40, 154, 155, 156, 54, 157, 55, 158, 159, 160, 44, 161, 59, 162, 60, 61, 98, 99, 720, 721, 722, 723, 724, 725, 750, 751, 738, 739, 740, 741, 742, 743, 744, 745, 746, 747, 748, 749, 768, 769, 770, 771, 772, 773, 774, 775, 776, 777, 778, 779, 759, 760, 761, 762, 763, 764, 765, 766, 767] (by decide +kernel) (by decide +kernel)
set_option maxRecDepth 20000 in
theorem gL_law_X7_undo : GoodIn wsL_law (wsV RL 54 RX7 yX7_undo wsX7_undo) := goodIn_app (goodIn_of _ (by decide +kernel)) ggL_law_X7_undo
set_option maxRecDepth 20000 in
theorem ggL_law_X8_undo : GoodIn wsL_law wsX8_undo := goodIn_r _ [570, 205, 119, 121, 726, 727, 728, 729, 730, 731, 732, 733, 734, 735, 736, 737] (by decide +kernel) (by decide +kernel)
set_option maxRecDepth 20000 in
theorem gL_law_X8_undo : GoodIn wsL_law (wsV RL 57 RX8 yX8_undo wsX8_undo) := goodIn_app (goodIn_of _ (by decide +kernel)) ggL_law_X8_undo
set_option maxRecDepth 20000 in
theorem ggL_law_X7_keep : GoodIn wsL_law wsX7_keep := goodIn_r _ [574, 17, 15, 18, 407, 132, 133, 134, 14, 135, 74, 75, 76, 77, 78, 32, 136, 137, 138, 139, 34, 35, 37, 41, 45, 46, 140, 141, 142, 48, 143, 65, 144, 85, 86, 87, 88, 89, 90, 91, 92, 93, 145, 146, 147, 50, 148, 149, 69, 150, 151, 152, 153, 40, 154, 155, 156, 54, 157, 55, 158, 159, 160, 44, 161, 59, 162, 60, 61, 98, 99, 720, 721, 722, 723, 724, 725, 738, 739, 740, 741, 742, 743, 744, 745, 746, 747, 748, 749, 768, 769, 770, 771, 772, 773, 774, 775, 776, 777, 778, 779, 759, 760, 761, 762, 763, 764, 765, 766, 767] (by decide +kernel) (by decide +kernel)
set_option maxRecDepth 20000 in
theorem gL_law_X7_keep : GoodIn wsL_law (wsV RL 58 RX7 yX7_keep wsX7_keep) := goodIn_app (goodIn_of _ (by decide +kernel)) ggL_law_X7_keep
set_option maxRecDepth 20000 in
theorem ggL_law_X8_keep : GoodIn wsL_law wsX8_keep := goodIn_r _ [578, 122, 119, 579, 726, 727, 728, 729, 730, 731, 732, 733, 734, 735, 736, 737] (by decide +kernel) (by decide +kernel)
set_option maxRecDepth 20000 in
theorem gL_law_X8_keep : GoodIn wsL_law (wsV RL 61 RX8 yX8_keep wsX8_keep) := goodIn_app (goodIn_of _ (by decide +kernel)) ggL_law_X8_keep
