set_option maxRecDepth 20000 in
theorem ggL_law_X7_noted : GoodIn wsL_law wsX7_noted := goodIn_r _ [631, 15, 632, 633, 634, 635, 44, 636, 98, 59, 60, 61, 719, 720, 721, 722, 723, 724, 737, 738, 739, 740, 741, 742, 743, 744, 745, 746, 747, 748, 762, 763, 764, 765, 766] (by decide +kernel) (by decide +kernel)
set_option maxRecDepth 20000 in
theorem gL_law_X7_noted : GoodIn wsL_law (wsV RL 78 RX7 yX7_noted wsX7_noted) := goodIn_app (goodIn_of _ (by decide +kernel)) ggL_law_X7_noted
set_option maxRecDepth 20000 in
theorem ggL_law_X8_noted : GoodIn wsL_law wsX8_noted := goodIn_r _ [640, 118, 189, 190, 5, 191, 725, 726, 727, 728, 729, 730, 731, 732, 733, 734, 735, 736] (by decide +kernel) (by decide +kernel)
set_option maxRecDepth 20000 in
theorem gL_law_X8_noted : GoodIn wsL_law (wsV RL 81 RX8 yX8_noted wsX8_noted) := goodIn_app (goodIn_of _ (by decide +kernel)) ggL_law_X8_noted
set_option maxRecDepth 20000 in
theorem ggL_law_X7_total : GoodIn wsL_law wsX7_total := goodIn_r _ [644, 15, 609, 406, 645, 646, 647, 632, 648, 649, 650, 651, 449, 22, 652, 26, 472, 167, 168, 169, 14, 170, 37, 79, 163, 164, 165, 166, 74, 35, 719, 720, 721, 722, 723, 724, 737, 738, 739, 740, 741, 742, 743, 744, 745, 746, 747, 748, 758, 759, 760, 761, 762, 763, 764, 765, 766, 749, 750, 751, 752, 753, 754, 755, 756, 757, 777, 778] (by decide +kernel) (by decide +kernel)
set_option maxRecDepth 20000 in
theorem gL_law_X7_total : GoodIn wsL_law (wsV RL 82 RX7 yX7_total wsX7_total) := goodIn_app (goodIn_of _ (by decide +kernel)) ggL_law_X7_total
set_option maxRecDepth 20000 in
theorem ggL_law_X8_total : GoodIn wsL_law wsX8_total := goodIn_r _ [656, 118, 204, 467, 205, 206, 207, 5, 208, 725, 726, 727, 728, 729, 730, 731, 732, 733, 734, 735, 736] (by decide +kernel) (by decide +kernel)
set_option maxRecDepth 20000 in
theorem gL_law_X8_total : GoodIn wsL_law (wsV RL 85 RX8 yX8_total wsX8_total) := goodIn_app (goodIn_of _ (by decide +kernel)) ggL_law_X8_total
set_option maxRecDepth 20000 in
theorem ggL_law_X7_next : GoodIn wsL_law wsX7_next := goodIn_r _ [660, 15, 645, 408, 297, 298, 14, 299, 41, 80, 661, 301, 302, 40, 303, 54, 154, 719, 720, 721, 722, 723, 724, 737, 738, 739, 740, 741, 742, 743, 744, 745, 746, 747, 748, 758, 759, 760, 761] (by decide +kernel) (by decide +kernel)
set_option maxRecDepth 20000 in
theorem gL_law_X7_next : GoodIn wsL_law (wsV RL 86 RX7 yX7_next wsX7_next) := goodIn_app (goodIn_of _ (by decide +kernel)) ggL_law_X7_next
set_option maxRecDepth 20000 in
theorem ggL_law_X8_next : GoodIn wsL_law wsX8_next := goodIn_r _ [665, 365, 366, 367, 5, 368, 118, 369, 370, 371, 372, 725, 726, 727, 728, 729, 730, 731, 732, 733, 734, 735, 736] (by decide +kernel) (by decide +kernel)
set_option maxRecDepth 20000 in
theorem gL_law_X8_next : GoodIn wsL_law (wsV RL 89 RX8 yX8_next wsX8_next) := goodIn_app (goodIn_of _ (by decide +kernel)) ggL_law_X8_next
set_option maxRecDepth 20000 in
theorem ggL_law_X7_quietIn : GoodIn wsL_law wsX7_quietIn := goodIn_r _ [669, 16, 15, 405, 406, 131, 132, 133, 14, 134, 74, 75, 76, 77, 78, 32, 135, 136, 137, 138, 34, 35, 37, 41, 45, 46, 139, 140, 141, 48, 142, 65, 143, 85, 86, 87, 88, 89, 90, 91, 92, 93, 144, 145, 146, 50, 147, 148, 69, 149, 150, 151, 152, 40, 153, 154, 155, 54, 156, 55, 157, 158, 159, 44, 160, 59, 161, 60, 61, 98, 99, 409, 292, 293, 294, 289, 295, 296, 297, 298, 299, 80, 300, 301, 302, 303, 304, 305, 306, 307, 308, 309, 310, 311, 312, 313, 314, 315, 316, 317, 318, 319, 320, 321, 322, 323, 324, 325, 326, 327, 328, 329, 217, 330, 331, 332, 333, 334, 239, 241, 242, 243, 244, 335, 336, 337, 338, 290, 339, 340, 341, 342, 343, 344, 345, 346, 234, 235, 236, 237, 238, 240, 245, 246, 247, 248, 249, 347, 348, 349, 350, 351, 222, 223, 224, 225, 226, 227, 228, 229, 79, 230, 231, 232, 233, 719, 720, 721, 722, 723, 724, 737, 738, 739, 740, 741, 742, 743, 744, 745, 746, 747, 748, 767, 768, 769, 770, 771, 772, 773, 774, 775, 776, 777, 778, 758, 759, 760, 761, 762, 763, 764, 765, 766] (by decide +kernel) (by decide +kernel)
set_option maxRecDepth 20000 in
theorem gL_law_X7_quietIn : GoodIn wsL_law (wsV RL 90 RX7 yX7_quietIn wsX7_quietIn) := goodIn_app (goodIn_of _ (by decide +kernel)) ggL_law_X7_quietIn
set_option maxRecDepth 20000 in
theorem ggL_law_X8_quietIn : GoodIn wsL_law wsX8_quietIn := goodIn_r _ [673, 196, 197, 198, 5, 199, 119, 118, 414, 415, 416, 417, 365, 366, 367, 368, 369, 370, 371, 372, 373, 374, 375, 376, 377, 378, 379, 380, 269, 270, 271, 272, 381, 382, 383, 384, 273, 274, 275, 276, 385, 386, 387, 388, 389, 390, 391, 392, 393, 394, 395, 396, 265, 266, 267, 268, 397, 398, 399, 400, 261, 262, 263, 264, 418, 419, 420, 421, 725, 726, 727, 728, 729, 730, 731, 732, 733, 734, 735, 736] (by decide +kernel) (by decide +kernel)
set_option maxRecDepth 20000 in
theorem gL_law_X8_quietIn : GoodIn wsL_law (wsV RL 93 RX8 yX8_quietIn wsX8_quietIn) := goodIn_app (goodIn_of _ (by decide +kernel)) ggL_law_X8_quietIn
