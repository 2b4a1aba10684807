set_option maxRecDepth 20000 in
theorem ggL_law_X7_noted : GoodIn wsL_law wsX7_noted := goodIn_r _ [632, 15, 633, 634, 635, 636, 44, 637, 98, 59, 60, 61, 720, 721, 722, 723, 724, 725, 738, 739, 740, 741, 742, 743, 744, 745, 746, 747, 748, 749, 763, 764, 765, 766, 767] (by decide +kernel) (by decide +kernel)
set_option maxRecDepth 20000 in
theorem gL_law_X7_noted : GoodIn wsL_law (wsV RL 78 RX7 yX7_noted wsX7_noted) := goodIn_app (goodIn_of _ (by decide +kernel)) ggL_law_X7_noted
set_option maxRecDepth 20000 in
theorem ggL_law_X8_noted : GoodIn wsL_law wsX8_noted := goodIn_r _ [641, 119, 190, 191, 5, 192, 726, 727, 728, 729, 730, 731, 732, 733, 734, 735, 736, 737] (by decide +kernel) (by decide +kernel)
set_option maxRecDepth 20000 in
theorem gL_law_X8_noted : GoodIn wsL_law (wsV RL 81 RX8 yX8_noted wsX8_noted) := goodIn_app (goodIn_of _ (by decide +kernel)) ggL_law_X8_noted
set_option maxRecDepth 20000 in
theorem ggL_law_X7_total : GoodIn wsL_law wsX7_total := goodIn_r _ [645, 15, 610, 407, 646, 647, 648, 633, 649, 650, 651, 652, 450, 22, 653, 26, 473, 168, 169, 170, 14, 171, 37, 79, 164, 165, 166, 167, 74, 35, 720, 721, 722, 723, 724, 725, 738, 739, 740, 741, 742, 743, 744, 745, 746, 747, 748, 749, 759, 760, 761, 762, 763, 764, 765, 766, 767, 750, 751, 752, 753, 754, 755, 756, 757, 758, 778, 779] (by decide +kernel) (by decide +kernel)
set_option maxRecDepth 20000 in
theorem gL_law_X7_total : GoodIn wsL_law (wsV RL 82 RX7 yX7_total wsX7_total) := goodIn_app (goodIn_of _ (by decide +kernel)) ggL_law_X7_total
set_option maxRecDepth 20000 in
theorem ggL_law_X8_total : GoodIn wsL_law wsX8_total := goodIn_r _ [657, 119, 205, 468, 206, 207, 208, 5, 209, 726, 727, 728, 729, 730, 731, 732, 733, 734, 735, 736, 737] (by decide +kernel) (by decide +kernel)
set_option maxRecDepth 20000 in
theorem gL_law_X8_total : GoodIn wsL_law (wsV RL 85 RX8 yX8_total wsX8_total) := goodIn_app (goodIn_of _ (by decide +kernel)) ggL_law_X8_total
set_option maxRecDepth 20000 in
theorem ggL_law_X7_next : GoodIn wsL_law wsX7_next := goodIn_r _ [661, 15, 646, 409, 298, 299, 14, 300, 41, 80, 662, 302, 303, 40, 304, 54, 155, 720, 721, 722, 723, 724, 725, 738, 739, 740, 741, 742, 743, 744, 745, 746, 747, 748, 749, 759, 760, 761, 762] (by decide +kernel) (by decide +kernel)
set_option maxRecDepth 20000 in
theorem gL_law_X7_next : GoodIn wsL_law (wsV RL 86 RX7 yX7_next wsX7_next) := goodIn_app (goodIn_of _ (by decide +kernel)) ggL_law_X7_next
set_option maxRecDepth 20000 in
theorem ggL_law_X8_next : GoodIn wsL_law wsX8_next := goodIn_r _ [666, 366, 367, 368, 5, 369, 119, 370, 371, 372, 373, 726, 727, 728, 729, 730, 731, 732, 733, 734, 735, 736, 737] (by decide +kernel) (by decide +kernel)
set_option maxRecDepth 20000 in
theorem gL_law_X8_next : GoodIn wsL_law (wsV RL 89 RX8 yX8_next wsX8_next) := goodIn_app (goodIn_of _ (by decide +kernel)) ggL_law_X8_next
set_option maxRecDepth 20000 in
theorem ggL_law_X7_quietIn : GoodIn wsL_law wsX7_quietIn := goodIn_r _ [670, 16, 15, 406, 407, 132, 133, 134, 14, 135, 74, 75, 76, 77, 78, 32, 136, 137, 138, 139, 34, 35, 37, 41, 45, 46, 140, 141, 142, 48, 143, 65, 144, 85, 86, 87, 88, 89, 90, 91, 92, 93, 145, 146, 147, 50, 148, 149, 69, 150, 151, 152, 153, 40, 154, 155, 156, 54, 157, 55, 158, 159, 160, 44, 161, 59, 162, 60, 61, 98, 99, 410, 293, 294, 295, 290, 296, 297, 298, 299, 300, 80, 301, 302, 303, 304, 305, 306, 307, 308, 309, 310, 311, 312, 313, 314, 315, 316, 317, 318, 319, 320, 321, 322, 323, 324, 325, 326, 327, 328, 329, 330, 218, 331, 332, 333, 334, 335, 240, 242, 243, 244, 245, 336, 337, 338, 339, 291, 340, 341, 342, 343, 344, 345, 346, 347, 235, 236, 237, 238, 239, 241, 246, 247, 248, 249, 250, 348, 349, 350, 351, 352, 223, 224, 225, 226, 227, 228, 229, 230, 79, 231, 232, 233, 234, 720, 721, 722, 723, 724, 725, 738, 739, 740, 741, 742, 743, 744, 745, 746, 747, 748, 749, 768, 769, 770, 771, 772, 773, 774, 775, 776, 777, 778, 779, 759, 760, 761, 762, 763, 764, 765, 766, 767] (by decide +kernel) (by decide +kernel)
set_option maxRecDepth 20000 in
theorem gL_law_X7_quietIn : GoodIn wsL_law (wsV RL 90 RX7 yX7_quietIn wsX7_quietIn) := goodIn_app (goodIn_of _ (by decide +kernel)) ggL_law_X7_quietIn
set_option maxRecDepth 20000 in
theorem ggL_law_X8_quietIn : GoodIn wsL_law wsX8_quietIn := goodIn_r _ [674, 197, 198, 199, 5, 200, 120, 119, 415, 416, 417, 418, 366, 367, 368, 369, 370, 371, 372, 373, 374, 375, 376, 377, 378, 379, 380, 381, 270, 271, 272, 273, 382, 383, 384, 385, 274, 275, 276, 277, 386, 387, 388, 389, 390, 391, 392, 393, 394, 395, 396, 397, 266, 267, 268, 269, 398, 399, 400, 401, 262, 263, 264, 265, 419, 420, 421, 422, 726, 727, 728, 729, 730, 731, 732, 733, 734, 735, 736, 737] (by decide +kernel) (by decide +kernel)
set_option maxRecDepth 20000 in
theorem gL_law_X8_quietIn : GoodIn wsL_law (wsV RL 93 RX8 yX8_quietIn wsX8_quietIn) := goodIn_app (goodIn_of _ (by decide +kernel)) ggL_law_X8_quietIn
