set_option maxRecDepth 20000 in
theorem ggL_law_X7_finish : GoodIn wsL_law wsX7_finish := goodIn_r _ [404, 15, 16, 405, 406, 407, 408, 297, 298, 14, 299, 41, 80, 131, 132, 133, 134, 74, 75, 76, 77, 78, 32, 135, 136, 137, 138, 34, 35, 37, 45, 46, 139, 140, 141, 48, 142, 65, 143, 85, 86, 87, 88, 89, 90, 91, 92, 93, 144, 145, 146, 50, 147, 148, 69, 149, 150, 151, 152, 40, 153, 154, 155, 54, 156, 55, 157, 158, 159, 44, 160, 59, 161, 60, 61, 98, 99, 409, 292, 293, 294, 289, 295, 296, 300, 301, 302, 303, 304, 305, 306, 307, 308, 309, 310, 311, 312, 313, 314, 315, 316, 317, 318, 319, 320, 321, 322, 323, 324, 325, 326, 327, 328, 329, 217, 330, 331, 332, 333, 334, 239, 241, 242, 243, 244, 335, 336, 337, 338, 290, 339, 340, 341, 342, 343, 344, 345, 346, 234, 235, 236, 237, 238, 240, 245, 246, 247, 248, 249, 347, 348, 349, 350, 351, 222, 223, 224, 225, 226, 227, 228, 229, 79, 230, 231, 232, 233, 171, 172, 173, 2, 174, 22, 175, 176, 177, 21, 178, 179, 105, 180, 181, 182, 183, 184, 719, 720, 721, 722, 723, 724, 737, 738, 739, 740, 741, 742, 743, 744, 745, 746, 747, 748, 758, 759, 760, 761, 767, 768, 769, 770, 771, 772, 773, 774, 775, 776, 777, 778, 762, 763, 764, 765, 766, 749, 750] (by decide +kernel) (by decide +kernel)
set_option maxRecDepth 20000 in
theorem gL_law_X7_finish : GoodIn wsL_law (wsV RL 27 RX7 yX7_finish wsX7_finish) := goodIn_app (goodIn_of _ (by decide +kernel)) ggL_law_X7_finish
set_option maxRecDepth 20000 in
theorem ggL_law_X8_finish : GoodIn wsL_law wsX8_finish := goodIn_r _ [413, 118, 360, 196, 197, 198, 5, 199, 119, 414, 415, 416, 417, 365, 366, 367, 368, 369, 370, 371, 372, 373, 374, 375, 376, 377, 378, 379, 380, 269, 270, 271, 272, 381, 382, 383, 384, 273, 274, 275, 276, 385, 386, 387, 388, 389, 390, 391, 392, 393, 394, 395, 396, 265, 266, 267, 268, 397, 398, 399, 400, 261, 262, 263, 264, 418, 419, 420, 421, 200, 201, 202, 203, 204, 120, 725, 726, 727, 728, 729, 730, 731, 732, 733, 734, 735, 736] (by decide +kernel) (by decide +kernel)
set_option maxRecDepth 20000 in
theorem gL_law_X8_finish : GoodIn wsL_law (wsV RL 31 RX8 yX8_finish wsX8_finish) := goodIn_app (goodIn_of _ (by decide +kernel)) ggL_law_X8_finish
set_option maxRecDepth 20000 in
theorem ggL_law_X7_setDelay : GoodIn wsL_law wsX7_setDelay := goodIn_r _ [425, 16, 15, 131, 132, 133, 14, 134, 74, 75, 76, 77, 78, 32, 135, 136, 137, 138, 34, 35, 37, 41, 45, 46, 139, 140, 141, 48, 142, 65, 143, 85, 86, 87, 88, 89, 90, 91, 92, 93, 144, 145, 146, 50, 147, 148, 69, 149, 150, 151, 152, 40, 153, 154, 155, 54, 156, 55, 157, 158, 159, 44, 160, 59, 161, 60, 61, 98, 99, 426, 427, 428, 429, 239, 320, 321, 322, 323, 171, 172, 173, 2, 174, 22, 175, 176, 177, 21, 178, 179, 105, 180, 181, 182, 183, 184, 719, 720, 721, 722, 723, 724, 737, 738, 739, 740, 741, 742, 743, 744, 745, 746, 747, 748, 767, 768, 769, 770, 771, 772, 773, 774, 775, 776, 777, 778, 758, 759, 760, 761, 762, 763, 764, 765, 766, 749, 750] (by decide +kernel) (by decide +kernel)
set_option maxRecDepth 20000 in
theorem gL_law_X7_setDelay : GoodIn wsL_law (wsV RL 32 RX7 yX7_setDelay wsX7_setDelay) := goodIn_app (goodIn_of _ (by decide +kernel)) ggL_law_X7_setDelay
set_option maxRecDepth 20000 in
theorem ggL_law_X8_setDelay : GoodIn wsL_law wsX8_setDelay := goodIn_r _ [433, 196, 197, 198, 5, 199, 119, 118, 434, 435, 436, 437, 438, 439, 440, 441, 189, 190, 191, 442, 443, 444, 277, 278, 279, 280, 200, 201, 202, 203, 204, 120, 725, 726, 727, 728, 729, 730, 731, 732, 733, 734, 735, 736] (by decide +kernel) (by decide +kernel)
set_option maxRecDepth 20000 in
theorem gL_law_X8_setDelay : GoodIn wsL_law (wsV RL 36 RX8 yX8_setDelay wsX8_setDelay) := goodIn_app (goodIn_of _ (by decide +kernel)) ggL_law_X8_setDelay
set_option maxRecDepth 20000 in
theorem ggL_law_X7_set : GoodIn wsL_law wsX7_set := goodIn_r _ [448, 15, 449, 16, 131, 132, 133, 14, 134, 74, 75, 76, 77, 78, 32, 135, 136, 137, 138, 34, 35, 37, 41, 45, 46, 139, 140, 141, 48, 142, 65, 143, 85, 86, 87, 88, 89, 90, 91, 92, 93, 144, 145, 146, 50, 147, 148, 69, 149, 150, 151, 152, 40, 153, 154, 155, 54, 156, 55, 157, 158, 159, 44, 160, 59, 161, 60, 61, 98, 99, 171, 172, 173, 2, 174, 22, 175, 176, 177, 21, 178, 179, 105, 180, 181, 182, 183, 184, 719, 720, 721, 722, 723, 724, 737, 738, 739, 740, 741, 742, 743, 744, 745, 746, 747, 748, 767, 768, 769, 770, 771, 772, 773, 774, 775, 776, 777, 778, 758, 759, 760, 761, 762, 763, 764, 765, 766, 749, 750] (by decide +kernel) (by decide +kernel)
set_option maxRecDepth 20000 in
theorem gL_law_X7_set : GoodIn wsL_law (wsV RL 37 RX7 yX7_set wsX7_set) := goodIn_app (goodIn_of _ (by decide +kernel)) ggL_law_X7_set
set_option maxRecDepth 20000 in
theorem ggL_law_X8_set : GoodIn wsL_law wsX8_set := goodIn_r _ [453, 118, 189, 190, 5, 191, 192, 193, 194, 195, 196, 197, 198, 199, 119, 200, 201, 202, 203, 204, 120, 725, 726, 727, 728, 729, 730, 731, 732, 733, 734, 735, 736] (by decide +kernel) (by decide +kernel)
set_option maxRecDepth 20000 in
theorem gL_law_X8_set : GoodIn wsL_law (wsV RL 40 RX8 yX8_set wsX8_set) := goodIn_app (goodIn_of _ (by decide +kernel)) ggL_law_X8_set
set_option maxRecDepth 20000 in
theorem ggL_law_X7_type : GoodIn wsL_law wsX7_type := goodIn_r _ [457, 26, 458, 459, 460, 25, 461, 462, 110, 719, 720, 721, 722, 723, 724, 751, 752, 753, 754, 755, 756, 757] (by decide +kernel) (by decide +kernel)
set_option maxRecDepth 20000 in
theorem gL_law_X7_type : GoodIn wsL_law (wsV RL 41 RX7 yX7_type wsX7_type) := goodIn_app (goodIn_of _ (by decide +kernel)) ggL_law_X7_type
set_option maxRecDepth 20000 in
theorem ggL_law_X8_type : GoodIn wsL_law wsX8_type := goodIn_r _ [466, 467, 122, 725, 726, 727, 728, 729, 730, 731, 732, 733, 734, 735, 736] (by decide +kernel) (by decide +kernel)
set_option maxRecDepth 20000 in
theorem gL_law_X8_type : GoodIn wsL_law (wsV RL 45 RX8 yX8_type wsX8_type) := goodIn_app (goodIn_of _ (by decide +kernel)) ggL_law_X8_type
