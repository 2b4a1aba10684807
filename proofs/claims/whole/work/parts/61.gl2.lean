set_option maxRecDepth 20000 in
theorem ggL_law_X7_finish : GoodIn wsL_law wsX7_finish := goodIn_r _ [405, 15, 16, 406, 407, 408, 409, 298, 299, 14, 300, 41, 80, 132, 133, 134, 135, 74, 75, 76, 77, 78, 32, 136, 137, 138, 139, 34, 35, 37, 45, 46, 140, 141, 142, 48, 143, 65, 144, 85, 86, 87, 88, 89, 90, 91, 92, 93, 145, 146, 147, 50, 148, 149, 69, 150, 151, 152, 153, 40, 154, 155, 156, 54, 157, 55, 158, 159, 160, 44, 161, 59, 162, 60, 61, 98, 99, 410, 293, 294, 295, 290, 296, 297, 301, 302, 303, 304, 305, 306, 307, 308, 309, 310, 311, 312, 313, 314, 315, 316, 317, 318, 319, 320, 321, 322, 323, 324, 325, 326, 327, 328, 329, 330, 218, 331, 332, 333, 334, 335, 240, 242, 243, 244, 245, 336, 337, 338, 339, 291, 340, 341, 342, 343, 344, 345, 346, 347, 235, 236, 237, 238, 239, 241, 246, 247, 248, 249, 250, 348, 349, 350, 351, 352, 223, 224, 225, 226, 227, 228, 229, 230, 79, 231, 232, 233, 234, 172, 173, 174, 2, 175, 22, 176, 177, 178, 21, 179, 180, 105, 181, 182, 183, 184, 185, 720, 721, 722, 723, 724, 725, 738, 739, 740, 741, 742, 743, 744, 745, 746, 747, 748, 749, 759, 760, 761, 762, 768, 769, 770, 771, 772, 773, 774, 775, 776, 777, 778, 779, 763, 764, 765, 766, 767, 750, 751] (by decide +kernel) (by decide +kernel)
set_option maxRecDepth 20000 in
theorem gL_law_X7_finish : GoodIn wsL_law (wsV RL 27 RX7 yX7_finish wsX7_finish) := goodIn_app (goodIn_of _ (by decide +kernel)) ggL_law_X7_finish
set_option maxRecDepth 20000 in
theorem ggL_law_X8_finish : GoodIn wsL_law wsX8_finish := goodIn_r _ [414, 119, 361, 197, 198, 199, 5, 200, 120, 415, 416, 417, 418, 366, 367, 368, 369, 370, 371, 372, 373, 374, 375, 376, 377, 378, 379, 380, 381, 270, 271, 272, 273, 382, 383, 384, 385, 274, 275, 276, 277, 386, 387, 388, 389, 390, 391, 392, 393, 394, 395, 396, 397, 266, 267, 268, 269, 398, 399, 400, 401, 262, 263, 264, 265, 419, 420, 421, 422, 201, 202, 203, 204, 205, 121, 726, 727, 728, 729, 730, 731, 732, 733, 734, 735, 736, 737] (by decide +kernel) (by decide +kernel)
set_option maxRecDepth 20000 in
theorem gL_law_X8_finish : GoodIn wsL_law (wsV RL 31 RX8 yX8_finish wsX8_finish) := goodIn_app (goodIn_of _ (by decide +kernel)) ggL_law_X8_finish
set_option maxRecDepth 20000 in
theorem ggL_law_X7_setDelay : GoodIn wsL_law wsX7_setDelay := goodIn_r _ [426, 16, 15, 132, 133, 134, 14, 135, 74, 75, 76, 77, 78, 32, 136, 137, 138, 139, 34, 35, 37, 41, 45, 46, 140, 141, 142, 48, 143, 65, 144, 85, 86, 87, 88, 89, 90, 91, 92, 93, 145, 146, 147, 50, 148, 149, 69, 150, 151, 152, 153, 40, 154, 155, 156, 54, 157, 55, 158, 159, 160, 44, 161, 59, 162, 60, 61, 98, 99, 427, 428, 429, 430, 240, 321, 322, 323, 324, 172, 173, 174, 2, 175, 22, 176, 177, 178, 21, 179, 180, 105, 181, 182, 183, 184, 185, 720, 721, 722, 723, 724, 725, 738, 739, 740, 741, 742, 743, 744, 745, 746, 747, 748, 749, 768, 769, 770, 771, 772, 773, 774, 775, 776, 777, 778, 779, 759, 760, 761, 762, 763, 764, 765, 766, 767, 750, 751] (by decide +kernel) (by decide +kernel)
set_option maxRecDepth 20000 in
theorem gL_law_X7_setDelay : GoodIn wsL_law (wsV RL 32 RX7 yX7_setDelay wsX7_setDelay) := goodIn_app (goodIn_of _ (by decide +kernel)) ggL_law_X7_setDelay
set_option maxRecDepth 20000 in
theorem ggL_law_X8_setDelay : GoodIn wsL_law wsX8_setDelay := goodIn_r _ [434, 197, 198, 199, 5, 200, 120, 119, 435, 436, 437, 438, 439, 440, 441, 442, 190, 191, 192, 443, 444, 445, 278, 279, 280, 281, 201, 202, 203, 204, 205, 121, 726, 727, 728, 729, 730, 731, 732, 733, 734, 735, 736, 737] (by decide +kernel) (by decide +kernel)
set_option maxRecDepth 20000 in
theorem gL_law_X8_setDelay : GoodIn wsL_law (wsV RL 36 RX8 yX8_setDelay wsX8_setDelay) := goodIn_app (goodIn_of _ (by decide +kernel)) ggL_law_X8_setDelay
set_option maxRecDepth 20000 in
theorem ggL_law_X7_set : GoodIn wsL_law wsX7_set := goodIn_r _ [449, 15, 450, 16, 132, 133, 134, 14, 135, 74, 75, 76, 77, 78, 32, 136, 137, 138, 139, 34, 35, 37, 41, 45, 46, 140, 141, 142, 48, 143, 65, 144, 85, 86, 87, 88, 89, 90, 91, 92, 93, 145, 146, 147, 50, 148, 149, 69, 150, 151, 152, 153, 40, 154, 155, 156, 54, 157, 55, 158, 159, 160, 44, 161, 59, 162, 60, 61, 98, 99, 172, 173, 174, 2, 175, 22, 176, 177, 178, 21, 179, 180, 105, 181, 182, 183, 184, 185, 720, 721, 722, 723, 724, 725, 738, 739, 740, 741, 742, 743, 744, 745, 746, 747, 748, 749, 768, 769, 770, 771, 772, 773, 774, 775, 776, 777, 778, 779, 759, 760, 761, 762, 763, 764, 765, 766, 767, 750, 751] (by decide +kernel) (by decide +kernel)
set_option maxRecDepth 20000 in
theorem gL_law_X7_set : GoodIn wsL_law (wsV RL 37 RX7 yX7_set wsX7_set) := goodIn_app (goodIn_of _ (by decide +kernel)) ggL_law_X7_set
set_option maxRecDepth 20000 in
theorem ggL_law_X8_set : GoodIn wsL_law wsX8_set := goodIn_r _ [454, 119, 190, 191, 5, 192, 193, 194, 195, 196, 197, 198, 199, 200, 120, 201, 202, 203, 204, 205, 121, 726, 727, 728, 729, 730, 731, 732, 733, 734, 735, 736, 737] (by decide +kernel) (by decide +kernel)
set_option maxRecDepth 20000 in
theorem gL_law_X8_set : GoodIn wsL_law (wsV RL 40 RX8 yX8_set wsX8_set) := goodIn_app (goodIn_of _ (by decide +kernel)) ggL_law_X8_set
set_option maxRecDepth 20000 in
theorem ggL_law_X7_type : GoodIn wsL_law wsX7_type := goodIn_r _ [458, 26, 459, 460, 461, 25, 462, 463, 111, 720, 721, 722, 723, 724, 725, 752, 753, 754, 755, 756, 757, 758] (by decide +kernel) (by decide +kernel)
set_option maxRecDepth 20000 in
theorem gL_law_X7_type : GoodIn wsL_law (wsV RL 41 RX7 yX7_type wsX7_type) := goodIn_app (goodIn_of _ (by decide +kernel)) ggL_law_X7_type
set_option maxRecDepth 20000 in
theorem ggL_law_X8_type : GoodIn wsL_law wsX8_type := goodIn_r _ [467, 468, 123, 726, 727, 728, 729, 730, 731, 732, 733, 734, 735, 736, 737] (by decide +kernel) (by decide +kernel)
set_option maxRecDepth 20000 in
theorem gL_law_X8_type : GoodIn wsL_law (wsV RL 45 RX8 yX8_type wsX8_type) := goodIn_app (goodIn_of _ (by decide +kernel)) ggL_law_X8_type
