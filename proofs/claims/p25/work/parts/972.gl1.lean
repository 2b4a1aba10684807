set_option maxRecDepth 20000 in
theorem ggL_law_X7_init : GoodIn wsL_law wsX7_init := goodIn_r _ [6, 7, 8, 9, 10, 11, 12, 13, 14, 15, 16, 17, 18, 19, 20, 21, 22, 23, 24, 25, 26, 27, 28, 3, 29, 30, 31, 32, 33, 34, 35, 36, 37, 38, 39, 40, 41, 42, 43, 44, 45, 46, 47, 48, 49, 50, 51, 52, 53, 54, 55, 56, 57, 58, 59, 60, 61, 62, 63, 64, 65, 66, 67, 68, 69, 70, 71, 72, 73, 74, 75, 76, 77, 78, 79, 80, 81, 82, 83, 84, 85, 86, 87, 88, 89, 90, 91, 92, 93, 94, 95, 96, 97, 98, 99, 100, 101, 102, 103, 104, 105, 106, 107, 108, 109, 110, 421, 422, 423, 424, 425, 426, 427, 428, 429, 430, 431, 432, 415, 416, 417, 418, 419, 420, 433, 434, 435, 436, 437, 438, 439, 440, 441, 442, 443, 444, 445, 446, 447, 448, 449, 450, 451, 452, 453, 454, 455, 456, 457, 458, 459, 460, 461, 462] (by decide +kernel) (by decide +kernel)
set_option maxRecDepth 20000 in
theorem gL_law_X7_init : GoodIn wsL_law (wsX7_init) := ggL_law_X7_init
set_option maxRecDepth 20000 in
theorem ggL_law_L_builds : GoodIn wsL_law wsL_builds := goodIn_r _ [114] (by decide +kernel) (by decide +kernel)
set_option maxRecDepth 20000 in
theorem gL_law_L_builds : GoodIn wsL_law (va_wsS RL 89 yL_builds wsL_builds) := goodIn_app (goodIn_of _ (by decide +kernel)) ggL_law_L_builds
set_option maxRecDepth 20000 in
theorem ggL_law_L_cell : GoodIn wsL_law wsL_cell := goodIn_r _ [117, 118, 119] (by decide +kernel) (by decide +kernel)
set_option maxRecDepth 20000 in
theorem gL_law_L_cell : GoodIn wsL_law (va_wsS RL 99 yL_cell wsL_cell) := goodIn_app (goodIn_of _ (by decide +kernel)) ggL_law_L_cell
set_option maxRecDepth 20000 in
theorem ggL_law_L_low : GoodIn wsL_law wsL_low := goodIn_r _ [122, 123] (by decide +kernel) (by decide +kernel)
set_option maxRecDepth 20000 in
theorem gL_law_L_low : GoodIn wsL_law (va_wsS RL 36 yL_low wsL_low) := goodIn_app (goodIn_of _ (by decide +kernel)) ggL_law_L_low
set_option maxRecDepth 20000 in
theorem ggL_law_L_told : GoodIn wsL_law wsL_told := goodIn_r _ [126, 127, 128, 129, 130, 131, 2, 132, 13, 133, 134, 135, 136, 137, 138, 139, 140, 141, 142, 143, 20, 144, 24, 145, 146, 147, 148, 12, 149, 34, 76, 150, 151, 152, 153, 71, 32, 154, 155, 156, 157, 158, 159, 160, 161, 162, 163, 164, 165, 45, 166, 62, 82, 83, 84, 85, 86, 87, 88, 89, 90, 167, 168, 169, 170, 171, 172, 173, 174, 175, 176, 177, 178, 179, 38, 77, 180, 181, 182, 37, 183, 51, 184, 415, 416, 417, 418, 419, 420, 421, 422, 423, 424, 425, 426, 427, 428, 429, 430, 431, 432, 442, 443, 444, 445, 446, 447, 448, 449, 450, 433, 434, 435, 436, 437, 438, 439, 440, 441, 461, 462, 451, 452, 453, 454, 455, 456, 457, 458, 459, 460] (by decide +kernel) (by decide +kernel)
set_option maxRecDepth 20000 in
theorem gL_law_L_told : GoodIn wsL_law (va_wsS RL 103 yL_told wsL_told) := goodIn_app (goodIn_of _ (by decide +kernel)) ggL_law_L_told
set_option maxRecDepth 20000 in
theorem ggL_law_L_call : GoodIn wsL_law wsL_call := goodIn_r _ [187, 188, 189, 190, 2, 191, 14, 13, 192, 193, 194, 12, 195, 71, 72, 73, 74, 75, 29, 196, 197, 198, 199, 31, 32, 34, 38, 42, 43, 200, 201, 202, 45, 203, 62, 204, 82, 83, 84, 85, 86, 87, 88, 89, 90, 205, 206, 207, 47, 208, 209, 66, 210, 211, 212, 213, 37, 214, 184, 215, 51, 216, 52, 217, 218, 219, 41, 220, 56, 221, 57, 58, 95, 96, 222, 223, 224, 225, 76, 226, 227, 228, 229, 230, 231, 232, 233, 234, 235, 236, 237, 238, 239, 240, 241, 242, 243, 244, 245, 246, 247, 248, 249, 250, 251, 252, 253, 254, 255, 256, 257, 258, 259, 260, 261, 262, 20, 263, 264, 265, 19, 266, 267, 102, 268, 269, 270, 271, 272, 273, 274, 275, 276, 277, 278, 279, 280, 281, 282, 283, 284, 285, 286, 287, 288, 177, 178, 179, 77, 289, 181, 182, 183, 290, 291, 292, 293, 294, 295, 296, 297, 298, 299, 300, 301, 302, 303, 304, 305, 306, 160, 161, 162, 307, 308, 309, 310, 311, 312, 313, 314, 315, 316, 317, 318, 319, 320, 321, 322, 323, 324, 325, 326, 327, 328, 329, 330, 331, 332, 333, 334, 335, 336, 337, 338, 339, 340, 341, 342, 343, 344, 345, 346, 143, 347, 348, 349, 350, 351, 68, 69, 70, 78, 79, 80, 81, 91, 92, 93, 94, 150, 151, 152, 153, 146, 147, 148, 149, 352, 353, 354, 355, 356, 134, 357, 176, 358, 415, 416, 417, 418, 419, 420, 421, 422, 423, 424, 425, 426, 427, 428, 429, 430, 431, 432, 451, 452, 453, 454, 455, 456, 457, 458, 459, 460, 461, 462, 442, 443, 444, 445, 446, 447, 448, 449, 450, 433, 434] (by decide +kernel) (by decide +kernel)
set_option maxRecDepth 20000 in
theorem gL_law_L_call : GoodIn wsL_law (va_wsS RL 107 yL_call wsL_call) := goodIn_app (goodIn_of _ (by decide +kernel)) ggL_law_L_call
set_option maxRecDepth 20000 in
theorem ggL_law_X7_undo : GoodIn wsL_law wsX7_undo := goodIn_r _ [362, 20, 13, 363, 364, 365, 19, 366, 267, 102, 272, 193, 194, 12, 195, 71, 72, 73, 74, 75, 29, 196, 197, 198, 199, 31, 32, 34, 38, 42, 43, 200, 201, 202, 45, 203, 62, 204, 82, 83, 84, 85, 86, 87, 88, 89, 90, 205, 206, 207, 47, 208, 209, 66, 210, 211, 212, 213, 37, 214, 184, 215, 51, 216, 52, 217, 218, 219, 41, 220, 56, 221, 57, 58, 95, 96, 415, 416, 417, 418, 419, 420, 433, 434, 421, 422, 423, 424, 425, 426, 427, 428, 429, 430, 431, 432, 451, 452, 453, 454, 455, 456, 457, 458, 459, 460, 461, 462, 442, 443, 444, 445, 446, 447, 448, 449, 450] (by decide +kernel) (by decide +kernel)
set_option maxRecDepth 20000 in
theorem gL_law_X7_undo : GoodIn wsL_law (wsV RL 111 RX7 yX7_undo wsX7_undo) := goodIn_app (goodIn_of _ (by decide +kernel)) ggL_law_X7_undo
set_option maxRecDepth 20000 in
theorem ggL_law_L_due : GoodIn wsL_law wsL_due := goodIn_r _ [369, 370, 371, 372, 113, 373, 374, 375, 376, 377, 378, 379, 380, 381, 382, 111, 112, 114, 383, 384, 385, 386, 387, 388, 389, 390, 391, 392, 393, 394] (by decide +kernel) (by decide +kernel)
set_option maxRecDepth 20000 in
theorem gL_law_L_due : GoodIn wsL_law (va_wsS RL 114 yL_due wsL_due) := goodIn_app (goodIn_of _ (by decide +kernel)) ggL_law_L_due
set_option maxRecDepth 20000 in
theorem ggL_law_L_isSo : GoodIn wsL_law wsL_isSo := goodIn_r _ [397, 120, 121, 113, 122, 123, 154, 155, 156, 2, 157, 13, 158, 143, 159, 160, 161, 12, 162, 71, 163, 164, 165, 45, 166, 62, 82, 83, 84, 85, 86, 87, 88, 89, 90, 129, 130, 131, 132, 133, 134, 135, 136, 137, 138, 139, 140, 141, 142, 20, 144, 24, 145, 146, 147, 148, 149, 34, 76, 150, 151, 152, 153, 32, 398, 399, 400, 401, 402, 403, 404, 41, 405, 95, 56, 57, 58, 167, 168, 169, 170, 171, 406, 407, 408, 409, 410, 411, 412, 413, 47, 414, 209, 66, 172, 173, 174, 175, 176, 177, 178, 179, 38, 77, 180, 181, 182, 37, 183, 51, 184, 371, 372, 373, 415, 416, 417, 418, 419, 420, 421, 422, 423, 424, 425, 426, 427, 428, 429, 430, 431, 432, 451, 452, 453, 454, 455, 456, 457, 458, 459, 460, 442, 443, 444, 445, 446, 447, 448, 449, 450, 433, 434, 435, 436, 437, 438, 439, 440, 441, 461, 462] (by decide +kernel) (by decide +kernel)
set_option maxRecDepth 20000 in
theorem gL_law_L_isSo : GoodIn wsL_law (va_wsS RL 118 yL_isSo wsL_isSo) := goodIn_app (goodIn_of _ (by decide +kernel)) ggL_law_L_isSo
