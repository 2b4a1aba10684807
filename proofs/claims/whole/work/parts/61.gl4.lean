set_option maxRecDepth 20000 in
theorem ggL_law_X7_restore : GoodIn wsL_law wsX7_restore := goodIn_r _ [583, 18, 16, 17, 407, 132, 133, 134, 14, 135, 74, 75, 76, 77, 78, 32, 136, 137, 138, 139, 34, 35, 37, 41, 45, 46, 140, 141, 142, 48, 143, 65, 144, 85, 86, 87, 88, 89, 90, 91, 92, 93, 145, 146, 147, 50, 148, 149, 69, 150, 151, 152, 153, 40, 154, 155, 156, 54, 157, 55, 158, 159, 160, 44, 161, 59, 162, 60, 61, 98, 99, 172, 173, 174, 2, 175, 22, 15, 176, 177, 178, 21, 179, 180, 105, 181, 182, 183, 184, 185, 720, 721, 722, 723, 724, 725, 738, 739, 740, 741, 742, 743, 744, 745, 746, 747, 748, 749, 768, 769, 770, 771, 772, 773, 774, 775, 776, 777, 778, 779, 759, 760, 761, 762, 763, 764, 765, 766, 767, 750, 751] (by decide +kernel) (by decide +kernel)
set_option maxRecDepth 20000 in
theorem gL_law_X7_restore : GoodIn wsL_law (wsV RL 62 RX7 yX7_restore wsX7_restore) := goodIn_app (goodIn_of _ (by decide +kernel)) ggL_law_X7_restore
set_option maxRecDepth 20000 in
theorem ggL_law_X8_restore : GoodIn wsL_law wsX8_restore := goodIn_r _ [587, 579, 119, 122, 193, 194, 195, 5, 196, 197, 198, 199, 200, 120, 201, 202, 203, 204, 205, 121, 726, 727, 728, 729, 730, 731, 732, 733, 734, 735, 736, 737] (by decide +kernel) (by decide +kernel)
set_option maxRecDepth 20000 in
theorem gL_law_X8_restore : GoodIn wsL_law (wsV RL 65 RX8 yX8_restore wsX8_restore) := goodIn_app (goodIn_of _ (by decide +kernel)) ggL_law_X8_restore
set_option maxRecDepth 20000 in
theorem ggL_law_X7_link : GoodIn wsL_law wsX7_link := goodIn_r _ [591, 15, 592, 450, 593, 322, 323, 14, 324, 74, 594, 595, 596, 48, 597, 65, 85, 86, 87, 88, 89, 90, 91, 92, 93, 720, 721, 722, 723, 724, 725, 738, 739, 740, 741, 742, 743, 744, 745, 746, 747, 748, 749, 768, 769, 770, 771, 772, 773, 774, 775, 776, 777] (by decide +kernel) (by decide +kernel)
set_option maxRecDepth 20000 in
theorem gL_law_X7_link : GoodIn wsL_law (wsV RL 66 RX7 yX7_link wsX7_link) := goodIn_app (goodIn_of _ (by decide +kernel)) ggL_law_X7_link
set_option maxRecDepth 20000 in
theorem ggL_law_X8_link : GoodIn wsL_law wsX8_link := goodIn_r _ [601, 439, 440, 441, 5, 442, 119, 190, 191, 192, 602, 603, 604, 605, 390, 391, 392, 393, 726, 727, 728, 729, 730, 731, 732, 733, 734, 735, 736, 737] (by decide +kernel) (by decide +kernel)
set_option maxRecDepth 20000 in
theorem gL_law_X8_link : GoodIn wsL_law (wsV RL 69 RX8 yX8_link wsX8_link) := goodIn_app (goodIn_of _ (by decide +kernel)) ggL_law_X8_link
set_option maxRecDepth 20000 in
theorem ggL_law_X7_stage : GoodIn wsL_law wsX7_stage := goodIn_r _ [609, 15, 610, 611, 720, 721, 722, 723, 724, 725, 738, 739, 740, 741, 742, 743, 744, 745, 746, 747, 748, 749] (by decide +kernel) (by decide +kernel)
set_option maxRecDepth 20000 in
theorem gL_law_X7_stage : GoodIn wsL_law (wsV RL 70 RX7 yX7_stage wsX7_stage) := goodIn_app (goodIn_of _ (by decide +kernel)) ggL_law_X7_stage
set_option maxRecDepth 20000 in
theorem ggL_law_X8_stage : GoodIn wsL_law wsX8_stage := goodIn_r _ [615, 119, 190, 191, 5, 192, 726, 727, 728, 729, 730, 731, 732, 733, 734, 735, 736, 737] (by decide +kernel) (by decide +kernel)
set_option maxRecDepth 20000 in
theorem gL_law_X8_stage : GoodIn wsL_law (wsV RL 73 RX8 yX8_stage wsX8_stage) := goodIn_app (goodIn_of _ (by decide +kernel)) ggL_law_X8_stage
set_option maxRecDepth 20000 in
theorem ggL_law_X7_waiting : GoodIn wsL_law wsX7_waiting := goodIn_r _ [619, 15, 620, 621, 622, 623, 50, 624, 149, 69, 720, 721, 722, 723, 724, 725, 738, 739, 740, 741, 742, 743, 744, 745, 746, 747, 748, 749, 778, 779] (by decide +kernel) (by decide +kernel)
set_option maxRecDepth 20000 in
theorem gL_law_X7_waiting : GoodIn wsL_law (wsV RL 74 RX7 yX7_waiting wsX7_waiting) := goodIn_app (goodIn_of _ (by decide +kernel)) ggL_law_X7_waiting
set_option maxRecDepth 20000 in
theorem ggL_law_X8_waiting : GoodIn wsL_law wsX8_waiting := goodIn_r _ [628, 119, 259, 260, 5, 261, 190, 191, 192, 726, 727, 728, 729, 730, 731, 732, 733, 734, 735, 736, 737] (by decide +kernel) (by decide +kernel)
set_option maxRecDepth 20000 in
theorem gL_law_X8_waiting : GoodIn wsL_law (wsV RL 77 RX8 yX8_waiting wsX8_waiting) := goodIn_app (goodIn_of _ (by decide +kernel)) ggL_law_X8_waiting
