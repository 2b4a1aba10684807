set_option maxRecDepth 20000 in
theorem gs_1 : GoodIn wsL_law wsL_isSo_r1 := goodIn_r _ [120, 121, 113, 122, 123, 154, 155, 156, 2, 157, 13, 158, 143, 159, 160, 161, 12, 162, 71, 163, 164, 165, 45, 166] (by decide +kernel) (by decide +kernel)
