set_option maxRecDepth 20000 in
theorem gs_3 : GoodIn wsL_law wsL_isSo_r3 := goodIn_r _ [20, 144, 24, 145, 146, 147, 148, 149, 34, 76, 150, 151, 152, 153, 32, 398, 399, 400, 401, 402, 403, 404, 41, 405] (by decide +kernel) (by decide +kernel)
