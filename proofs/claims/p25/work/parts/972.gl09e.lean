set_option maxRecDepth 20000 in
theorem gs_4 : GoodIn wsL_law wsL_isSo_r4 := goodIn_r _ [95, 56, 57, 58, 167, 168, 169, 170, 171, 406, 407, 408, 409, 410, 411, 412, 413, 47, 414, 209, 66, 172, 173, 174] (by decide +kernel) (by decide +kernel)
