set_option maxRecDepth 20000 in
theorem gs_5 : GoodIn wsL_law wsL_isSo_r5 := goodIn_r _ [175, 176, 177, 178, 179, 38, 77, 180, 181, 182, 37, 183, 51, 184, 371, 372, 373] (by decide +kernel) (by decide +kernel)
