set_option maxRecDepth 20000 in
theorem gs_2 : GoodIn wsL_law wsL_isSo_r2 := goodIn_r _ [62, 82, 83, 84, 85, 86, 87, 88, 89, 90, 129, 130, 131, 132, 133, 134, 135, 136, 137, 138, 139, 140, 141, 142] (by decide +kernel) (by decide +kernel)
