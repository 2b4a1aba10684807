set_option maxRecDepth 20000 in
theorem gs_0 : GoodIn wsL_law [Cond.code yL_isSo cL_isSo 15 (some .boolean)] := goodIn_r _ [397] (by decide +kernel) (by decide +kernel)
