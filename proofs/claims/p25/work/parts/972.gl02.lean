set_option maxRecDepth 20000 in
theorem ggL_law_L_builds : GoodIn wsL_law wsL_builds := goodIn_r _ [114] (by decide +kernel) (by decide +kernel)
set_option maxRecDepth 20000 in
theorem gL_law_L_builds : GoodIn wsL_law (va_wsS RL 89 yL_builds wsL_builds) := goodIn_app (goodIn_of _ (by decide +kernel)) ggL_law_L_builds
