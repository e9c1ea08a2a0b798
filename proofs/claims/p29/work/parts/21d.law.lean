set_option maxRecDepth 20000 in
theorem ggL_law_L_thrown : GoodIn wsL_law wsL_thrown := goodIn_r _ [492, 247, 66, 67] (by decide +kernel) (by decide +kernel)
set_option maxRecDepth 20000 in
theorem gL_law_L_thrown : GoodIn wsL_law (va_wsS RL 190 yL_thrown wsL_thrown) := goodIn_app (goodIn_of _ (by decide +kernel)) ggL_law_L_thrown
