set_option maxRecDepth 20000 in
theorem ggL_law_L_primeAt : GoodIn wsL_law wsL_primeAt := goodIn_r _ [78, 79, 80, 77, 81] (by decide +kernel) (by decide +kernel)
set_option maxRecDepth 20000 in
theorem gL_law_L_primeAt : GoodIn wsL_law (va_wsS RL 111 yL_primeAt wsL_primeAt) := goodIn_app (goodIn_of _ (by decide +kernel)) ggL_law_L_primeAt
