set_option maxRecDepth 20000 in
theorem ggL_law_X8_products : GoodIn wsL_law wsX8_products := goodIn_r _ [335, 13, 336, 337, 338, 12, 339, 340, 341, 342, 343, 35, 33, 34, 32, 344, 250, 251, 31, 252, 40, 345, 2, 346, 656, 657, 658, 659, 660, 661, 662, 663, 685] (by decide +kernel) (by decide +kernel)
set_option maxRecDepth 20000 in
theorem gL_law_X8_products : GoodIn wsL_law (wsV RL 75 RX8 yX8_products wsX8_products) := goodIn_app (goodIn_of _ (by decide +kernel)) ggL_law_X8_products
set_option maxRecDepth 20000 in
theorem ggL_law_L_isTrue : GoodIn wsL_law wsL_isTrue := goodIn_r _ [349] (by decide +kernel) (by decide +kernel)
set_option maxRecDepth 20000 in
theorem gL_law_L_isTrue : GoodIn wsL_law (va_wsS RL 79 yL_isTrue wsL_isTrue) := goodIn_app (goodIn_of _ (by decide +kernel)) ggL_law_L_isTrue
