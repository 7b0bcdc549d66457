set_option maxRecDepth 20000 in
theorem ggL_law_L_isProduct : GoodIn wsL_law wsL_isProduct := goodIn_r _ [331] (by decide +kernel) (by decide +kernel)
set_option maxRecDepth 20000 in
theorem gL_law_L_isProduct : GoodIn wsL_law (va_wsS RL 71 yL_isProduct wsL_isProduct) := goodIn_app (goodIn_of _ (by decide +kernel)) ggL_law_L_isProduct
set_option maxRecDepth 20000 in
theorem ggL_law_X8_addRule : GoodIn wsL_law wsX8_addRule := goodIn_ca (goodIn_ca (goodIn_r _ [139, 140, 141, 142, 143, 13, 144, 145, 2, 146, 147, 148, 149, 12, 150, 35, 151, 152, 153, 154, 32, 33, 34, 155, 156, 157, 31, 158, 40, 656, 657, 658, 659, 660, 661, 662, 663, 685] (by decide +kernel) (by decide +kernel)) (goodIn_sub (fun _ h => List.mem_append_left _ (List.mem_append_left _ (List.mem_append_right _ h))) (by decide +kernel))) (goodIn_sub (fun _ h => List.mem_append_left _ (List.mem_append_right _ h)) (by decide +kernel))
set_option maxRecDepth 20000 in
theorem gL_law_X8_addRule : GoodIn wsL_law (wsV RL 19 RX8 yX8_addRule wsX8_addRule) := goodIn_app (goodIn_of _ (by decide +kernel)) ggL_law_X8_addRule
