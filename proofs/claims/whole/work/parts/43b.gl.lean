set_option maxRecDepth 20000 in
theorem ggL_law_X9_dropRule : GoodIn wsL_law wsX9_dropRule := goodIn_r _ [214, 186, 187, 188, 192, 193, 194, 5, 195, 1059, 1060, 1061, 1062, 1063, 1064, 1065, 1066, 1067, 1068, 1069, 1070, 1071, 1072, 1073, 1074, 1075, 1076, 1077, 1078, 1079, 1080, 1081, 1082] (by decide +kernel) (by decide +kernel)
set_option maxRecDepth 20000 in
theorem gL_law_X9_dropRule : GoodIn wsL_law (wsV RL 108 RX9 yX9_dropRule wsX9_dropRule) := goodIn_app (goodIn_of _ (by decide +kernel)) ggL_law_X9_dropRule
set_option maxRecDepth 20000 in
theorem ggL_law_X8_products : GoodIn wsL_law wsX8_products := goodIn_r _ [218, 16, 219, 220, 221, 15, 222, 223, 224, 225, 226, 38, 36, 37, 35, 227, 228, 229, 34, 230, 44, 231, 2, 232, 1055, 1056, 1057, 1058, 1083, 1084, 1085, 1086, 1108] (by decide +kernel) (by decide +kernel)
set_option maxRecDepth 20000 in
theorem gL_law_X8_products : GoodIn wsL_law (wsV RL 109 RX8 yX8_products wsX8_products) := goodIn_app (goodIn_of _ (by decide +kernel)) ggL_law_X8_products
set_option maxRecDepth 20000 in
theorem ggL_law_X9_products : GoodIn wsL_law wsX9_products := goodIn_r _ [236, 186, 237, 238, 239, 5, 240, 241, 242, 243, 244, 187, 133, 134, 132, 189, 190, 191, 245, 246, 247, 1059, 1060, 1061, 1062, 1063, 1064, 1065, 1066, 1067, 1068, 1069, 1070, 1071, 1072, 1073, 1074, 1075, 1076, 1077, 1078, 1079, 1080, 1081, 1082] (by decide +kernel) (by decide +kernel)
set_option maxRecDepth 20000 in
theorem gL_law_X9_products : GoodIn wsL_law (wsV RL 112 RX9 yX9_products wsX9_products) := goodIn_app (goodIn_of _ (by decide +kernel)) ggL_law_X9_products
set_option maxRecDepth 20000 in
theorem ggL_law_L_addClass : GoodIn wsL_law wsL_addClass := goodIn_ca (goodIn_ca (goodIn_r _ [250, 157, 158, 251, 252, 253, 2, 254, 163, 164, 165, 166, 20, 255, 256, 257, 258, 259, 260, 261, 50, 262, 70, 263, 264, 265, 266, 267, 268, 269, 270, 72, 73, 74, 271, 179, 180, 34, 181, 44, 272, 273, 1055, 1056, 1057, 1058, 1087, 1088, 1089, 1090, 1091, 1092, 1093, 1094, 1109, 1110, 1111, 1112, 1108] (by decide +kernel) (by decide +kernel)) (goodIn_sub (fun _ h => List.mem_append_left _ (List.mem_append_left _ (List.mem_append_right _ h))) (by decide +kernel))) (goodIn_sub (fun _ h => List.mem_append_left _ (List.mem_append_right _ h)) (by decide +kernel))
set_option maxRecDepth 20000 in
theorem gL_law_L_addClass : GoodIn wsL_law (va_wsS RL 113 yL_addClass wsL_addClass) := goodIn_app (goodIn_of _ (by decide +kernel)) ggL_law_L_addClass
set_option maxRecDepth 20000 in
theorem ggL_law_X9_addClass : GoodIn wsL_law wsX9_addClass := goodIn_r _ [277, 186, 135, 278, 279, 5, 280, 189, 190, 191, 192, 193, 194, 195, 281, 282, 283, 284, 136, 137, 188, 1059, 1060, 1061, 1062, 1063, 1064, 1065, 1066, 1067, 1068, 1069, 1070, 1071, 1072, 1073, 1074, 1075, 1076, 1077, 1078, 1079, 1080, 1081, 1082] (by decide +kernel) (by decide +kernel)
set_option maxRecDepth 20000 in
theorem gL_law_X9_addClass : GoodIn wsL_law (wsV RL 116 RX9 yX9_addClass wsX9_addClass) := goodIn_app (goodIn_of _ (by decide +kernel)) ggL_law_X9_addClass
set_option maxRecDepth 20000 in
theorem ggL_law_L_addLink : GoodIn wsL_law wsL_addLink := goodIn_ca (goodIn_ca (goodIn_ca (goodIn_r _ [287, 288, 157, 158, 289, 290, 291, 2, 292, 293, 294, 163, 164, 165, 166, 20, 255, 295, 296, 297, 298, 50, 299, 70, 256, 257, 258, 259, 260, 261, 262, 300, 301, 302, 19, 303, 52, 54, 55, 304, 264, 265, 266, 267, 268, 269, 270, 72, 73, 74, 271, 179, 180, 34, 181, 44, 272, 273, 305, 1055, 1056, 1057, 1058, 1087, 1088, 1089, 1090, 1091, 1092, 1093, 1094, 1109, 1110, 1111, 1112, 1108] (by decide +kernel) (by decide +kernel)) (goodIn_sub (fun _ h => List.mem_append_right _ h) (by decide +kernel))) (goodIn_sub (fun _ h => List.mem_append_left _ (List.mem_append_left _ (List.mem_append_right _ h))) (by decide +kernel))) (goodIn_sub (fun _ h => List.mem_append_left _ (List.mem_append_right _ h)) (by decide +kernel))
set_option maxRecDepth 20000 in
theorem gL_law_L_addLink : GoodIn wsL_law (va_wsS RL 117 yL_addLink wsL_addLink) := goodIn_app (goodIn_of _ (by decide +kernel)) ggL_law_L_addLink
