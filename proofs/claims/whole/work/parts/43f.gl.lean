set_option maxRecDepth 20000 in
theorem ggL_law_X9_setCondition : GoodIn wsL_law wsX9_setCondition := goodIn_r _ [532, 186, 136, 137, 188, 310, 311, 312, 5, 313, 135, 189, 190, 191, 278, 279, 280, 1059, 1060, 1061, 1062, 1063, 1064, 1065, 1066, 1067, 1068, 1069, 1070, 1071, 1072, 1073, 1074, 1075, 1076, 1077, 1078, 1079, 1080, 1081, 1082] (by decide +kernel) (by decide +kernel)
set_option maxRecDepth 20000 in
theorem gL_law_X9_setCondition : GoodIn wsL_law (wsV RL 150 RX9 yX9_setCondition wsX9_setCondition) := goodIn_app (goodIn_of _ (by decide +kernel)) ggL_law_X9_setCondition
set_option maxRecDepth 20000 in
theorem ggL_law_L_dropResult : GoodIn wsL_law wsL_dropResult := goodIn_ca (goodIn_r _ [535, 158, 536, 537, 538, 2, 539, 165, 166, 20, 498, 259, 260, 261, 50, 262, 70, 540, 541, 542, 543, 1055, 1056, 1057, 1058, 1087, 1088, 1089, 1090, 1091, 1092, 1093, 1094, 1109, 1110, 1111, 1112] (by decide +kernel) (by decide +kernel)) (goodIn_sub (fun _ h => List.mem_append_left _ (List.mem_append_right _ h)) (by decide +kernel))
set_option maxRecDepth 20000 in
theorem gL_law_L_dropResult : GoodIn wsL_law (va_wsS RL 151 yL_dropResult wsL_dropResult) := goodIn_app (goodIn_of _ (by decide +kernel)) ggL_law_L_dropResult
set_option maxRecDepth 20000 in
theorem ggL_law_X9_dropResult : GoodIn wsL_law wsX9_dropResult := goodIn_r _ [547, 186, 135, 188, 192, 193, 194, 5, 195, 1059, 1060, 1061, 1062, 1063, 1064, 1065, 1066, 1067, 1068, 1069, 1070, 1071, 1072, 1073, 1074, 1075, 1076, 1077, 1078, 1079, 1080, 1081, 1082] (by decide +kernel) (by decide +kernel)
set_option maxRecDepth 20000 in
theorem gL_law_X9_dropResult : GoodIn wsL_law (wsV RL 153 RX9 yX9_dropResult wsX9_dropResult) := goodIn_app (goodIn_of _ (by decide +kernel)) ggL_law_X9_dropResult
set_option maxRecDepth 20000 in
theorem ggL_law_L_count : GoodIn wsL_law wsL_count := goodIn_ca (goodIn_r _ [550, 288, 551, 552, 553, 2, 554, 293, 294, 20, 555, 556, 557, 19, 558, 63, 559, 391, 392, 62, 393, 101, 518, 519, 520, 521, 51, 52, 59, 522, 64, 560, 260, 261, 50, 262, 70, 1055, 1056, 1057, 1058, 1087, 1088, 1089, 1090, 1091, 1092, 1093, 1094, 1120, 1121, 1122, 1123, 1124, 1125, 1126, 1113, 1114, 1115, 1116, 1117, 1118, 1119, 1109, 1110, 1111, 1112] (by decide +kernel) (by decide +kernel)) (goodIn_sub (fun _ h => List.mem_append_right _ h) (by decide +kernel))
set_option maxRecDepth 20000 in
theorem gL_law_L_count : GoodIn wsL_law (va_wsS RL 154 yL_count wsL_count) := goodIn_app (goodIn_of _ (by decide +kernel)) ggL_law_L_count
set_option maxRecDepth 20000 in
theorem ggL_law_X9_count : GoodIn wsL_law wsX9_count := goodIn_r _ [564, 186, 415, 135, 189, 190, 5, 191, 192, 193, 194, 195, 1059, 1060, 1061, 1062, 1063, 1064, 1065, 1066, 1067, 1068, 1069, 1070, 1071, 1072, 1073, 1074, 1075, 1076, 1077, 1078, 1079, 1080, 1081, 1082] (by decide +kernel) (by decide +kernel)
set_option maxRecDepth 20000 in
theorem gL_law_X9_count : GoodIn wsL_law (wsV RL 157 RX9 yX9_count wsX9_count) := goodIn_app (goodIn_of _ (by decide +kernel)) ggL_law_X9_count
set_option maxRecDepth 20000 in
theorem ggL_law_L_presence : GoodIn wsL_law wsL_presence := goodIn_ca (goodIn_r _ [567, 288, 568, 569, 570, 2, 571, 293, 294, 20, 514, 515, 516, 19, 517, 518, 519, 520, 521, 51, 52, 59, 522, 64, 329, 297, 298, 50, 299, 70, 572, 573, 574, 575, 54, 55, 576, 577, 578, 579, 74, 528, 228, 229, 34, 230, 44, 580, 581, 582, 583, 58, 584, 84, 389, 585, 586, 587, 588, 63, 65, 589, 458, 459, 62, 460, 96, 461, 590, 216, 217, 218, 16, 219, 220, 221, 15, 222, 223, 224, 225, 226, 38, 36, 37, 35, 227, 231, 232, 1055, 1056, 1057, 1058, 1087, 1088, 1089, 1090, 1091, 1092, 1093, 1094, 1113, 1114, 1115, 1116, 1117, 1118, 1119, 1109, 1110, 1111, 1112, 1108, 1120, 1121, 1122, 1123, 1124, 1125, 1126, 1083, 1084, 1085, 1086] (by decide +kernel) (by decide +kernel)) (goodIn_sub (fun _ h => List.mem_append_right _ h) (by decide +kernel))
set_option maxRecDepth 20000 in
theorem gL_law_L_presence : GoodIn wsL_law (va_wsS RL 158 yL_presence wsL_presence) := goodIn_app (goodIn_of _ (by decide +kernel)) ggL_law_L_presence
