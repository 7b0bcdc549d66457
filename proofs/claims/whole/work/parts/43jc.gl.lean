set_option maxRecDepth 100000 in
theorem ggL_law_X9_digest : GoodIn wsL_law wsX9_digest := goodIn_r _ [1052, 186, 1053, 1054, 135, 415, 152, 237, 238, 239, 5, 240, 241, 242, 243, 244, 187, 133, 134, 132, 189, 190, 191, 245, 246, 247, 595, 596, 597, 598, 599, 600, 601, 602, 138, 139, 142, 148, 146, 603, 604, 605, 606, 136, 137, 944, 945, 946, 947, 806, 807, 808, 809, 188, 151, 144, 810, 811, 812, 813, 814, 815, 816, 817, 696, 697, 698, 699, 677, 678, 679, 680, 818, 819, 820, 821, 145, 141, 143, 822, 823, 824, 825, 715, 716, 717, 718, 826, 827, 828, 829, 830, 831, 832, 833, 149, 147, 150, 834, 835, 836, 837, 838, 839, 840, 841, 1059, 1060, 1061, 1062, 1063, 1064, 1065, 1066, 1067, 1068, 1069, 1070, 1071, 1072, 1073, 1074, 1075, 1076, 1077, 1078, 1079, 1080, 1081, 1082] rfl (by decide +kernel)
set_option maxRecDepth 100000 in
theorem gL_law_X9_digest : GoodIn wsL_law (wsV RL 201 RX9 yX9_digest wsX9_digest) := goodIn_app (goodIn_of _ (by decide +kernel)) ggL_law_X9_digest
theorem dL_law_0 : decode cL_law 0 = .ok (.new 8, 3) := by decide +kernel
theorem dL_law_3 : decode cL_law 3 = .ok (.dup, 1) := by decide +kernel
