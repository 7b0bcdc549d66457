theorem dX6_allowed_4 : decode cX6_allowed 4 = .ok (.iload_n 2, 1) := by decide +kernel
theorem dX6_allowed_5 : decode cX6_allowed 5 = .ok (.bipush 16, 2) := by decide +kernel
theorem dX6_allowed_7 : decode cX6_allowed 7 = .ok (.if_icmp .ge 23, 3) := by decide +kernel
theorem dX6_allowed_10 : decode cX6_allowed 10 = .ok (.aload_n 0, 1) := by decide +kernel
theorem dX6_allowed_11 : decode cX6_allowed 11 = .ok (.iload_n 2, 1) := by decide +kernel
theorem dX6_allowed_12 : decode cX6_allowed 12 = .ok (.invokevirtual 34, 3) := by decide +kernel
theorem dX6_allowed_15 : decode cX6_allowed 15 = .ok (.ifCond .eq 9, 3) := by decide +kernel
theorem dX6_allowed_18 : decode cX6_allowed 18 = .ok (.iload_n 1, 1) := by decide +kernel
theorem dX6_allowed_19 : decode cX6_allowed 19 = .ok (.iconst 1, 1) := by decide +kernel
theorem dX6_allowed_20 : decode cX6_allowed 20 = .ok (.iload_n 2, 1) := by decide +kernel
theorem dX6_allowed_21 : decode cX6_allowed 21 = .ok (.ishl, 1) := by decide +kernel
theorem dX6_allowed_22 : decode cX6_allowed 22 = .ok (.ior, 1) := by decide +kernel
theorem dX6_allowed_23 : decode cX6_allowed 23 = .ok (.istore_n 1, 1) := by decide +kernel
theorem dX6_allowed_24 : decode cX6_allowed 24 = .ok (.iinc 2 1, 3) := by decide +kernel
theorem dX6_allowed_27 : decode cX6_allowed 27 = .ok (.goto (-23), 3) := by decide +kernel
theorem dX6_allowed_30 : decode cX6_allowed 30 = .ok (.iload_n 1, 1) := by decide +kernel
theorem dX6_allowed_31 : decode cX6_allowed 31 = .ok (.ireturn, 1) := by decide +kernel
set_option maxRecDepth 20000 in
theorem ggX6_areKept_X5_at : GoodIn wsX6_areKept wsX5_at := goodIn_r _ [9, 10, 18] (by decide +kernel) (by decide +kernel)
set_option maxRecDepth 20000 in
theorem gX6_areKept_X5_at : GoodIn wsX6_areKept (wsV RX6 38 RX5 yX5_at wsX5_at) := goodIn_app (goodIn_of _ (by decide +kernel)) ggX6_areKept_X5_at
set_option maxRecDepth 20000 in
theorem ggX6_areKept_X8_isIn : GoodIn wsX6_areKept wsX8_isIn := goodIn_r _ [13] (by decide +kernel) (by decide +kernel)
set_option maxRecDepth 20000 in
theorem gX6_areKept_X8_isIn_n42 : GoodIn wsX6_areKept (wsX8_isIn) := ggX6_areKept_X8_isIn
theorem dX6_areKept_0 : decode cX6_areKept 0 = .ok (.iconst 0, 1) := by decide +kernel
theorem dX6_areKept_1 : decode cX6_areKept 1 = .ok (.istore_n 2, 1) := by decide +kernel
theorem dX6_areKept_2 : decode cX6_areKept 2 = .ok (.iload_n 2, 1) := by decide +kernel
theorem dX6_areKept_3 : decode cX6_areKept 3 = .ok (.aload_n 0, 1) := by decide +kernel
theorem dX6_areKept_4 : decode cX6_areKept 4 = .ok (.getfield 26, 3) := by decide +kernel
theorem dX6_areKept_7 : decode cX6_areKept 7 = .ok (.if_icmp .ge 64, 3) := by decide +kernel
theorem dX6_areKept_10 : decode cX6_areKept 10 = .ok (.iload_n 1, 1) := by decide +kernel
theorem dX6_areKept_11 : decode cX6_areKept 11 = .ok (.aload_n 0, 1) := by decide +kernel
theorem dX6_areKept_12 : decode cX6_areKept 12 = .ok (.getfield 20, 3) := by decide +kernel
theorem dX6_areKept_15 : decode cX6_areKept 15 = .ok (.iload_n 2, 1) := by decide +kernel
theorem dX6_areKept_16 : decode cX6_areKept 16 = .ok (.invokevirtual 38, 3) := by decide +kernel
theorem dX6_areKept_19 : decode cX6_areKept 19 = .ok (.invokestatic 42, 3) := by decide +kernel
theorem dX6_areKept_22 : decode cX6_areKept 22 = .ok (.istore_n 3, 1) := by decide +kernel
theorem dX6_areKept_23 : decode cX6_areKept 23 = .ok (.iload_n 1, 1) := by decide +kernel
theorem dX6_areKept_24 : decode cX6_areKept 24 = .ok (.aload_n 0, 1) := by decide +kernel
theorem dX6_areKept_25 : decode cX6_areKept 25 = .ok (.getfield 23, 3) := by decide +kernel
theorem dX6_areKept_28 : decode cX6_areKept 28 = .ok (.iload_n 2, 1) := by decide +kernel
theorem dX6_areKept_29 : decode cX6_areKept 29 = .ok (.invokevirtual 38, 3) := by decide +kernel
theorem dX6_areKept_32 : decode cX6_areKept 32 = .ok (.invokestatic 42, 3) := by decide +kernel
theorem dX6_areKept_35 : decode cX6_areKept 35 = .ok (.istore 4, 2) := by decide +kernel
theorem dX6_areKept_37 : decode cX6_areKept 37 = .ok (.iload_n 3, 1) := by decide +kernel
theorem dX6_areKept_38 : decode cX6_areKept 38 = .ok (.ifCond .eq 27, 3) := by decide +kernel
theorem dX6_areKept_41 : decode cX6_areKept 41 = .ok (.iload 4, 2) := by decide +kernel
theorem dX6_areKept_43 : decode cX6_areKept 43 = .ok (.aload_n 0, 1) := by decide +kernel
theorem dX6_areKept_44 : decode cX6_areKept 44 = .ok (.getfield 14, 3) := by decide +kernel
theorem dX6_areKept_47 : decode cX6_areKept 47 = .ok (.iload_n 2, 1) := by decide +kernel
theorem dX6_areKept_48 : decode cX6_areKept 48 = .ok (.invokevirtual 38, 3) := by decide +kernel
theorem dX6_areKept_51 : decode cX6_areKept 51 = .ok (.iconst 1, 1) := by decide +kernel
theorem dX6_areKept_52 : decode cX6_areKept 52 = .ok (.if_icmp .ne 7, 3) := by decide +kernel
theorem dX6_areKept_55 : decode cX6_areKept 55 = .ok (.iconst 1, 1) := by decide +kernel
theorem dX6_areKept_56 : decode cX6_areKept 56 = .ok (.goto 4, 3) := by decide +kernel
theorem dX6_areKept_59 : decode cX6_areKept 59 = .ok (.iconst 0, 1) := by decide +kernel
theorem dX6_areKept_60 : decode cX6_areKept 60 = .ok (.if_icmp .ne 5, 3) := by decide +kernel
theorem dX6_areKept_63 : decode cX6_areKept 63 = .ok (.iconst 0, 1) := by decide +kernel
theorem dX6_areKept_64 : decode cX6_areKept 64 = .ok (.ireturn, 1) := by decide +kernel
theorem dX6_areKept_65 : decode cX6_areKept 65 = .ok (.iinc 2 1, 3) := by decide +kernel
theorem dX6_areKept_68 : decode cX6_areKept 68 = .ok (.goto (-66), 3) := by decide +kernel
theorem dX6_areKept_71 : decode cX6_areKept 71 = .ok (.iconst 1, 1) := by decide +kernel
theorem dX6_areKept_72 : decode cX6_areKept 72 = .ok (.ireturn, 1) := by decide +kernel
set_option maxRecDepth 20000 in
theorem ggX7_init_X5_init : GoodIn wsX7_init wsX5_init := goodIn_r _ [17, 18, 2, 3, 19, 20, 21] (by decide +kernel) (by decide +kernel)
set_option maxRecDepth 20000 in
theorem gX7_init_X5_init : GoodIn wsX7_init (wsX5_init) := ggX7_init_X5_init
theorem dX7_init_0 : decode cX7_init 0 = .ok (.aload_n 0, 1) := by decide +kernel
theorem dX7_init_1 : decode cX7_init 1 = .ok (.invokespecial 3, 3) := by decide +kernel
theorem dX7_init_4 : decode cX7_init 4 = .ok (.aload_n 0, 1) := by decide +kernel
theorem dX7_init_5 : decode cX7_init 5 = .ok (.new 9, 3) := by decide +kernel
theorem dX7_init_8 : decode cX7_init 8 = .ok (.dup, 1) := by decide +kernel
theorem dX7_init_9 : decode cX7_init 9 = .ok (.iconst 4, 1) := by decide +kernel
theorem dX7_init_10 : decode cX7_init 10 = .ok (.invokespecial 11, 3) := by decide +kernel
theorem dX7_init_13 : decode cX7_init 13 = .ok (.putfield 14, 3) := by decide +kernel
theorem dX7_init_16 : decode cX7_init 16 = .ok (.aload_n 0, 1) := by decide +kernel
theorem dX7_init_17 : decode cX7_init 17 = .ok (.new 9, 3) := by decide +kernel
theorem dX7_init_20 : decode cX7_init 20 = .ok (.dup, 1) := by decide +kernel
theorem dX7_init_21 : decode cX7_init 21 = .ok (.bipush 8, 2) := by decide +kernel
theorem dX7_init_23 : decode cX7_init 23 = .ok (.invokespecial 11, 3) := by decide +kernel
theorem dX7_init_26 : decode cX7_init 26 = .ok (.putfield 20, 3) := by decide +kernel
theorem dX7_init_29 : decode cX7_init 29 = .ok (.aload_n 0, 1) := by decide +kernel
theorem dX7_init_30 : decode cX7_init 30 = .ok (.new 9, 3) := by decide +kernel
theorem dX7_init_33 : decode cX7_init 33 = .ok (.dup, 1) := by decide +kernel
theorem dX7_init_34 : decode cX7_init 34 = .ok (.bipush 8, 2) := by decide +kernel
theorem dX7_init_36 : decode cX7_init 36 = .ok (.invokespecial 11, 3) := by decide +kernel
theorem dX7_init_39 : decode cX7_init 39 = .ok (.putfield 23, 3) := by decide +kernel
theorem dX7_init_42 : decode cX7_init 42 = .ok (.aload_n 0, 1) := by decide +kernel
theorem dX7_init_43 : decode cX7_init 43 = .ok (.new 9, 3) := by decide +kernel
theorem dX7_init_46 : decode cX7_init 46 = .ok (.dup, 1) := by decide +kernel
theorem dX7_init_47 : decode cX7_init 47 = .ok (.sipush 160, 3) := by decide +kernel
theorem dX7_init_50 : decode cX7_init 50 = .ok (.invokespecial 11, 3) := by decide +kernel
theorem dX7_init_53 : decode cX7_init 53 = .ok (.putfield 26, 3) := by decide +kernel
theorem dX7_init_56 : decode cX7_init 56 = .ok (.aload_n 0, 1) := by decide +kernel
theorem dX7_init_57 : decode cX7_init 57 = .ok (.new 9, 3) := by decide +kernel
theorem dX7_init_60 : decode cX7_init 60 = .ok (.dup, 1) := by decide +kernel
theorem dX7_init_61 : decode cX7_init 61 = .ok (.bipush 50, 2) := by decide +kernel
theorem dX7_init_63 : decode cX7_init 63 = .ok (.invokespecial 11, 3) := by decide +kernel
theorem dX7_init_66 : decode cX7_init 66 = .ok (.putfield 29, 3) := by decide +kernel
theorem dX7_init_69 : decode cX7_init 69 = .ok (.aload_n 0, 1) := by decide +kernel
theorem dX7_init_70 : decode cX7_init 70 = .ok (.new 9, 3) := by decide +kernel
theorem dX7_init_73 : decode cX7_init 73 = .ok (.dup, 1) := by decide +kernel
theorem dX7_init_74 : decode cX7_init 74 = .ok (.sipush 800, 3) := by decide +kernel
theorem dX7_init_77 : decode cX7_init 77 = .ok (.invokespecial 11, 3) := by decide +kernel
theorem dX7_init_80 : decode cX7_init 80 = .ok (.putfield 32, 3) := by decide +kernel
theorem dX7_init_83 : decode cX7_init 83 = .ok (.aload_n 0, 1) := by decide +kernel
theorem dX7_init_84 : decode cX7_init 84 = .ok (.iconst 0, 1) := by decide +kernel
theorem dX7_init_85 : decode cX7_init 85 = .ok (.putfield 35, 3) := by decide +kernel
theorem dX7_init_88 : decode cX7_init 88 = .ok (.aload_n 0, 1) := by decide +kernel
theorem dX7_init_89 : decode cX7_init 89 = .ok (.aload_n 1, 1) := by decide +kernel
theorem dX7_init_90 : decode cX7_init 90 = .ok (.putfield 39, 3) := by decide +kernel
theorem dX7_init_93 : decode cX7_init 93 = .ok (.return_, 1) := by decide +kernel
set_option maxRecDepth 20000 in
theorem ggX7_look_X7_lookForElements : GoodIn wsX7_look wsX7_lookForElements := goodIn_r _ [6, 7, 1, 8, 9, 10, 11, 12, 13, 14, 15, 16, 17, 18, 19, 20, 21, 22, 23, 24, 25, 26, 27, 28, 29, 30, 31, 32, 33, 34, 35, 36, 37, 38, 39, 40, 41, 42, 43, 44, 45, 46, 47, 48, 49, 50, 51, 52, 53, 54, 55, 56, 57, 58, 59, 60, 61, 62, 63, 64, 65, 66, 67, 68, 69, 70, 71, 72, 73, 74, 75, 76, 77, 78, 128, 129, 130, 131, 132, 133, 134, 135, 136, 137, 138, 139, 140, 141, 142, 143, 144, 145, 146, 147, 148, 149, 150, 151, 152, 153, 154, 155, 156, 157, 158, 159, 160, 161, 162] (by decide +kernel) (by decide +kernel)
set_option maxRecDepth 20000 in
theorem gX7_look_X7_lookForElements : GoodIn wsX7_look (wsV RX7 43 RX7 yX7_lookForElements wsX7_lookForElements) := goodIn_app (goodIn_of _ (by decide +kernel)) ggX7_look_X7_lookForElements
set_option maxRecDepth 20000 in
theorem ggX7_look_X7_lookForParents : GoodIn wsX7_look wsX7_lookForParents := goodIn_r _ [82, 83, 7, 84, 85, 86, 87, 88, 89, 50, 90, 52, 91, 31, 32, 33, 34, 35, 92, 93, 94, 5, 95, 8, 96, 48, 49, 51, 72, 73, 74, 75, 76, 77, 78, 128, 129, 130, 131, 132, 133, 134, 135, 136, 137, 138, 139, 140, 141, 142, 143, 162, 158, 159, 160, 161] (by decide +kernel) (by decide +kernel)
set_option maxRecDepth 20000 in
theorem gX7_look_X7_lookForParents : GoodIn wsX7_look (wsV RX7 46 RX7 yX7_lookForParents wsX7_lookForParents) := goodIn_app (goodIn_of _ (by decide +kernel)) ggX7_look_X7_lookForParents
set_option maxRecDepth 20000 in
theorem ggX7_look_X7_lookForAncestors : GoodIn wsX7_look wsX7_lookForAncestors := goodIn_r _ [100, 83, 101, 96, 48, 49, 50, 51, 52, 75, 76, 77, 78, 128, 129, 130, 131, 132, 133, 134, 135, 162] (by decide +kernel) (by decide +kernel)
set_option maxRecDepth 20000 in
theorem gX7_look_X7_lookForAncestors : GoodIn wsX7_look (wsV RX7 49 RX7 yX7_lookForAncestors wsX7_lookForAncestors) := goodIn_app (goodIn_of _ (by decide +kernel)) ggX7_look_X7_lookForAncestors
set_option maxRecDepth 20000 in
theorem ggX7_look_X7_lookForFirstMembers : GoodIn wsX7_look wsX7_lookForFirstMembers := goodIn_r _ [105, 106, 7, 107, 87, 88, 89, 50, 90, 52, 108, 109, 110, 57, 111, 112, 113, 31, 32, 33, 34, 35, 92, 93, 94, 5, 95, 8, 96, 48, 49, 51, 72, 73, 74, 114, 55, 56, 58, 59, 60, 115, 116, 117, 118, 119, 120, 121, 122, 123, 124, 125, 126, 127, 75, 76, 77, 78, 128, 129, 130, 131, 132, 133, 134, 135, 136, 137, 138, 139, 140, 141, 142, 143, 162, 151, 152, 153, 154, 155, 156, 157, 158, 159, 160, 161] (by decide +kernel) (by decide +kernel)
set_option maxRecDepth 20000 in
theorem gX7_look_X7_lookForFirstMembers : GoodIn wsX7_look (wsV RX7 52 RX7 yX7_lookForFirstMembers wsX7_lookForFirstMembers) := goodIn_app (goodIn_of _ (by decide +kernel)) ggX7_look_X7_lookForFirstMembers
theorem dX7_look_0 : decode cX7_look 0 = .ok (.aload_n 0, 1) := by decide +kernel
theorem dX7_look_1 : decode cX7_look 1 = .ok (.iload_n 1, 1) := by decide +kernel
theorem dX7_look_2 : decode cX7_look 2 = .ok (.putfield 35, 3) := by decide +kernel
theorem dX7_look_5 : decode cX7_look 5 = .ok (.iconst 0, 1) := by decide +kernel
theorem dX7_look_6 : decode cX7_look 6 = .ok (.istore_n 2, 1) := by decide +kernel
theorem dX7_look_7 : decode cX7_look 7 = .ok (.iload_n 2, 1) := by decide +kernel
theorem dX7_look_8 : decode cX7_look 8 = .ok (.iconst 3, 1) := by decide +kernel
theorem dX7_look_9 : decode cX7_look 9 = .ok (.if_icmp .gt 14, 3) := by decide +kernel
theorem dX7_look_12 : decode cX7_look 12 = .ok (.aload_n 0, 1) := by decide +kernel
theorem dX7_look_13 : decode cX7_look 13 = .ok (.iload_n 2, 1) := by decide +kernel
theorem dX7_look_14 : decode cX7_look 14 = .ok (.invokevirtual 43, 3) := by decide +kernel
theorem dX7_look_17 : decode cX7_look 17 = .ok (.iinc 2 1, 3) := by decide +kernel
theorem dX7_look_20 : decode cX7_look 20 = .ok (.goto (-13), 3) := by decide +kernel
theorem dX7_look_23 : decode cX7_look 23 = .ok (.aload_n 0, 1) := by decide +kernel
theorem dX7_look_24 : decode cX7_look 24 = .ok (.invokevirtual 46, 3) := by decide +kernel
theorem dX7_look_27 : decode cX7_look 27 = .ok (.aload_n 0, 1) := by decide +kernel
theorem dX7_look_28 : decode cX7_look 28 = .ok (.invokevirtual 49, 3) := by decide +kernel
theorem dX7_look_31 : decode cX7_look 31 = .ok (.aload_n 0, 1) := by decide +kernel
theorem dX7_look_32 : decode cX7_look 32 = .ok (.invokevirtual 52, 3) := by decide +kernel
theorem dX7_look_35 : decode cX7_look 35 = .ok (.return_, 1) := by decide +kernel
set_option maxRecDepth 20000 in
theorem ggX7_lookForElements_X4_size : GoodIn wsX7_lookForElements wsX4_size := goodIn_r _ [8, 9, 10, 11, 12, 13, 14, 15, 16, 17, 18, 7, 19, 20, 21, 22, 23, 24, 25, 26, 27, 28, 29, 30, 82, 83, 84, 85, 86, 87, 88, 89, 90, 91, 92, 93, 94, 95, 96, 97, 98, 99, 100, 101, 102, 103, 104, 105, 106, 107] (by decide +kernel) (by decide +kernel)
set_option maxRecDepth 20000 in
theorem gX7_lookForElements_X4_size : GoodIn wsX7_lookForElements (wsV RX7 55 RX4 yX4_size wsX4_size) := goodIn_app (goodIn_of _ (by decide +kernel)) ggX7_lookForElements_X4_size
set_option maxRecDepth 20000 in
theorem ggX7_lookForElements_X4_whereThere : GoodIn wsX7_lookForElements wsX4_whereThere := goodIn_r _ [34, 20, 35, 36, 22, 23, 16, 17, 18, 7, 19, 21, 24, 37, 38, 39, 28, 40, 41, 42, 43, 44, 45, 46, 47, 48, 49, 50, 51, 52, 53, 54, 55, 56, 57, 58, 59, 9, 60, 61, 62, 63, 13, 64, 65, 66, 82, 83, 84, 85, 86, 87, 88, 89, 97, 98, 99, 100, 101, 102, 103, 104, 105, 106, 107, 108, 90, 91, 92, 93, 94, 95, 96] (by decide +kernel) (by decide +kernel)
set_option maxRecDepth 20000 in
theorem gX7_lookForElements_X4_whereThere : GoodIn wsX7_lookForElements (wsV RX7 61 RX4 yX4_whereThere wsX4_whereThere) := goodIn_app (goodIn_of _ (by decide +kernel)) ggX7_lookForElements_X4_whereThere
set_option maxRecDepth 20000 in
theorem ggX7_lookForElements_X8_isIn : GoodIn wsX7_lookForElements wsX8_isIn := goodIn_r _ [69] (by decide +kernel) (by decide +kernel)
set_option maxRecDepth 20000 in
theorem gX7_lookForElements_X8_isIn_n65 : GoodIn wsX7_lookForElements (wsX8_isIn) := ggX7_lookForElements_X8_isIn
set_option maxRecDepth 20000 in
theorem ggX7_lookForElements_X5_put : GoodIn wsX7_lookForElements wsX5_put := goodIn_r _ [73, 47, 108] (by decide +kernel) (by decide +kernel)
set_option maxRecDepth 20000 in
theorem gX7_lookForElements_X5_put : GoodIn wsX7_lookForElements (wsV RX7 69 RX5 yX5_put wsX5_put) := goodIn_app (goodIn_of _ (by decide +kernel)) ggX7_lookForElements_X5_put
theorem dX7_lookForElements_0 : decode cX7_lookForElements 0 = .ok (.iconst 0, 1) := by decide +kernel
theorem dX7_lookForElements_1 : decode cX7_lookForElements 1 = .ok (.istore_n 2, 1) := by decide +kernel
theorem dX7_lookForElements_2 : decode cX7_lookForElements 2 = .ok (.iconst 0, 1) := by decide +kernel
theorem dX7_lookForElements_3 : decode cX7_lookForElements 3 = .ok (.istore_n 3, 1) := by decide +kernel
theorem dX7_lookForElements_4 : decode cX7_lookForElements 4 = .ok (.iload_n 3, 1) := by decide +kernel
theorem dX7_lookForElements_5 : decode cX7_lookForElements 5 = .ok (.aload_n 0, 1) := by decide +kernel
theorem dX7_lookForElements_6 : decode cX7_lookForElements 6 = .ok (.getfield 39, 3) := by decide +kernel
theorem dX7_lookForElements_9 : decode cX7_lookForElements 9 = .ok (.iload_n 1, 1) := by decide +kernel
theorem dX7_lookForElements_10 : decode cX7_lookForElements 10 = .ok (.invokevirtual 55, 3) := by decide +kernel
theorem dX7_lookForElements_13 : decode cX7_lookForElements 13 = .ok (.if_icmp .ge 34, 3) := by decide +kernel
theorem dX7_lookForElements_16 : decode cX7_lookForElements 16 = .ok (.aload_n 0, 1) := by decide +kernel
theorem dX7_lookForElements_17 : decode cX7_lookForElements 17 = .ok (.getfield 39, 3) := by decide +kernel
theorem dX7_lookForElements_20 : decode cX7_lookForElements 20 = .ok (.iload_n 1, 1) := by decide +kernel
theorem dX7_lookForElements_21 : decode cX7_lookForElements 21 = .ok (.iload_n 3, 1) := by decide +kernel
theorem dX7_lookForElements_22 : decode cX7_lookForElements 22 = .ok (.invokevirtual 61, 3) := by decide +kernel
theorem dX7_lookForElements_25 : decode cX7_lookForElements 25 = .ok (.aload_n 0, 1) := by decide +kernel
theorem dX7_lookForElements_26 : decode cX7_lookForElements 26 = .ok (.getfield 35, 3) := by decide +kernel
theorem dX7_lookForElements_29 : decode cX7_lookForElements 29 = .ok (.invokestatic 65, 3) := by decide +kernel
theorem dX7_lookForElements_32 : decode cX7_lookForElements 32 = .ok (.ifCond .eq 9, 3) := by decide +kernel
theorem dX7_lookForElements_35 : decode cX7_lookForElements 35 = .ok (.iload_n 2, 1) := by decide +kernel
theorem dX7_lookForElements_36 : decode cX7_lookForElements 36 = .ok (.iconst 1, 1) := by decide +kernel
theorem dX7_lookForElements_37 : decode cX7_lookForElements 37 = .ok (.iload_n 3, 1) := by decide +kernel
theorem dX7_lookForElements_38 : decode cX7_lookForElements 38 = .ok (.ishl, 1) := by decide +kernel
theorem dX7_lookForElements_39 : decode cX7_lookForElements 39 = .ok (.ior, 1) := by decide +kernel
theorem dX7_lookForElements_40 : decode cX7_lookForElements 40 = .ok (.istore_n 2, 1) := by decide +kernel
theorem dX7_lookForElements_41 : decode cX7_lookForElements 41 = .ok (.iinc 3 1, 3) := by decide +kernel
theorem dX7_lookForElements_44 : decode cX7_lookForElements 44 = .ok (.goto (-40), 3) := by decide +kernel
theorem dX7_lookForElements_47 : decode cX7_lookForElements 47 = .ok (.aload_n 0, 1) := by decide +kernel
theorem dX7_lookForElements_48 : decode cX7_lookForElements 48 = .ok (.getfield 14, 3) := by decide +kernel
theorem dX7_lookForElements_51 : decode cX7_lookForElements 51 = .ok (.iload_n 1, 1) := by decide +kernel
theorem dX7_lookForElements_52 : decode cX7_lookForElements 52 = .ok (.iload_n 2, 1) := by decide +kernel
theorem dX7_lookForElements_53 : decode cX7_lookForElements 53 = .ok (.invokevirtual 69, 3) := by decide +kernel
theorem dX7_lookForElements_56 : decode cX7_lookForElements 56 = .ok (.return_, 1) := by decide +kernel
set_option maxRecDepth 20000 in
theorem ggX7_lookForParents_X5_fill : GoodIn wsX7_lookForParents wsX5_fill := goodIn_r _ [10, 11, 51] (by decide +kernel) (by decide +kernel)
set_option maxRecDepth 20000 in
theorem gX7_lookForParents_X5_fill : GoodIn wsX7_lookForParents (wsV RX7 73 RX5 yX5_fill wsX5_fill) := goodIn_app (goodIn_of _ (by decide +kernel)) ggX7_lookForParents_X5_fill
set_option maxRecDepth 20000 in
theorem ggX7_lookForParents_X0_size : GoodIn wsX7_lookForParents wsX0_size := goodIn_r _ [16, 17, 52, 53, 54, 55] (by decide +kernel) (by decide +kernel)
set_option maxRecDepth 20000 in
theorem gX7_lookForParents_X0_size : GoodIn wsX7_lookForParents (wsV RX7 80 RX0 yX0_size wsX0_size) := goodIn_app (goodIn_of _ (by decide +kernel)) ggX7_lookForParents_X0_size
set_option maxRecDepth 20000 in
theorem ggX7_lookForParents_X7_isThere : GoodIn wsX7_lookForParents wsX7_isThere := goodIn_r _ [22, 23, 24, 25, 26, 9, 27, 11, 28, 29, 30, 35, 36, 37, 38, 39, 40, 41, 42, 51] (by decide +kernel) (by decide +kernel)
set_option maxRecDepth 20000 in
theorem gX7_lookForParents_X7_isThere : GoodIn wsX7_lookForParents (wsV RX7 85 RX7 yX7_isThere wsX7_isThere) := goodIn_app (goodIn_of _ (by decide +kernel)) ggX7_lookForParents_X7_isThere
set_option maxRecDepth 20000 in
theorem ggX7_lookForParents_X5_at : GoodIn wsX7_lookForParents wsX5_at := goodIn_r _ [27, 11, 51] (by decide +kernel) (by decide +kernel)
set_option maxRecDepth 20000 in
theorem gX7_lookForParents_X5_at : GoodIn wsX7_lookForParents (wsV RX7 91 RX5 yX5_at wsX5_at) := goodIn_app (goodIn_of _ (by decide +kernel)) ggX7_lookForParents_X5_at
set_option maxRecDepth 20000 in
theorem ggX7_lookForParents_X5_put : GoodIn wsX7_lookForParents wsX5_put := goodIn_r _ [34, 11, 51] (by decide +kernel) (by decide +kernel)
set_option maxRecDepth 20000 in
theorem gX7_lookForParents_X5_put : GoodIn wsX7_lookForParents (wsV RX7 69 RX5 yX5_put wsX5_put) := goodIn_app (goodIn_of _ (by decide +kernel)) ggX7_lookForParents_X5_put
theorem dX7_lookForParents_0 : decode cX7_lookForParents 0 = .ok (.aload_n 0, 1) := by decide +kernel
theorem dX7_lookForParents_1 : decode cX7_lookForParents 1 = .ok (.getfield 20, 3) := by decide +kernel
theorem dX7_lookForParents_4 : decode cX7_lookForParents 4 = .ok (.iconst (-1), 1) := by decide +kernel
theorem dX7_lookForParents_5 : decode cX7_lookForParents 5 = .ok (.invokevirtual 73, 3) := by decide +kernel
theorem dX7_lookForParents_8 : decode cX7_lookForParents 8 = .ok (.aload_n 0, 1) := by decide +kernel
theorem dX7_lookForParents_9 : decode cX7_lookForParents 9 = .ok (.getfield 39, 3) := by decide +kernel
theorem dX7_lookForParents_12 : decode cX7_lookForParents 12 = .ok (.getfield 76, 3) := by decide +kernel
theorem dX7_lookForParents_15 : decode cX7_lookForParents 15 = .ok (.invokevirtual 80, 3) := by decide +kernel
theorem dX7_lookForParents_18 : decode cX7_lookForParents 18 = .ok (.iconst 1, 1) := by decide +kernel
theorem dX7_lookForParents_19 : decode cX7_lookForParents 19 = .ok (.isub, 1) := by decide +kernel
theorem dX7_lookForParents_20 : decode cX7_lookForParents 20 = .ok (.istore_n 1, 1) := by decide +kernel
theorem dX7_lookForParents_21 : decode cX7_lookForParents 21 = .ok (.iload_n 1, 1) := by decide +kernel
theorem dX7_lookForParents_22 : decode cX7_lookForParents 22 = .ok (.ifCond .lt 47, 3) := by decide +kernel
theorem dX7_lookForParents_25 : decode cX7_lookForParents 25 = .ok (.aload_n 0, 1) := by decide +kernel
theorem dX7_lookForParents_26 : decode cX7_lookForParents 26 = .ok (.iconst 1, 1) := by decide +kernel
theorem dX7_lookForParents_27 : decode cX7_lookForParents 27 = .ok (.iload_n 1, 1) := by decide +kernel
theorem dX7_lookForParents_28 : decode cX7_lookForParents 28 = .ok (.invokevirtual 85, 3) := by decide +kernel
theorem dX7_lookForParents_31 : decode cX7_lookForParents 31 = .ok (.ifCond .eq 32, 3) := by decide +kernel
theorem dX7_lookForParents_34 : decode cX7_lookForParents 34 = .ok (.aload_n 0, 1) := by decide +kernel
theorem dX7_lookForParents_35 : decode cX7_lookForParents 35 = .ok (.getfield 20, 3) := by decide +kernel
theorem dX7_lookForParents_38 : decode cX7_lookForParents 38 = .ok (.aload_n 0, 1) := by decide +kernel
theorem dX7_lookForParents_39 : decode cX7_lookForParents 39 = .ok (.getfield 39, 3) := by decide +kernel
theorem dX7_lookForParents_42 : decode cX7_lookForParents 42 = .ok (.getfield 88, 3) := by decide +kernel
theorem dX7_lookForParents_45 : decode cX7_lookForParents 45 = .ok (.iload_n 1, 1) := by decide +kernel
theorem dX7_lookForParents_46 : decode cX7_lookForParents 46 = .ok (.invokevirtual 91, 3) := by decide +kernel
theorem dX7_lookForParents_49 : decode cX7_lookForParents 49 = .ok (.aload_n 0, 1) := by decide +kernel
theorem dX7_lookForParents_50 : decode cX7_lookForParents 50 = .ok (.getfield 39, 3) := by decide +kernel
theorem dX7_lookForParents_53 : decode cX7_lookForParents 53 = .ok (.getfield 94, 3) := by decide +kernel
theorem dX7_lookForParents_56 : decode cX7_lookForParents 56 = .ok (.iload_n 1, 1) := by decide +kernel
theorem dX7_lookForParents_57 : decode cX7_lookForParents 57 = .ok (.invokevirtual 91, 3) := by decide +kernel
theorem dX7_lookForParents_60 : decode cX7_lookForParents 60 = .ok (.invokevirtual 69, 3) := by decide +kernel
theorem dX7_lookForParents_63 : decode cX7_lookForParents 63 = .ok (.iinc 1 (-1), 3) := by decide +kernel
theorem dX7_lookForParents_66 : decode cX7_lookForParents 66 = .ok (.goto (-45), 3) := by decide +kernel
theorem dX7_lookForParents_69 : decode cX7_lookForParents 69 = .ok (.return_, 1) := by decide +kernel
set_option maxRecDepth 20000 in
theorem ggX7_lookForAncestors_X5_at : GoodIn wsX7_lookForAncestors wsX5_at := goodIn_r _ [7, 8, 21] (by decide +kernel) (by decide +kernel)
set_option maxRecDepth 20000 in
theorem gX7_lookForAncestors_X5_at : GoodIn wsX7_lookForAncestors (wsV RX7 91 RX5 yX5_at wsX5_at) := goodIn_app (goodIn_of _ (by decide +kernel)) ggX7_lookForAncestors_X5_at
set_option maxRecDepth 20000 in
theorem ggX7_lookForAncestors_X5_put : GoodIn wsX7_lookForAncestors wsX5_put := goodIn_r _ [12, 8, 21] (by decide +kernel) (by decide +kernel)
set_option maxRecDepth 20000 in
theorem gX7_lookForAncestors_X5_put : GoodIn wsX7_lookForAncestors (wsV RX7 69 RX5 yX5_put wsX5_put) := goodIn_app (goodIn_of _ (by decide +kernel)) ggX7_lookForAncestors_X5_put
theorem dX7_lookForAncestors_0 : decode cX7_lookForAncestors 0 = .ok (.iconst 0, 1) := by decide +kernel
theorem dX7_lookForAncestors_1 : decode cX7_lookForAncestors 1 = .ok (.istore_n 1, 1) := by decide +kernel
theorem dX7_lookForAncestors_2 : decode cX7_lookForAncestors 2 = .ok (.iload_n 1, 1) := by decide +kernel
theorem dX7_lookForAncestors_3 : decode cX7_lookForAncestors 3 = .ok (.bipush 8, 2) := by decide +kernel
theorem dX7_lookForAncestors_5 : decode cX7_lookForAncestors 5 = .ok (.if_icmp .ge 65, 3) := by decide +kernel
theorem dX7_lookForAncestors_8 : decode cX7_lookForAncestors 8 = .ok (.iconst 0, 1) := by decide +kernel
theorem dX7_lookForAncestors_9 : decode cX7_lookForAncestors 9 = .ok (.istore_n 2, 1) := by decide +kernel
theorem dX7_lookForAncestors_10 : decode cX7_lookForAncestors 10 = .ok (.aload_n 0, 1) := by decide +kernel
theorem dX7_lookForAncestors_11 : decode cX7_lookForAncestors 11 = .ok (.getfield 20, 3) := by decide +kernel
theorem dX7_lookForAncestors_14 : decode cX7_lookForAncestors 14 = .ok (.iload_n 1, 1) := by decide +kernel
theorem dX7_lookForAncestors_15 : decode cX7_lookForAncestors 15 = .ok (.invokevirtual 91, 3) := by decide +kernel
theorem dX7_lookForAncestors_18 : decode cX7_lookForAncestors 18 = .ok (.istore_n 3, 1) := by decide +kernel
theorem dX7_lookForAncestors_19 : decode cX7_lookForAncestors 19 = .ok (.iconst 0, 1) := by decide +kernel
theorem dX7_lookForAncestors_20 : decode cX7_lookForAncestors 20 = .ok (.istore 4, 2) := by decide +kernel
theorem dX7_lookForAncestors_22 : decode cX7_lookForAncestors 22 = .ok (.iload 4, 2) := by decide +kernel
theorem dX7_lookForAncestors_24 : decode cX7_lookForAncestors 24 = .ok (.bipush 8, 2) := by decide +kernel
theorem dX7_lookForAncestors_26 : decode cX7_lookForAncestors 26 = .ok (.if_icmp .ge 29, 3) := by decide +kernel
theorem dX7_lookForAncestors_29 : decode cX7_lookForAncestors 29 = .ok (.iload_n 3, 1) := by decide +kernel
theorem dX7_lookForAncestors_30 : decode cX7_lookForAncestors 30 = .ok (.iconst (-1), 1) := by decide +kernel
theorem dX7_lookForAncestors_31 : decode cX7_lookForAncestors 31 = .ok (.if_icmp .eq 24, 3) := by decide +kernel
theorem dX7_lookForAncestors_34 : decode cX7_lookForAncestors 34 = .ok (.iload_n 2, 1) := by decide +kernel
theorem dX7_lookForAncestors_35 : decode cX7_lookForAncestors 35 = .ok (.iconst 1, 1) := by decide +kernel
theorem dX7_lookForAncestors_36 : decode cX7_lookForAncestors 36 = .ok (.iload_n 3, 1) := by decide +kernel
theorem dX7_lookForAncestors_37 : decode cX7_lookForAncestors 37 = .ok (.ishl, 1) := by decide +kernel
theorem dX7_lookForAncestors_38 : decode cX7_lookForAncestors 38 = .ok (.ior, 1) := by decide +kernel
theorem dX7_lookForAncestors_39 : decode cX7_lookForAncestors 39 = .ok (.istore_n 2, 1) := by decide +kernel
theorem dX7_lookForAncestors_40 : decode cX7_lookForAncestors 40 = .ok (.aload_n 0, 1) := by decide +kernel
theorem dX7_lookForAncestors_41 : decode cX7_lookForAncestors 41 = .ok (.getfield 20, 3) := by decide +kernel
theorem dX7_lookForAncestors_44 : decode cX7_lookForAncestors 44 = .ok (.iload_n 3, 1) := by decide +kernel
theorem dX7_lookForAncestors_45 : decode cX7_lookForAncestors 45 = .ok (.invokevirtual 91, 3) := by decide +kernel
theorem dX7_lookForAncestors_48 : decode cX7_lookForAncestors 48 = .ok (.istore_n 3, 1) := by decide +kernel
theorem dX7_lookForAncestors_49 : decode cX7_lookForAncestors 49 = .ok (.iinc 4 1, 3) := by decide +kernel
theorem dX7_lookForAncestors_52 : decode cX7_lookForAncestors 52 = .ok (.goto (-30), 3) := by decide +kernel
theorem dX7_lookForAncestors_55 : decode cX7_lookForAncestors 55 = .ok (.aload_n 0, 1) := by decide +kernel
theorem dX7_lookForAncestors_56 : decode cX7_lookForAncestors 56 = .ok (.getfield 23, 3) := by decide +kernel
theorem dX7_lookForAncestors_59 : decode cX7_lookForAncestors 59 = .ok (.iload_n 1, 1) := by decide +kernel
theorem dX7_lookForAncestors_60 : decode cX7_lookForAncestors 60 = .ok (.iload_n 2, 1) := by decide +kernel
theorem dX7_lookForAncestors_61 : decode cX7_lookForAncestors 61 = .ok (.invokevirtual 69, 3) := by decide +kernel
theorem dX7_lookForAncestors_64 : decode cX7_lookForAncestors 64 = .ok (.iinc 1 1, 3) := by decide +kernel
theorem dX7_lookForAncestors_67 : decode cX7_lookForAncestors 67 = .ok (.goto (-65), 3) := by decide +kernel
theorem dX7_lookForAncestors_70 : decode cX7_lookForAncestors 70 = .ok (.return_, 1) := by decide +kernel
set_option maxRecDepth 20000 in
theorem ggX7_lookForFirstMembers_X5_fill : GoodIn wsX7_lookForFirstMembers wsX5_fill := goodIn_r _ [8, 9, 74] (by decide +kernel) (by decide +kernel)
set_option maxRecDepth 20000 in
theorem gX7_lookForFirstMembers_X5_fill : GoodIn wsX7_lookForFirstMembers (wsV RX7 73 RX5 yX5_fill wsX5_fill) := goodIn_app (goodIn_of _ (by decide +kernel)) ggX7_lookForFirstMembers_X5_fill
set_option maxRecDepth 20000 in
theorem ggX7_lookForFirstMembers_X3_size : GoodIn wsX7_lookForFirstMembers wsX3_size := goodIn_r _ [14, 15, 16, 17, 18, 19, 20, 21, 75, 76, 77, 78, 79, 80, 81, 82, 83, 84, 85] (by decide +kernel) (by decide +kernel)
set_option maxRecDepth 20000 in
theorem gX7_lookForFirstMembers_X3_size : GoodIn wsX7_lookForFirstMembers (wsV RX7 101 RX3 yX3_size wsX3_size) := goodIn_app (goodIn_of _ (by decide +kernel)) ggX7_lookForFirstMembers_X3_size
set_option maxRecDepth 20000 in
theorem ggX7_lookForFirstMembers_X7_isThere : GoodIn wsX7_lookForFirstMembers wsX7_isThere := goodIn_r _ [26, 27, 28, 29, 30, 7, 31, 9, 32, 33, 34, 58, 59, 60, 61, 62, 63, 64, 65, 74] (by decide +kernel) (by decide +kernel)
set_option maxRecDepth 20000 in
theorem gX7_lookForFirstMembers_X7_isThere : GoodIn wsX7_lookForFirstMembers (wsV RX7 85 RX7 yX7_isThere wsX7_isThere) := goodIn_app (goodIn_of _ (by decide +kernel)) ggX7_lookForFirstMembers_X7_isThere
set_option maxRecDepth 20000 in
theorem ggX7_lookForFirstMembers_X3_owner : GoodIn wsX7_lookForFirstMembers wsX3_owner := goodIn_r _ [38, 39, 40, 29, 30, 7, 31, 9, 75, 76, 77, 78, 79, 80, 81, 74] (by decide +kernel) (by decide +kernel)
set_option maxRecDepth 20000 in
theorem gX7_lookForFirstMembers_X3_owner : GoodIn wsX7_lookForFirstMembers (wsV RX7 104 RX3 yX3_owner wsX3_owner) := goodIn_app (goodIn_of _ (by decide +kernel)) ggX7_lookForFirstMembers_X3_owner
set_option maxRecDepth 20000 in
theorem ggX7_lookForFirstMembers_X3_name : GoodIn wsX7_lookForFirstMembers wsX3_name := goodIn_r _ [44, 45, 40, 29, 30, 7, 31, 9, 75, 76, 77, 78, 79, 80, 81, 74] (by decide +kernel) (by decide +kernel)
set_option maxRecDepth 20000 in
theorem gX7_lookForFirstMembers_X3_name : GoodIn wsX7_lookForFirstMembers (wsV RX7 107 RX3 yX3_name wsX3_name) := goodIn_app (goodIn_of _ (by decide +kernel)) ggX7_lookForFirstMembers_X3_name
set_option maxRecDepth 20000 in
theorem ggX7_lookForFirstMembers_X3_sort : GoodIn wsX7_lookForFirstMembers wsX3_sort := goodIn_r _ [49, 50, 40, 29, 30, 7, 31, 9, 75, 76, 77, 78, 79, 80, 81, 74] (by decide +kernel) (by decide +kernel)
set_option maxRecDepth 20000 in
theorem gX7_lookForFirstMembers_X3_sort : GoodIn wsX7_lookForFirstMembers (wsV RX7 110 RX3 yX3_sort wsX3_sort) := goodIn_app (goodIn_of _ (by decide +kernel)) ggX7_lookForFirstMembers_X3_sort
set_option maxRecDepth 20000 in
theorem ggX7_lookForFirstMembers_X7_placeOf : GoodIn wsX7_lookForFirstMembers wsX7_placeOf := goodIn_r _ [53] (by decide +kernel) (by decide +kernel)
set_option maxRecDepth 20000 in
theorem gX7_lookForFirstMembers_X7_placeOf : GoodIn wsX7_lookForFirstMembers (va_wsS RX7 113 yX7_placeOf wsX7_placeOf) := goodIn_app (goodIn_of _ (by decide +kernel)) ggX7_lookForFirstMembers_X7_placeOf
set_option maxRecDepth 20000 in
theorem ggX7_lookForFirstMembers_X5_put : GoodIn wsX7_lookForFirstMembers wsX5_put := goodIn_r _ [57, 9, 74] (by decide +kernel) (by decide +kernel)
set_option maxRecDepth 20000 in
theorem gX7_lookForFirstMembers_X5_put : GoodIn wsX7_lookForFirstMembers (wsV RX7 69 RX5 yX5_put wsX5_put) := goodIn_app (goodIn_of _ (by decide +kernel)) ggX7_lookForFirstMembers_X5_put
theorem dX7_lookForFirstMembers_0 : decode cX7_lookForFirstMembers 0 = .ok (.aload_n 0, 1) := by decide +kernel
theorem dX7_lookForFirstMembers_1 : decode cX7_lookForFirstMembers 1 = .ok (.getfield 26, 3) := by decide +kernel
theorem dX7_lookForFirstMembers_4 : decode cX7_lookForFirstMembers 4 = .ok (.iconst (-1), 1) := by decide +kernel
theorem dX7_lookForFirstMembers_5 : decode cX7_lookForFirstMembers 5 = .ok (.invokevirtual 73, 3) := by decide +kernel
theorem dX7_lookForFirstMembers_8 : decode cX7_lookForFirstMembers 8 = .ok (.aload_n 0, 1) := by decide +kernel
theorem dX7_lookForFirstMembers_9 : decode cX7_lookForFirstMembers 9 = .ok (.getfield 39, 3) := by decide +kernel
theorem dX7_lookForFirstMembers_12 : decode cX7_lookForFirstMembers 12 = .ok (.getfield 97, 3) := by decide +kernel
theorem dX7_lookForFirstMembers_15 : decode cX7_lookForFirstMembers 15 = .ok (.invokevirtual 101, 3) := by decide +kernel
theorem dX7_lookForFirstMembers_18 : decode cX7_lookForFirstMembers 18 = .ok (.iconst 1, 1) := by decide +kernel
theorem dX7_lookForFirstMembers_19 : decode cX7_lookForFirstMembers 19 = .ok (.isub, 1) := by decide +kernel
theorem dX7_lookForFirstMembers_20 : decode cX7_lookForFirstMembers 20 = .ok (.istore_n 1, 1) := by decide +kernel
theorem dX7_lookForFirstMembers_21 : decode cX7_lookForFirstMembers 21 = .ok (.iload_n 1, 1) := by decide +kernel
theorem dX7_lookForFirstMembers_22 : decode cX7_lookForFirstMembers 22 = .ok (.ifCond .lt 62, 3) := by decide +kernel
theorem dX7_lookForFirstMembers_25 : decode cX7_lookForFirstMembers 25 = .ok (.aload_n 0, 1) := by decide +kernel
theorem dX7_lookForFirstMembers_26 : decode cX7_lookForFirstMembers 26 = .ok (.iconst 2, 1) := by decide +kernel
theorem dX7_lookForFirstMembers_27 : decode cX7_lookForFirstMembers 27 = .ok (.iload_n 1, 1) := by decide +kernel
theorem dX7_lookForFirstMembers_28 : decode cX7_lookForFirstMembers 28 = .ok (.invokevirtual 85, 3) := by decide +kernel
theorem dX7_lookForFirstMembers_31 : decode cX7_lookForFirstMembers 31 = .ok (.ifCond .eq 47, 3) := by decide +kernel
theorem dX7_lookForFirstMembers_34 : decode cX7_lookForFirstMembers 34 = .ok (.aload_n 0, 1) := by decide +kernel
theorem dX7_lookForFirstMembers_35 : decode cX7_lookForFirstMembers 35 = .ok (.getfield 26, 3) := by decide +kernel
theorem dX7_lookForFirstMembers_38 : decode cX7_lookForFirstMembers 38 = .ok (.aload_n 0, 1) := by decide +kernel
theorem dX7_lookForFirstMembers_39 : decode cX7_lookForFirstMembers 39 = .ok (.getfield 39, 3) := by decide +kernel
theorem dX7_lookForFirstMembers_42 : decode cX7_lookForFirstMembers 42 = .ok (.getfield 97, 3) := by decide +kernel
theorem dX7_lookForFirstMembers_45 : decode cX7_lookForFirstMembers 45 = .ok (.iload_n 1, 1) := by decide +kernel
theorem dX7_lookForFirstMembers_46 : decode cX7_lookForFirstMembers 46 = .ok (.invokevirtual 104, 3) := by decide +kernel
theorem dX7_lookForFirstMembers_49 : decode cX7_lookForFirstMembers 49 = .ok (.aload_n 0, 1) := by decide +kernel
theorem dX7_lookForFirstMembers_50 : decode cX7_lookForFirstMembers 50 = .ok (.getfield 39, 3) := by decide +kernel
theorem dX7_lookForFirstMembers_53 : decode cX7_lookForFirstMembers 53 = .ok (.getfield 97, 3) := by decide +kernel
theorem dX7_lookForFirstMembers_56 : decode cX7_lookForFirstMembers 56 = .ok (.iload_n 1, 1) := by decide +kernel
theorem dX7_lookForFirstMembers_57 : decode cX7_lookForFirstMembers 57 = .ok (.invokevirtual 107, 3) := by decide +kernel
theorem dX7_lookForFirstMembers_60 : decode cX7_lookForFirstMembers 60 = .ok (.aload_n 0, 1) := by decide +kernel
theorem dX7_lookForFirstMembers_61 : decode cX7_lookForFirstMembers 61 = .ok (.getfield 39, 3) := by decide +kernel
theorem dX7_lookForFirstMembers_64 : decode cX7_lookForFirstMembers 64 = .ok (.getfield 97, 3) := by decide +kernel
theorem dX7_lookForFirstMembers_67 : decode cX7_lookForFirstMembers 67 = .ok (.iload_n 1, 1) := by decide +kernel
theorem dX7_lookForFirstMembers_68 : decode cX7_lookForFirstMembers 68 = .ok (.invokevirtual 110, 3) := by decide +kernel
theorem dX7_lookForFirstMembers_71 : decode cX7_lookForFirstMembers 71 = .ok (.invokestatic 113, 3) := by decide +kernel
theorem dX7_lookForFirstMembers_74 : decode cX7_lookForFirstMembers 74 = .ok (.iload_n 1, 1) := by decide +kernel
theorem dX7_lookForFirstMembers_75 : decode cX7_lookForFirstMembers 75 = .ok (.invokevirtual 69, 3) := by decide +kernel
theorem dX7_lookForFirstMembers_78 : decode cX7_lookForFirstMembers 78 = .ok (.iinc 1 (-1), 3) := by decide +kernel
theorem dX7_lookForFirstMembers_81 : decode cX7_lookForFirstMembers 81 = .ok (.goto (-60), 3) := by decide +kernel
theorem dX7_lookForFirstMembers_84 : decode cX7_lookForFirstMembers 84 = .ok (.return_, 1) := by decide +kernel
set_option maxRecDepth 20000 in
theorem ggX7_isThere_X5_at : GoodIn wsX7_isThere wsX5_at := goodIn_r _ [6, 7, 19] (by decide +kernel) (by decide +kernel)
set_option maxRecDepth 20000 in
theorem gX7_isThere_X5_at : GoodIn wsX7_isThere (wsV RX7 91 RX5 yX5_at wsX5_at) := goodIn_app (goodIn_of _ (by decide +kernel)) ggX7_isThere_X5_at
set_option maxRecDepth 20000 in
theorem ggX7_isThere_X8_isIn : GoodIn wsX7_isThere wsX8_isIn := goodIn_r _ [10] (by decide +kernel) (by decide +kernel)
set_option maxRecDepth 20000 in
theorem gX7_isThere_X8_isIn_n65 : GoodIn wsX7_isThere (wsX8_isIn) := ggX7_isThere_X8_isIn
theorem dX7_isThere_0 : decode cX7_isThere 0 = .ok (.aload_n 0, 1) := by decide +kernel
theorem dX7_isThere_1 : decode cX7_isThere 1 = .ok (.getfield 14, 3) := by decide +kernel
theorem dX7_isThere_4 : decode cX7_isThere 4 = .ok (.iload_n 1, 1) := by decide +kernel
theorem dX7_isThere_5 : decode cX7_isThere 5 = .ok (.invokevirtual 91, 3) := by decide +kernel
theorem dX7_isThere_8 : decode cX7_isThere 8 = .ok (.iload_n 2, 1) := by decide +kernel
theorem dX7_isThere_9 : decode cX7_isThere 9 = .ok (.invokestatic 65, 3) := by decide +kernel
theorem dX7_isThere_12 : decode cX7_isThere 12 = .ok (.ireturn, 1) := by decide +kernel
set_option maxRecDepth 20000 in
theorem ggX7_isConditionTrue_X4_conditions : GoodIn wsX7_isConditionTrue wsX4_conditions := goodIn_r _ [7, 8, 9, 10, 11, 12, 36, 37, 38, 39, 40, 41, 42, 43, 44, 45, 46, 47, 48, 49, 50] (by decide +kernel) (by decide +kernel)
set_option maxRecDepth 20000 in
theorem gX7_isConditionTrue_X4_conditions : GoodIn wsX7_isConditionTrue (wsV RX7 117 RX4 yX4_conditions wsX4_conditions) := goodIn_app (goodIn_of _ (by decide +kernel)) ggX7_isConditionTrue_X4_conditions
set_option maxRecDepth 20000 in
theorem ggX7_isConditionTrue_X0_whereTrue : GoodIn wsX7_isConditionTrue wsX0_whereTrue := goodIn_r _ [17, 18, 19, 20, 21, 22, 23, 24, 51, 52, 53, 54, 55] (by decide +kernel) (by decide +kernel)
set_option maxRecDepth 20000 in
theorem gX7_isConditionTrue_X0_whereTrue : GoodIn wsX7_isConditionTrue (wsV RX7 121 RX0 yX0_whereTrue wsX0_whereTrue) := goodIn_app (goodIn_of _ (by decide +kernel)) ggX7_isConditionTrue_X0_whereTrue
set_option maxRecDepth 20000 in
theorem ggX7_isConditionTrue_X8_isIn : GoodIn wsX7_isConditionTrue wsX8_isIn := goodIn_r _ [27] (by decide +kernel) (by decide +kernel)
set_option maxRecDepth 20000 in
theorem gX7_isConditionTrue_X8_isIn_n65 : GoodIn wsX7_isConditionTrue (wsX8_isIn) := ggX7_isConditionTrue_X8_isIn
theorem dX7_isConditionTrue_0 : decode cX7_isConditionTrue 0 = .ok (.aload_n 0, 1) := by decide +kernel
theorem dX7_isConditionTrue_1 : decode cX7_isConditionTrue 1 = .ok (.getfield 39, 3) := by decide +kernel
theorem dX7_isConditionTrue_4 : decode cX7_isConditionTrue 4 = .ok (.iload_n 1, 1) := by decide +kernel
theorem dX7_isConditionTrue_5 : decode cX7_isConditionTrue 5 = .ok (.invokevirtual 117, 3) := by decide +kernel
theorem dX7_isConditionTrue_8 : decode cX7_isConditionTrue 8 = .ok (.iload_n 2, 1) := by decide +kernel
theorem dX7_isConditionTrue_9 : decode cX7_isConditionTrue 9 = .ok (.invokevirtual 121, 3) := by decide +kernel
theorem dX7_isConditionTrue_12 : decode cX7_isConditionTrue 12 = .ok (.aload_n 0, 1) := by decide +kernel
theorem dX7_isConditionTrue_13 : decode cX7_isConditionTrue 13 = .ok (.getfield 35, 3) := by decide +kernel
theorem dX7_isConditionTrue_16 : decode cX7_isConditionTrue 16 = .ok (.invokestatic 65, 3) := by decide +kernel
theorem dX7_isConditionTrue_19 : decode cX7_isConditionTrue 19 = .ok (.ireturn, 1) := by decide +kernel
set_option maxRecDepth 20000 in
theorem ggX7_parentOf_X5_at : GoodIn wsX7_parentOf wsX5_at := goodIn_r _ [6, 7, 16] (by decide +kernel) (by decide +kernel)
set_option maxRecDepth 20000 in
theorem gX7_parentOf_X5_at : GoodIn wsX7_parentOf (wsV RX7 91 RX5 yX5_at wsX5_at) := goodIn_app (goodIn_of _ (by decide +kernel)) ggX7_parentOf_X5_at
theorem dX7_parentOf_0 : decode cX7_parentOf 0 = .ok (.aload_n 0, 1) := by decide +kernel
theorem dX7_parentOf_1 : decode cX7_parentOf 1 = .ok (.getfield 20, 3) := by decide +kernel
theorem dX7_parentOf_4 : decode cX7_parentOf 4 = .ok (.iload_n 1, 1) := by decide +kernel
theorem dX7_parentOf_5 : decode cX7_parentOf 5 = .ok (.invokevirtual 91, 3) := by decide +kernel
theorem dX7_parentOf_8 : decode cX7_parentOf 8 = .ok (.ireturn, 1) := by decide +kernel
set_option maxRecDepth 20000 in
theorem ggX7_isUnder_X5_at : GoodIn wsX7_isUnder wsX5_at := goodIn_r _ [6, 7, 19] (by decide +kernel) (by decide +kernel)
set_option maxRecDepth 20000 in
theorem gX7_isUnder_X5_at : GoodIn wsX7_isUnder (wsV RX7 91 RX5 yX5_at wsX5_at) := goodIn_app (goodIn_of _ (by decide +kernel)) ggX7_isUnder_X5_at
set_option maxRecDepth 20000 in
theorem ggX7_isUnder_X8_isIn : GoodIn wsX7_isUnder wsX8_isIn := goodIn_r _ [10] (by decide +kernel) (by decide +kernel)
set_option maxRecDepth 20000 in
theorem gX7_isUnder_X8_isIn_n65 : GoodIn wsX7_isUnder (wsX8_isIn) := ggX7_isUnder_X8_isIn
theorem dX7_isUnder_0 : decode cX7_isUnder 0 = .ok (.aload_n 0, 1) := by decide +kernel
theorem dX7_isUnder_1 : decode cX7_isUnder 1 = .ok (.getfield 23, 3) := by decide +kernel
theorem dX7_isUnder_4 : decode cX7_isUnder 4 = .ok (.iload_n 1, 1) := by decide +kernel
theorem dX7_isUnder_5 : decode cX7_isUnder 5 = .ok (.invokevirtual 91, 3) := by decide +kernel
theorem dX7_isUnder_8 : decode cX7_isUnder 8 = .ok (.iload_n 2, 1) := by decide +kernel
theorem dX7_isUnder_9 : decode cX7_isUnder 9 = .ok (.invokestatic 65, 3) := by decide +kernel
theorem dX7_isUnder_12 : decode cX7_isUnder 12 = .ok (.ireturn, 1) := by decide +kernel
set_option maxRecDepth 20000 in
theorem ggX7_isRepeated_X3_owner : GoodIn wsX7_isRepeated wsX3_owner := goodIn_r _ [8, 9, 10, 11, 12, 13, 14, 15, 47, 48, 49, 50, 51, 52, 53, 54] (by decide +kernel) (by decide +kernel)
set_option maxRecDepth 20000 in
theorem gX7_isRepeated_X3_owner : GoodIn wsX7_isRepeated (wsV RX7 104 RX3 yX3_owner wsX3_owner) := goodIn_app (goodIn_of _ (by decide +kernel)) ggX7_isRepeated_X3_owner
set_option maxRecDepth 20000 in
theorem ggX7_isRepeated_X3_name : GoodIn wsX7_isRepeated wsX3_name := goodIn_r _ [19, 20, 10, 11, 12, 13, 14, 15, 47, 48, 49, 50, 51, 52, 53, 54] (by decide +kernel) (by decide +kernel)
set_option maxRecDepth 20000 in
theorem gX7_isRepeated_X3_name : GoodIn wsX7_isRepeated (wsV RX7 107 RX3 yX3_name wsX3_name) := goodIn_app (goodIn_of _ (by decide +kernel)) ggX7_isRepeated_X3_name
set_option maxRecDepth 20000 in
theorem ggX7_isRepeated_X3_sort : GoodIn wsX7_isRepeated wsX3_sort := goodIn_r _ [24, 25, 10, 11, 12, 13, 14, 15, 47, 48, 49, 50, 51, 52, 53, 54] (by decide +kernel) (by decide +kernel)
set_option maxRecDepth 20000 in
theorem gX7_isRepeated_X3_sort : GoodIn wsX7_isRepeated (wsV RX7 110 RX3 yX3_sort wsX3_sort) := goodIn_app (goodIn_of _ (by decide +kernel)) ggX7_isRepeated_X3_sort
set_option maxRecDepth 20000 in
theorem ggX7_isRepeated_X7_placeOf : GoodIn wsX7_isRepeated wsX7_placeOf := goodIn_r _ [29] (by decide +kernel) (by decide +kernel)
set_option maxRecDepth 20000 in
theorem gX7_isRepeated_X7_placeOf : GoodIn wsX7_isRepeated (va_wsS RX7 113 yX7_placeOf wsX7_placeOf) := goodIn_app (goodIn_of _ (by decide +kernel)) ggX7_isRepeated_X7_placeOf
set_option maxRecDepth 20000 in
theorem ggX7_isRepeated_X5_at : GoodIn wsX7_isRepeated wsX5_at := goodIn_r _ [14, 15, 54] (by decide +kernel) (by decide +kernel)
set_option maxRecDepth 20000 in
theorem gX7_isRepeated_X5_at : GoodIn wsX7_isRepeated (wsV RX7 91 RX5 yX5_at wsX5_at) := goodIn_app (goodIn_of _ (by decide +kernel)) ggX7_isRepeated_X5_at
theorem dX7_isRepeated_0 : decode cX7_isRepeated 0 = .ok (.iload_n 1, 1) := by decide +kernel
theorem dX7_isRepeated_1 : decode cX7_isRepeated 1 = .ok (.aload_n 0, 1) := by decide +kernel
theorem dX7_isRepeated_2 : decode cX7_isRepeated 2 = .ok (.getfield 26, 3) := by decide +kernel
theorem dX7_isRepeated_5 : decode cX7_isRepeated 5 = .ok (.aload_n 0, 1) := by decide +kernel
theorem dX7_isRepeated_6 : decode cX7_isRepeated 6 = .ok (.getfield 39, 3) := by decide +kernel
theorem dX7_isRepeated_9 : decode cX7_isRepeated 9 = .ok (.getfield 97, 3) := by decide +kernel
theorem dX7_isRepeated_12 : decode cX7_isRepeated 12 = .ok (.iload_n 1, 1) := by decide +kernel
theorem dX7_isRepeated_13 : decode cX7_isRepeated 13 = .ok (.invokevirtual 104, 3) := by decide +kernel
theorem dX7_isRepeated_16 : decode cX7_isRepeated 16 = .ok (.aload_n 0, 1) := by decide +kernel
theorem dX7_isRepeated_17 : decode cX7_isRepeated 17 = .ok (.getfield 39, 3) := by decide +kernel
theorem dX7_isRepeated_20 : decode cX7_isRepeated 20 = .ok (.getfield 97, 3) := by decide +kernel
theorem dX7_isRepeated_23 : decode cX7_isRepeated 23 = .ok (.iload_n 1, 1) := by decide +kernel
theorem dX7_isRepeated_24 : decode cX7_isRepeated 24 = .ok (.invokevirtual 107, 3) := by decide +kernel
theorem dX7_isRepeated_27 : decode cX7_isRepeated 27 = .ok (.aload_n 0, 1) := by decide +kernel
theorem dX7_isRepeated_28 : decode cX7_isRepeated 28 = .ok (.getfield 39, 3) := by decide +kernel
theorem dX7_isRepeated_31 : decode cX7_isRepeated 31 = .ok (.getfield 97, 3) := by decide +kernel
theorem dX7_isRepeated_34 : decode cX7_isRepeated 34 = .ok (.iload_n 1, 1) := by decide +kernel
theorem dX7_isRepeated_35 : decode cX7_isRepeated 35 = .ok (.invokevirtual 110, 3) := by decide +kernel
theorem dX7_isRepeated_38 : decode cX7_isRepeated 38 = .ok (.invokestatic 113, 3) := by decide +kernel
theorem dX7_isRepeated_41 : decode cX7_isRepeated 41 = .ok (.invokevirtual 91, 3) := by decide +kernel
theorem dX7_isRepeated_44 : decode cX7_isRepeated 44 = .ok (.if_icmp .eq 7, 3) := by decide +kernel
theorem dX7_isRepeated_47 : decode cX7_isRepeated 47 = .ok (.iconst 1, 1) := by decide +kernel
theorem dX7_isRepeated_48 : decode cX7_isRepeated 48 = .ok (.goto 4, 3) := by decide +kernel
theorem dX7_isRepeated_51 : decode cX7_isRepeated 51 = .ok (.iconst 0, 1) := by decide +kernel
theorem dX7_isRepeated_52 : decode cX7_isRepeated 52 = .ok (.ireturn, 1) := by decide +kernel
set_option maxRecDepth 20000 in
theorem ggX7_lookUp_X7_placeOf : GoodIn wsX7_lookUp wsX7_placeOf := goodIn_r _ [6] (by decide +kernel) (by decide +kernel)
set_option maxRecDepth 20000 in
theorem gX7_lookUp_X7_placeOf : GoodIn wsX7_lookUp (va_wsS RX7 113 yX7_placeOf wsX7_placeOf) := goodIn_app (goodIn_of _ (by decide +kernel)) ggX7_lookUp_X7_placeOf
set_option maxRecDepth 20000 in
theorem ggX7_lookUp_X5_at : GoodIn wsX7_lookUp wsX5_at := goodIn_r _ [11, 12, 21] (by decide +kernel) (by decide +kernel)
set_option maxRecDepth 20000 in
theorem gX7_lookUp_X5_at : GoodIn wsX7_lookUp (wsV RX7 91 RX5 yX5_at wsX5_at) := goodIn_app (goodIn_of _ (by decide +kernel)) ggX7_lookUp_X5_at
theorem dX7_lookUp_0 : decode cX7_lookUp 0 = .ok (.iload_n 1, 1) := by decide +kernel
theorem dX7_lookUp_1 : decode cX7_lookUp 1 = .ok (.istore 4, 2) := by decide +kernel
theorem dX7_lookUp_3 : decode cX7_lookUp 3 = .ok (.iconst 0, 1) := by decide +kernel
theorem dX7_lookUp_4 : decode cX7_lookUp 4 = .ok (.istore 5, 2) := by decide +kernel
theorem dX7_lookUp_6 : decode cX7_lookUp 6 = .ok (.iload 5, 2) := by decide +kernel
theorem dX7_lookUp_8 : decode cX7_lookUp 8 = .ok (.bipush 8, 2) := by decide +kernel
theorem dX7_lookUp_10 : decode cX7_lookUp 10 = .ok (.if_icmp .ge 51, 3) := by decide +kernel
theorem dX7_lookUp_13 : decode cX7_lookUp 13 = .ok (.iload 4, 2) := by decide +kernel
theorem dX7_lookUp_15 : decode cX7_lookUp 15 = .ok (.iconst (-1), 1) := by decide +kernel
theorem dX7_lookUp_16 : decode cX7_lookUp 16 = .ok (.if_icmp .eq 45, 3) := by decide +kernel
theorem dX7_lookUp_19 : decode cX7_lookUp 19 = .ok (.aload_n 0, 1) := by decide +kernel
theorem dX7_lookUp_20 : decode cX7_lookUp 20 = .ok (.getfield 26, 3) := by decide +kernel
theorem dX7_lookUp_23 : decode cX7_lookUp 23 = .ok (.iload 4, 2) := by decide +kernel
theorem dX7_lookUp_25 : decode cX7_lookUp 25 = .ok (.iload_n 2, 1) := by decide +kernel
theorem dX7_lookUp_26 : decode cX7_lookUp 26 = .ok (.iload_n 3, 1) := by decide +kernel
theorem dX7_lookUp_27 : decode cX7_lookUp 27 = .ok (.invokestatic 113, 3) := by decide +kernel
theorem dX7_lookUp_30 : decode cX7_lookUp 30 = .ok (.invokevirtual 91, 3) := by decide +kernel
theorem dX7_lookUp_33 : decode cX7_lookUp 33 = .ok (.istore 6, 2) := by decide +kernel
theorem dX7_lookUp_35 : decode cX7_lookUp 35 = .ok (.iload 6, 2) := by decide +kernel
theorem dX7_lookUp_37 : decode cX7_lookUp 37 = .ok (.iconst (-1), 1) := by decide +kernel
theorem dX7_lookUp_38 : decode cX7_lookUp 38 = .ok (.if_icmp .eq 6, 3) := by decide +kernel
theorem dX7_lookUp_41 : decode cX7_lookUp 41 = .ok (.iload 6, 2) := by decide +kernel
theorem dX7_lookUp_43 : decode cX7_lookUp 43 = .ok (.ireturn, 1) := by decide +kernel
theorem dX7_lookUp_44 : decode cX7_lookUp 44 = .ok (.aload_n 0, 1) := by decide +kernel
theorem dX7_lookUp_45 : decode cX7_lookUp 45 = .ok (.getfield 20, 3) := by decide +kernel
theorem dX7_lookUp_48 : decode cX7_lookUp 48 = .ok (.iload 4, 2) := by decide +kernel
theorem dX7_lookUp_50 : decode cX7_lookUp 50 = .ok (.invokevirtual 91, 3) := by decide +kernel
theorem dX7_lookUp_53 : decode cX7_lookUp 53 = .ok (.istore 4, 2) := by decide +kernel
theorem dX7_lookUp_55 : decode cX7_lookUp 55 = .ok (.iinc 5 1, 3) := by decide +kernel
theorem dX7_lookUp_58 : decode cX7_lookUp 58 = .ok (.goto (-52), 3) := by decide +kernel
theorem dX7_lookUp_61 : decode cX7_lookUp 61 = .ok (.iconst (-1), 1) := by decide +kernel
theorem dX7_lookUp_62 : decode cX7_lookUp 62 = .ok (.ireturn, 1) := by decide +kernel
set_option maxRecDepth 20000 in
theorem ggX7_fits_X5_at : GoodIn wsX7_fits wsX5_at := goodIn_r _ [6, 7, 19] (by decide +kernel) (by decide +kernel)
set_option maxRecDepth 20000 in
theorem gX7_fits_X5_at : GoodIn wsX7_fits (wsV RX7 91 RX5 yX5_at wsX5_at) := goodIn_app (goodIn_of _ (by decide +kernel)) ggX7_fits_X5_at
set_option maxRecDepth 20000 in
theorem ggX7_fits_X8_isIn : GoodIn wsX7_fits wsX8_isIn := goodIn_r _ [10] (by decide +kernel) (by decide +kernel)
set_option maxRecDepth 20000 in
theorem gX7_fits_X8_isIn_n65 : GoodIn wsX7_fits (wsX8_isIn) := ggX7_fits_X8_isIn
theorem dX7_fits_0 : decode cX7_fits 0 = .ok (.iload_n 1, 1) := by decide +kernel
theorem dX7_fits_1 : decode cX7_fits 1 = .ok (.iload_n 2, 1) := by decide +kernel
theorem dX7_fits_2 : decode cX7_fits 2 = .ok (.if_icmp .eq 30, 3) := by decide +kernel
theorem dX7_fits_5 : decode cX7_fits 5 = .ok (.iload_n 1, 1) := by decide +kernel
theorem dX7_fits_6 : decode cX7_fits 6 = .ok (.bipush 8, 2) := by decide +kernel
theorem dX7_fits_8 : decode cX7_fits 8 = .ok (.if_icmp .eq 28, 3) := by decide +kernel
theorem dX7_fits_11 : decode cX7_fits 11 = .ok (.iload_n 2, 1) := by decide +kernel
theorem dX7_fits_12 : decode cX7_fits 12 = .ok (.bipush 8, 2) := by decide +kernel
theorem dX7_fits_14 : decode cX7_fits 14 = .ok (.if_icmp .eq 22, 3) := by decide +kernel
theorem dX7_fits_17 : decode cX7_fits 17 = .ok (.aload_n 0, 1) := by decide +kernel
theorem dX7_fits_18 : decode cX7_fits 18 = .ok (.getfield 23, 3) := by decide +kernel
theorem dX7_fits_21 : decode cX7_fits 21 = .ok (.iload_n 1, 1) := by decide +kernel
theorem dX7_fits_22 : decode cX7_fits 22 = .ok (.invokevirtual 91, 3) := by decide +kernel
theorem dX7_fits_25 : decode cX7_fits 25 = .ok (.iload_n 2, 1) := by decide +kernel
theorem dX7_fits_26 : decode cX7_fits 26 = .ok (.invokestatic 65, 3) := by decide +kernel
theorem dX7_fits_29 : decode cX7_fits 29 = .ok (.ifCond .eq 7, 3) := by decide +kernel
theorem dX7_fits_32 : decode cX7_fits 32 = .ok (.iconst 1, 1) := by decide +kernel
theorem dX7_fits_33 : decode cX7_fits 33 = .ok (.goto 4, 3) := by decide +kernel
theorem dX7_fits_36 : decode cX7_fits 36 = .ok (.iconst 0, 1) := by decide +kernel
theorem dX7_fits_37 : decode cX7_fits 37 = .ok (.ireturn, 1) := by decide +kernel
set_option maxRecDepth 20000 in
theorem ggX7_isMissing_X7_isThere : GoodIn wsX7_isMissing wsX7_isThere := goodIn_r _ [5, 6, 7, 8, 9, 10, 11, 12, 13, 14, 15, 16, 17, 18, 19, 20, 21, 22, 23, 24] (by decide +kernel) (by decide +kernel)
set_option maxRecDepth 20000 in
theorem gX7_isMissing_X7_isThere : GoodIn wsX7_isMissing (wsV RX7 85 RX7 yX7_isThere wsX7_isThere) := goodIn_app (goodIn_of _ (by decide +kernel)) ggX7_isMissing_X7_isThere
theorem dX7_isMissing_0 : decode cX7_isMissing 0 = .ok (.iload_n 1, 1) := by decide +kernel
theorem dX7_isMissing_1 : decode cX7_isMissing 1 = .ok (.iconst (-1), 1) := by decide +kernel
theorem dX7_isMissing_2 : decode cX7_isMissing 2 = .ok (.if_icmp .eq 22, 3) := by decide +kernel
theorem dX7_isMissing_5 : decode cX7_isMissing 5 = .ok (.iload_n 1, 1) := by decide +kernel
theorem dX7_isMissing_6 : decode cX7_isMissing 6 = .ok (.bipush 8, 2) := by decide +kernel
theorem dX7_isMissing_8 : decode cX7_isMissing 8 = .ok (.if_icmp .eq 16, 3) := by decide +kernel
theorem dX7_isMissing_11 : decode cX7_isMissing 11 = .ok (.aload_n 0, 1) := by decide +kernel
theorem dX7_isMissing_12 : decode cX7_isMissing 12 = .ok (.iconst 0, 1) := by decide +kernel
theorem dX7_isMissing_13 : decode cX7_isMissing 13 = .ok (.iload_n 1, 1) := by decide +kernel
theorem dX7_isMissing_14 : decode cX7_isMissing 14 = .ok (.invokevirtual 85, 3) := by decide +kernel
theorem dX7_isMissing_17 : decode cX7_isMissing 17 = .ok (.ifCond .ne 7, 3) := by decide +kernel
theorem dX7_isMissing_20 : decode cX7_isMissing 20 = .ok (.iconst 1, 1) := by decide +kernel
theorem dX7_isMissing_21 : decode cX7_isMissing 21 = .ok (.goto 4, 3) := by decide +kernel
theorem dX7_isMissing_24 : decode cX7_isMissing 24 = .ok (.iconst 0, 1) := by decide +kernel
theorem dX7_isMissing_25 : decode cX7_isMissing 25 = .ok (.ireturn, 1) := by decide +kernel
set_option maxRecDepth 20000 in
theorem ggX7_giveTypes_X1_size : GoodIn wsX7_giveTypes wsX1_size := goodIn_r _ [10, 11, 146, 147, 148, 149, 150, 151, 152] (by decide +kernel) (by decide +kernel)
set_option maxRecDepth 20000 in
theorem gX7_giveTypes_X1_size : GoodIn wsX7_giveTypes (wsV RX7 128 RX1 yX1_size wsX1_size) := goodIn_app (goodIn_of _ (by decide +kernel)) ggX7_giveTypes_X1_size
set_option maxRecDepth 20000 in
theorem ggX7_giveTypes_X1_method : GoodIn wsX7_giveTypes wsX1_method := goodIn_r _ [15, 16, 17, 18, 19, 20, 21, 22, 146, 147, 148, 149, 150, 151, 152, 153] (by decide +kernel) (by decide +kernel)
set_option maxRecDepth 20000 in
theorem gX7_giveTypes_X1_method : GoodIn wsX7_giveTypes (wsV RX7 131 RX1 yX1_method wsX1_method) := goodIn_app (goodIn_of _ (by decide +kernel)) ggX7_giveTypes_X1_method
set_option maxRecDepth 20000 in
theorem ggX7_giveTypes_X7_isThere : GoodIn wsX7_giveTypes wsX7_isThere := goodIn_r _ [27, 28, 29, 18, 19, 20, 21, 22, 30, 31, 32, 130, 131, 132, 133, 134, 135, 136, 137, 153] (by decide +kernel) (by decide +kernel)
set_option maxRecDepth 20000 in
theorem gX7_giveTypes_X7_isThere : GoodIn wsX7_giveTypes (wsV RX7 85 RX7 yX7_isThere wsX7_isThere) := goodIn_app (goodIn_of _ (by decide +kernel)) ggX7_giveTypes_X7_isThere
set_option maxRecDepth 20000 in
theorem ggX7_giveTypes_X7_havePartsTypes : GoodIn wsX7_giveTypes wsX7_havePartsTypes := goodIn_r _ [36, 1, 2, 37, 38, 39, 9, 40, 41, 17, 18, 19, 20, 21, 22, 42, 43, 44, 26, 45, 46, 47, 48, 49, 4, 5, 50, 51, 52, 29, 53, 54, 55, 56, 57, 58, 59, 60, 61, 62, 130, 131, 132, 133, 134, 135, 136, 137, 138, 139, 140, 141, 142, 143, 144, 145, 146, 147, 148, 149, 150, 151, 152, 153] (by decide +kernel) (by decide +kernel)
set_option maxRecDepth 20000 in
theorem gX7_giveTypes_X7_havePartsTypes : GoodIn wsX7_giveTypes (wsV RX7 134 RX7 yX7_havePartsTypes wsX7_havePartsTypes) := goodIn_app (goodIn_of _ (by decide +kernel)) ggX7_giveTypes_X7_havePartsTypes
set_option maxRecDepth 20000 in
theorem ggX7_giveTypes_X7_findFault : GoodIn wsX7_giveTypes wsX7_findFault := goodIn_r _ [66, 1, 2, 67, 68, 69, 9, 70, 71, 17, 18, 19, 20, 21, 22, 72, 73, 74, 75, 76, 23, 24, 25, 26, 27, 28, 29, 30, 31, 32, 37, 38, 39, 40, 41, 46, 47, 48, 49, 4, 5, 50, 51, 52, 77, 78, 79, 80, 81, 82, 83, 84, 85, 86, 87, 88, 89, 90, 91, 92, 93, 94, 53, 54, 55, 56, 57, 95, 96, 97, 98, 99, 100, 101, 102, 103, 104, 105, 106, 107, 108, 109, 110, 111, 58, 59, 60, 61, 62, 130, 131, 132, 133, 134, 135, 136, 137, 138, 139, 140, 141, 142, 143, 144, 145, 146, 147, 148, 149, 150, 151, 152, 153, 154, 155, 156, 157, 158, 159, 160] (by decide +kernel) (by decide +kernel)
set_option maxRecDepth 20000 in
theorem gX7_giveTypes_X7_findFault : GoodIn wsX7_giveTypes (wsV RX7 138 RX7 yX7_findFault wsX7_findFault) := goodIn_app (goodIn_of _ (by decide +kernel)) ggX7_giveTypes_X7_findFault
set_option maxRecDepth 20000 in
theorem ggX7_giveTypes_X7_faultlessType : GoodIn wsX7_giveTypes wsX7_faultlessType := goodIn_r _ [115, 1, 2, 94, 12, 13, 14, 9, 15, 16, 17, 18, 19, 20, 21, 22, 72, 73, 74, 75, 76, 67, 68, 69, 70, 71, 116, 117, 118, 98, 119, 120, 102, 95, 96, 97, 99, 100, 101, 77, 78, 79, 26, 80, 37, 38, 39, 40, 41, 46, 47, 48, 49, 4, 5, 50, 51, 52, 29, 81, 82, 83, 84, 85, 86, 87, 88, 89, 121, 122, 123, 124, 125, 130, 131, 132, 133, 134, 135, 136, 137, 138, 139, 140, 141, 142, 143, 144, 145, 146, 147, 148, 149, 150, 151, 152, 153, 154, 155, 156, 157, 158, 159, 160] (by decide +kernel) (by decide +kernel)
set_option maxRecDepth 20000 in
theorem gX7_giveTypes_X7_faultlessType : GoodIn wsX7_giveTypes (wsV RX7 141 RX7 yX7_faultlessType wsX7_faultlessType) := goodIn_app (goodIn_of _ (by decide +kernel)) ggX7_giveTypes_X7_faultlessType
set_option maxRecDepth 20000 in
theorem ggX7_giveTypes_X5_put : GoodIn wsX7_giveTypes wsX5_put := goodIn_r _ [129, 22, 153] (by decide +kernel) (by decide +kernel)
set_option maxRecDepth 20000 in
theorem gX7_giveTypes_X5_put : GoodIn wsX7_giveTypes (wsV RX7 69 RX5 yX5_put wsX5_put) := goodIn_app (goodIn_of _ (by decide +kernel)) ggX7_giveTypes_X5_put
set_option maxRecDepth 20000 in
theorem ggX7_giveTypes_X7_typePlace : GoodIn wsX7_giveTypes wsX7_typePlace := goodIn_r _ [52] (by decide +kernel) (by decide +kernel)
set_option maxRecDepth 20000 in
theorem gX7_giveTypes_X7_typePlace : GoodIn wsX7_giveTypes (va_wsS RX7 144 yX7_typePlace wsX7_typePlace) := goodIn_app (goodIn_of _ (by decide +kernel)) ggX7_giveTypes_X7_typePlace
theorem dX7_giveTypes_0 : decode cX7_giveTypes 0 = .ok (.iconst 0, 1) := by decide +kernel
theorem dX7_giveTypes_1 : decode cX7_giveTypes 1 = .ok (.istore_n 1, 1) := by decide +kernel
theorem dX7_giveTypes_2 : decode cX7_giveTypes 2 = .ok (.iload_n 1, 1) := by decide +kernel
theorem dX7_giveTypes_3 : decode cX7_giveTypes 3 = .ok (.aload_n 0, 1) := by decide +kernel
theorem dX7_giveTypes_4 : decode cX7_giveTypes 4 = .ok (.getfield 39, 3) := by decide +kernel
theorem dX7_giveTypes_7 : decode cX7_giveTypes 7 = .ok (.getfield 124, 3) := by decide +kernel
theorem dX7_giveTypes_10 : decode cX7_giveTypes 10 = .ok (.invokevirtual 128, 3) := by decide +kernel
theorem dX7_giveTypes_13 : decode cX7_giveTypes 13 = .ok (.if_icmp .ge 91, 3) := by decide +kernel
theorem dX7_giveTypes_16 : decode cX7_giveTypes 16 = .ok (.iconst 0, 1) := by decide +kernel
theorem dX7_giveTypes_17 : decode cX7_giveTypes 17 = .ok (.istore_n 2, 1) := by decide +kernel
theorem dX7_giveTypes_18 : decode cX7_giveTypes 18 = .ok (.iconst (-1), 1) := by decide +kernel
theorem dX7_giveTypes_19 : decode cX7_giveTypes 19 = .ok (.istore_n 3, 1) := by decide +kernel
theorem dX7_giveTypes_20 : decode cX7_giveTypes 20 = .ok (.aload_n 0, 1) := by decide +kernel
theorem dX7_giveTypes_21 : decode cX7_giveTypes 21 = .ok (.iconst 2, 1) := by decide +kernel
theorem dX7_giveTypes_22 : decode cX7_giveTypes 22 = .ok (.aload_n 0, 1) := by decide +kernel
theorem dX7_giveTypes_23 : decode cX7_giveTypes 23 = .ok (.getfield 39, 3) := by decide +kernel
theorem dX7_giveTypes_26 : decode cX7_giveTypes 26 = .ok (.getfield 124, 3) := by decide +kernel
theorem dX7_giveTypes_29 : decode cX7_giveTypes 29 = .ok (.iload_n 1, 1) := by decide +kernel
theorem dX7_giveTypes_30 : decode cX7_giveTypes 30 = .ok (.invokevirtual 131, 3) := by decide +kernel
theorem dX7_giveTypes_33 : decode cX7_giveTypes 33 = .ok (.invokevirtual 85, 3) := by decide +kernel
theorem dX7_giveTypes_36 : decode cX7_giveTypes 36 = .ok (.ifCond .ne 9, 3) := by decide +kernel
theorem dX7_giveTypes_39 : decode cX7_giveTypes 39 = .ok (.bipush (-2), 2) := by decide +kernel
theorem dX7_giveTypes_41 : decode cX7_giveTypes 41 = .ok (.istore_n 3, 1) := by decide +kernel
theorem dX7_giveTypes_42 : decode cX7_giveTypes 42 = .ok (.goto 31, 3) := by decide +kernel
theorem dX7_giveTypes_45 : decode cX7_giveTypes 45 = .ok (.aload_n 0, 1) := by decide +kernel
theorem dX7_giveTypes_46 : decode cX7_giveTypes 46 = .ok (.iload_n 1, 1) := by decide +kernel
theorem dX7_giveTypes_47 : decode cX7_giveTypes 47 = .ok (.invokevirtual 134, 3) := by decide +kernel
theorem dX7_giveTypes_50 : decode cX7_giveTypes 50 = .ok (.ifCond .eq 23, 3) := by decide +kernel
theorem dX7_giveTypes_53 : decode cX7_giveTypes 53 = .ok (.aload_n 0, 1) := by decide +kernel
theorem dX7_giveTypes_54 : decode cX7_giveTypes 54 = .ok (.iload_n 1, 1) := by decide +kernel
theorem dX7_giveTypes_55 : decode cX7_giveTypes 55 = .ok (.invokevirtual 138, 3) := by decide +kernel
theorem dX7_giveTypes_58 : decode cX7_giveTypes 58 = .ok (.istore_n 2, 1) := by decide +kernel
theorem dX7_giveTypes_59 : decode cX7_giveTypes 59 = .ok (.iload_n 2, 1) := by decide +kernel
theorem dX7_giveTypes_60 : decode cX7_giveTypes 60 = .ok (.ifCond .ne 11, 3) := by decide +kernel
theorem dX7_giveTypes_63 : decode cX7_giveTypes 63 = .ok (.aload_n 0, 1) := by decide +kernel
theorem dX7_giveTypes_64 : decode cX7_giveTypes 64 = .ok (.iload_n 1, 1) := by decide +kernel
theorem dX7_giveTypes_65 : decode cX7_giveTypes 65 = .ok (.invokevirtual 141, 3) := by decide +kernel
theorem dX7_giveTypes_68 : decode cX7_giveTypes 68 = .ok (.goto 4, 3) := by decide +kernel
theorem dX7_giveTypes_71 : decode cX7_giveTypes 71 = .ok (.iconst (-1), 1) := by decide +kernel
theorem dX7_giveTypes_72 : decode cX7_giveTypes 72 = .ok (.istore_n 3, 1) := by decide +kernel
theorem dX7_giveTypes_73 : decode cX7_giveTypes 73 = .ok (.aload_n 0, 1) := by decide +kernel
theorem dX7_giveTypes_74 : decode cX7_giveTypes 74 = .ok (.getfield 29, 3) := by decide +kernel
theorem dX7_giveTypes_77 : decode cX7_giveTypes 77 = .ok (.iload_n 1, 1) := by decide +kernel
theorem dX7_giveTypes_78 : decode cX7_giveTypes 78 = .ok (.iload_n 2, 1) := by decide +kernel
theorem dX7_giveTypes_79 : decode cX7_giveTypes 79 = .ok (.invokevirtual 69, 3) := by decide +kernel
theorem dX7_giveTypes_82 : decode cX7_giveTypes 82 = .ok (.aload_n 0, 1) := by decide +kernel
theorem dX7_giveTypes_83 : decode cX7_giveTypes 83 = .ok (.getfield 32, 3) := by decide +kernel
theorem dX7_giveTypes_86 : decode cX7_giveTypes 86 = .ok (.iload_n 1, 1) := by decide +kernel
theorem dX7_giveTypes_87 : decode cX7_giveTypes 87 = .ok (.aload_n 0, 1) := by decide +kernel
theorem dX7_giveTypes_88 : decode cX7_giveTypes 88 = .ok (.getfield 35, 3) := by decide +kernel
theorem dX7_giveTypes_91 : decode cX7_giveTypes 91 = .ok (.invokestatic 144, 3) := by decide +kernel
theorem dX7_giveTypes_94 : decode cX7_giveTypes 94 = .ok (.iload_n 3, 1) := by decide +kernel
theorem dX7_giveTypes_95 : decode cX7_giveTypes 95 = .ok (.invokevirtual 69, 3) := by decide +kernel
theorem dX7_giveTypes_98 : decode cX7_giveTypes 98 = .ok (.iinc 1 1, 3) := by decide +kernel
theorem dX7_giveTypes_101 : decode cX7_giveTypes 101 = .ok (.goto (-99), 3) := by decide +kernel
theorem dX7_giveTypes_104 : decode cX7_giveTypes 104 = .ok (.return_, 1) := by decide +kernel
set_option maxRecDepth 20000 in
theorem ggX7_fault_X5_at : GoodIn wsX7_fault wsX5_at := goodIn_r _ [6, 7, 16] (by decide +kernel) (by decide +kernel)
set_option maxRecDepth 20000 in
theorem gX7_fault_X5_at : GoodIn wsX7_fault (wsV RX7 91 RX5 yX5_at wsX5_at) := goodIn_app (goodIn_of _ (by decide +kernel)) ggX7_fault_X5_at
theorem dX7_fault_0 : decode cX7_fault 0 = .ok (.aload_n 0, 1) := by decide +kernel
theorem dX7_fault_1 : decode cX7_fault 1 = .ok (.getfield 29, 3) := by decide +kernel
theorem dX7_fault_4 : decode cX7_fault 4 = .ok (.iload_n 1, 1) := by decide +kernel
theorem dX7_fault_5 : decode cX7_fault 5 = .ok (.invokevirtual 91, 3) := by decide +kernel
theorem dX7_fault_8 : decode cX7_fault 8 = .ok (.ireturn, 1) := by decide +kernel
set_option maxRecDepth 20000 in
theorem ggX7_typeIn_X7_typePlace : GoodIn wsX7_typeIn wsX7_typePlace := goodIn_r _ [5] (by decide +kernel) (by decide +kernel)
set_option maxRecDepth 20000 in
theorem gX7_typeIn_X7_typePlace : GoodIn wsX7_typeIn (va_wsS RX7 144 yX7_typePlace wsX7_typePlace) := goodIn_app (goodIn_of _ (by decide +kernel)) ggX7_typeIn_X7_typePlace
set_option maxRecDepth 20000 in
theorem ggX7_typeIn_X5_at : GoodIn wsX7_typeIn wsX5_at := goodIn_r _ [10, 11, 20] (by decide +kernel) (by decide +kernel)
set_option maxRecDepth 20000 in
theorem gX7_typeIn_X5_at : GoodIn wsX7_typeIn (wsV RX7 91 RX5 yX5_at wsX5_at) := goodIn_app (goodIn_of _ (by decide +kernel)) ggX7_typeIn_X5_at
theorem dX7_typeIn_0 : decode cX7_typeIn 0 = .ok (.aload_n 0, 1) := by decide +kernel
theorem dX7_typeIn_1 : decode cX7_typeIn 1 = .ok (.getfield 32, 3) := by decide +kernel
theorem dX7_typeIn_4 : decode cX7_typeIn 4 = .ok (.iload_n 1, 1) := by decide +kernel
theorem dX7_typeIn_5 : decode cX7_typeIn 5 = .ok (.iload_n 2, 1) := by decide +kernel
theorem dX7_typeIn_6 : decode cX7_typeIn 6 = .ok (.invokestatic 144, 3) := by decide +kernel
theorem dX7_typeIn_9 : decode cX7_typeIn 9 = .ok (.invokevirtual 91, 3) := by decide +kernel
theorem dX7_typeIn_12 : decode cX7_typeIn 12 = .ok (.ireturn, 1) := by decide +kernel
set_option maxRecDepth 20000 in
theorem ggX7_typeHere_X7_typePlace : GoodIn wsX7_typeHere wsX7_typePlace := goodIn_r _ [6] (by decide +kernel) (by decide +kernel)
set_option maxRecDepth 20000 in
theorem gX7_typeHere_X7_typePlace : GoodIn wsX7_typeHere (va_wsS RX7 144 yX7_typePlace wsX7_typePlace) := goodIn_app (goodIn_of _ (by decide +kernel)) ggX7_typeHere_X7_typePlace
set_option maxRecDepth 20000 in
theorem ggX7_typeHere_X5_at : GoodIn wsX7_typeHere wsX5_at := goodIn_r _ [11, 12, 21] (by decide +kernel) (by decide +kernel)
set_option maxRecDepth 20000 in
theorem gX7_typeHere_X5_at : GoodIn wsX7_typeHere (wsV RX7 91 RX5 yX5_at wsX5_at) := goodIn_app (goodIn_of _ (by decide +kernel)) ggX7_typeHere_X5_at
theorem dX7_typeHere_0 : decode cX7_typeHere 0 = .ok (.aload_n 0, 1) := by decide +kernel
theorem dX7_typeHere_1 : decode cX7_typeHere 1 = .ok (.getfield 32, 3) := by decide +kernel
theorem dX7_typeHere_4 : decode cX7_typeHere 4 = .ok (.iload_n 1, 1) := by decide +kernel
theorem dX7_typeHere_5 : decode cX7_typeHere 5 = .ok (.aload_n 0, 1) := by decide +kernel
theorem dX7_typeHere_6 : decode cX7_typeHere 6 = .ok (.getfield 35, 3) := by decide +kernel
theorem dX7_typeHere_9 : decode cX7_typeHere 9 = .ok (.invokestatic 144, 3) := by decide +kernel
theorem dX7_typeHere_12 : decode cX7_typeHere 12 = .ok (.invokevirtual 91, 3) := by decide +kernel
theorem dX7_typeHere_15 : decode cX7_typeHere 15 = .ok (.ireturn, 1) := by decide +kernel
set_option maxRecDepth 20000 in
theorem ggX7_havePartsTypes_X1_object : GoodIn wsX7_havePartsTypes wsX1_object := goodIn_r _ [7, 8, 9, 10, 11, 12, 13, 14, 56, 57, 58, 59, 60, 61, 62, 63] (by decide +kernel) (by decide +kernel)
set_option maxRecDepth 20000 in
theorem gX7_havePartsTypes_X1_object : GoodIn wsX7_havePartsTypes (wsV RX7 147 RX1 yX1_object wsX1_object) := goodIn_app (goodIn_of _ (by decide +kernel)) ggX7_havePartsTypes_X1_object
set_option maxRecDepth 20000 in
theorem ggX7_havePartsTypes_X7_hasTypeOrIsNone : GoodIn wsX7_havePartsTypes wsX7_hasTypeOrIsNone := goodIn_r _ [19, 20, 21, 22, 18, 23, 24, 25, 26, 27, 28, 29, 10, 11, 12, 13, 14, 40, 41, 42, 43, 44, 45, 46, 47, 63] (by decide +kernel) (by decide +kernel)
set_option maxRecDepth 20000 in
theorem gX7_havePartsTypes_X7_hasTypeOrIsNone : GoodIn wsX7_havePartsTypes (wsV RX7 150 RX7 yX7_hasTypeOrIsNone wsX7_hasTypeOrIsNone) := goodIn_app (goodIn_of _ (by decide +kernel)) ggX7_havePartsTypes_X7_hasTypeOrIsNone
set_option maxRecDepth 20000 in
theorem ggX7_havePartsTypes_X1_first : GoodIn wsX7_havePartsTypes wsX1_first := goodIn_r _ [33, 34, 9, 10, 11, 12, 13, 14, 56, 57, 58, 59, 60, 61, 62, 63] (by decide +kernel) (by decide +kernel)
set_option maxRecDepth 20000 in
theorem gX7_havePartsTypes_X1_first : GoodIn wsX7_havePartsTypes (wsV RX7 153 RX1 yX1_first wsX1_first) := goodIn_app (goodIn_of _ (by decide +kernel)) ggX7_havePartsTypes_X1_first
set_option maxRecDepth 20000 in
theorem ggX7_havePartsTypes_X1_second : GoodIn wsX7_havePartsTypes wsX1_second := goodIn_r _ [38, 39, 9, 10, 11, 12, 13, 14, 56, 57, 58, 59, 60, 61, 62, 63] (by decide +kernel) (by decide +kernel)
set_option maxRecDepth 20000 in
theorem gX7_havePartsTypes_X1_second : GoodIn wsX7_havePartsTypes (wsV RX7 156 RX1 yX1_second wsX1_second) := goodIn_app (goodIn_of _ (by decide +kernel)) ggX7_havePartsTypes_X1_second
theorem dX7_havePartsTypes_0 : decode cX7_havePartsTypes 0 = .ok (.aload_n 0, 1) := by decide +kernel
theorem dX7_havePartsTypes_1 : decode cX7_havePartsTypes 1 = .ok (.aload_n 0, 1) := by decide +kernel
theorem dX7_havePartsTypes_2 : decode cX7_havePartsTypes 2 = .ok (.getfield 39, 3) := by decide +kernel
theorem dX7_havePartsTypes_5 : decode cX7_havePartsTypes 5 = .ok (.getfield 124, 3) := by decide +kernel
theorem dX7_havePartsTypes_8 : decode cX7_havePartsTypes 8 = .ok (.iload_n 1, 1) := by decide +kernel
theorem dX7_havePartsTypes_9 : decode cX7_havePartsTypes 9 = .ok (.invokevirtual 147, 3) := by decide +kernel
theorem dX7_havePartsTypes_12 : decode cX7_havePartsTypes 12 = .ok (.invokevirtual 150, 3) := by decide +kernel
theorem dX7_havePartsTypes_15 : decode cX7_havePartsTypes 15 = .ok (.ifCond .eq 43, 3) := by decide +kernel
theorem dX7_havePartsTypes_18 : decode cX7_havePartsTypes 18 = .ok (.aload_n 0, 1) := by decide +kernel
theorem dX7_havePartsTypes_19 : decode cX7_havePartsTypes 19 = .ok (.aload_n 0, 1) := by decide +kernel
theorem dX7_havePartsTypes_20 : decode cX7_havePartsTypes 20 = .ok (.getfield 39, 3) := by decide +kernel
theorem dX7_havePartsTypes_23 : decode cX7_havePartsTypes 23 = .ok (.getfield 124, 3) := by decide +kernel
theorem dX7_havePartsTypes_26 : decode cX7_havePartsTypes 26 = .ok (.iload_n 1, 1) := by decide +kernel
theorem dX7_havePartsTypes_27 : decode cX7_havePartsTypes 27 = .ok (.invokevirtual 153, 3) := by decide +kernel
theorem dX7_havePartsTypes_30 : decode cX7_havePartsTypes 30 = .ok (.invokevirtual 150, 3) := by decide +kernel
theorem dX7_havePartsTypes_33 : decode cX7_havePartsTypes 33 = .ok (.ifCond .eq 25, 3) := by decide +kernel
theorem dX7_havePartsTypes_36 : decode cX7_havePartsTypes 36 = .ok (.aload_n 0, 1) := by decide +kernel
theorem dX7_havePartsTypes_37 : decode cX7_havePartsTypes 37 = .ok (.aload_n 0, 1) := by decide +kernel
theorem dX7_havePartsTypes_38 : decode cX7_havePartsTypes 38 = .ok (.getfield 39, 3) := by decide +kernel
theorem dX7_havePartsTypes_41 : decode cX7_havePartsTypes 41 = .ok (.getfield 124, 3) := by decide +kernel
theorem dX7_havePartsTypes_44 : decode cX7_havePartsTypes 44 = .ok (.iload_n 1, 1) := by decide +kernel
theorem dX7_havePartsTypes_45 : decode cX7_havePartsTypes 45 = .ok (.invokevirtual 156, 3) := by decide +kernel
theorem dX7_havePartsTypes_48 : decode cX7_havePartsTypes 48 = .ok (.invokevirtual 150, 3) := by decide +kernel
theorem dX7_havePartsTypes_51 : decode cX7_havePartsTypes 51 = .ok (.ifCond .eq 7, 3) := by decide +kernel
theorem dX7_havePartsTypes_54 : decode cX7_havePartsTypes 54 = .ok (.iconst 1, 1) := by decide +kernel
theorem dX7_havePartsTypes_55 : decode cX7_havePartsTypes 55 = .ok (.goto 4, 3) := by decide +kernel
theorem dX7_havePartsTypes_58 : decode cX7_havePartsTypes 58 = .ok (.iconst 0, 1) := by decide +kernel
theorem dX7_havePartsTypes_59 : decode cX7_havePartsTypes 59 = .ok (.ireturn, 1) := by decide +kernel
set_option maxRecDepth 20000 in
theorem ggX7_hasTypeOrIsNone_X7_typeHere : GoodIn wsX7_hasTypeOrIsNone wsX7_typeHere := goodIn_r _ [5, 6, 7, 8, 9, 4, 10, 11, 12, 13, 14, 15, 16, 17, 18, 19, 20, 21, 22, 23, 24, 25] (by decide +kernel) (by decide +kernel)
set_option maxRecDepth 20000 in
theorem gX7_hasTypeOrIsNone_X7_typeHere : GoodIn wsX7_hasTypeOrIsNone (wsV RX7 159 RX7 yX7_typeHere wsX7_typeHere) := goodIn_app (goodIn_of _ (by decide +kernel)) ggX7_hasTypeOrIsNone_X7_typeHere
theorem dX7_hasTypeOrIsNone_0 : decode cX7_hasTypeOrIsNone 0 = .ok (.iload_n 1, 1) := by decide +kernel
theorem dX7_hasTypeOrIsNone_1 : decode cX7_hasTypeOrIsNone 1 = .ok (.iconst (-1), 1) := by decide +kernel
theorem dX7_hasTypeOrIsNone_2 : decode cX7_hasTypeOrIsNone 2 = .ok (.if_icmp .eq 11, 3) := by decide +kernel
theorem dX7_hasTypeOrIsNone_5 : decode cX7_hasTypeOrIsNone 5 = .ok (.aload_n 0, 1) := by decide +kernel
theorem dX7_hasTypeOrIsNone_6 : decode cX7_hasTypeOrIsNone 6 = .ok (.iload_n 1, 1) := by decide +kernel
theorem dX7_hasTypeOrIsNone_7 : decode cX7_hasTypeOrIsNone 7 = .ok (.invokevirtual 159, 3) := by decide +kernel
theorem dX7_hasTypeOrIsNone_10 : decode cX7_hasTypeOrIsNone 10 = .ok (.ifCond .lt 7, 3) := by decide +kernel
theorem dX7_hasTypeOrIsNone_13 : decode cX7_hasTypeOrIsNone 13 = .ok (.iconst 1, 1) := by decide +kernel
theorem dX7_hasTypeOrIsNone_14 : decode cX7_hasTypeOrIsNone 14 = .ok (.goto 4, 3) := by decide +kernel
theorem dX7_hasTypeOrIsNone_17 : decode cX7_hasTypeOrIsNone 17 = .ok (.iconst 0, 1) := by decide +kernel
theorem dX7_hasTypeOrIsNone_18 : decode cX7_hasTypeOrIsNone 18 = .ok (.ireturn, 1) := by decide +kernel
set_option maxRecDepth 20000 in
theorem ggX7_findFault_X1_kind : GoodIn wsX7_findFault wsX1_kind := goodIn_r _ [7, 8, 9, 10, 11, 12, 13, 14, 105, 106, 107, 108, 109, 110, 111, 112] (by decide +kernel) (by decide +kernel)
set_option maxRecDepth 20000 in
theorem gX7_findFault_X1_kind : GoodIn wsX7_findFault (wsV RX7 162 RX1 yX1_kind wsX1_kind) := goodIn_app (goodIn_of _ (by decide +kernel)) ggX7_findFault_X1_kind
set_option maxRecDepth 20000 in
theorem ggX7_findFault_X1_detail : GoodIn wsX7_findFault wsX1_detail := goodIn_r _ [18, 19, 9, 10, 11, 12, 13, 14, 105, 106, 107, 108, 109, 110, 111, 112] (by decide +kernel) (by decide +kernel)
set_option maxRecDepth 20000 in
theorem gX7_findFault_X1_detail : GoodIn wsX7_findFault (wsV RX7 165 RX1 yX1_detail wsX1_detail) := goodIn_app (goodIn_of _ (by decide +kernel)) ggX7_findFault_X1_detail
set_option maxRecDepth 20000 in
theorem ggX7_findFault_X7_isThere : GoodIn wsX7_findFault wsX7_isThere := goodIn_r _ [24, 25, 26, 10, 11, 12, 13, 14, 27, 28, 29, 89, 90, 91, 92, 93, 94, 95, 96, 112] (by decide +kernel) (by decide +kernel)
set_option maxRecDepth 20000 in
theorem gX7_findFault_X7_isThere : GoodIn wsX7_findFault (wsV RX7 85 RX7 yX7_isThere wsX7_isThere) := goodIn_app (goodIn_of _ (by decide +kernel)) ggX7_findFault_X7_isThere
set_option maxRecDepth 20000 in
theorem ggX7_findFault_X1_object : GoodIn wsX7_findFault wsX1_object := goodIn_r _ [33, 34, 9, 10, 11, 12, 13, 14, 105, 106, 107, 108, 109, 110, 111, 112] (by decide +kernel) (by decide +kernel)
set_option maxRecDepth 20000 in
theorem gX7_findFault_X1_object : GoodIn wsX7_findFault (wsV RX7 147 RX1 yX1_object wsX1_object) := goodIn_app (goodIn_of _ (by decide +kernel)) ggX7_findFault_X1_object
set_option maxRecDepth 20000 in
theorem ggX7_findFault_X7_typeHere : GoodIn wsX7_findFault wsX7_typeHere := goodIn_r _ [38, 39, 40, 41, 42, 23, 43, 26, 10, 11, 12, 13, 14, 89, 90, 91, 92, 93, 94, 95, 96, 112] (by decide +kernel) (by decide +kernel)
set_option maxRecDepth 20000 in
theorem gX7_findFault_X7_typeHere : GoodIn wsX7_findFault (wsV RX7 159 RX7 yX7_typeHere wsX7_typeHere) := goodIn_app (goodIn_of _ (by decide +kernel)) ggX7_findFault_X7_typeHere
set_option maxRecDepth 20000 in
theorem ggX7_findFault_X7_usedMember : GoodIn wsX7_findFault wsX7_usedMember := goodIn_r _ [47, 1, 2, 3, 4, 5, 6, 7, 8, 9, 10, 11, 12, 13, 14, 30, 31, 32, 33, 34, 35, 36, 37, 23, 38, 39, 40, 41, 42, 43, 26, 15, 16, 17, 18, 19, 48, 49, 50, 51, 52, 53, 54, 55, 56, 89, 90, 91, 92, 93, 94, 95, 96, 97, 98, 99, 100, 101, 102, 103, 104, 105, 106, 107, 108, 109, 110, 111, 112] (by decide +kernel) (by decide +kernel)
set_option maxRecDepth 20000 in
theorem gX7_findFault_X7_usedMember : GoodIn wsX7_findFault (wsV RX7 168 RX7 yX7_usedMember wsX7_usedMember) := goodIn_app (goodIn_of _ (by decide +kernel)) ggX7_findFault_X7_usedMember
set_option maxRecDepth 20000 in
theorem ggX7_findFault_X7_doArgumentsFit : GoodIn wsX7_findFault wsX7_doArgumentsFit := goodIn_r _ [60, 1, 2, 61, 62, 63, 64, 6, 65, 66, 9, 10, 11, 12, 13, 14, 67, 68, 69, 70, 71, 72, 73, 74, 75, 76, 77, 23, 78, 35, 36, 37, 38, 39, 40, 41, 42, 43, 26, 79, 80, 81, 82, 83, 27, 28, 29, 84, 85, 86, 87, 88, 89, 90, 91, 92, 93, 94, 95, 96, 97, 98, 99, 100, 101, 102, 103, 104, 105, 106, 107, 108, 109, 110, 111, 112, 113, 114, 115, 116, 117, 118, 119] (by decide +kernel) (by decide +kernel)
set_option maxRecDepth 20000 in
theorem gX7_findFault_X7_doArgumentsFit : GoodIn wsX7_findFault (wsV RX7 171 RX7 yX7_doArgumentsFit wsX7_doArgumentsFit) := goodIn_app (goodIn_of _ (by decide +kernel)) ggX7_findFault_X7_doArgumentsFit
theorem dX7_findFault_0 : decode cX7_findFault 0 = .ok (.aload_n 0, 1) := by decide +kernel
theorem dX7_findFault_1 : decode cX7_findFault 1 = .ok (.getfield 39, 3) := by decide +kernel
theorem dX7_findFault_4 : decode cX7_findFault 4 = .ok (.getfield 124, 3) := by decide +kernel
theorem dX7_findFault_7 : decode cX7_findFault 7 = .ok (.iload_n 1, 1) := by decide +kernel
theorem dX7_findFault_8 : decode cX7_findFault 8 = .ok (.invokevirtual 162, 3) := by decide +kernel
theorem dX7_findFault_11 : decode cX7_findFault 11 = .ok (.istore_n 2, 1) := by decide +kernel
theorem dX7_findFault_12 : decode cX7_findFault 12 = .ok (.iload_n 2, 1) := by decide +kernel
theorem dX7_findFault_13 : decode cX7_findFault 13 = .ok (.ifCond .ne 29, 3) := by decide +kernel
theorem dX7_findFault_16 : decode cX7_findFault 16 = .ok (.aload_n 0, 1) := by decide +kernel
theorem dX7_findFault_17 : decode cX7_findFault 17 = .ok (.iconst 0, 1) := by decide +kernel
theorem dX7_findFault_18 : decode cX7_findFault 18 = .ok (.aload_n 0, 1) := by decide +kernel
theorem dX7_findFault_19 : decode cX7_findFault 19 = .ok (.getfield 39, 3) := by decide +kernel
theorem dX7_findFault_22 : decode cX7_findFault 22 = .ok (.getfield 124, 3) := by decide +kernel
theorem dX7_findFault_25 : decode cX7_findFault 25 = .ok (.iload_n 1, 1) := by decide +kernel
theorem dX7_findFault_26 : decode cX7_findFault 26 = .ok (.invokevirtual 165, 3) := by decide +kernel
theorem dX7_findFault_29 : decode cX7_findFault 29 = .ok (.invokevirtual 85, 3) := by decide +kernel
theorem dX7_findFault_32 : decode cX7_findFault 32 = .ok (.ifCond .eq 7, 3) := by decide +kernel
theorem dX7_findFault_35 : decode cX7_findFault 35 = .ok (.iconst 0, 1) := by decide +kernel
theorem dX7_findFault_36 : decode cX7_findFault 36 = .ok (.goto 5, 3) := by decide +kernel
theorem dX7_findFault_39 : decode cX7_findFault 39 = .ok (.bipush 8, 2) := by decide +kernel
theorem dX7_findFault_41 : decode cX7_findFault 41 = .ok (.ireturn, 1) := by decide +kernel
theorem dX7_findFault_42 : decode cX7_findFault 42 = .ok (.iload_n 2, 1) := by decide +kernel
theorem dX7_findFault_43 : decode cX7_findFault 43 = .ok (.iconst 4, 1) := by decide +kernel
theorem dX7_findFault_44 : decode cX7_findFault 44 = .ok (.if_icmp .eq 10, 3) := by decide +kernel
theorem dX7_findFault_47 : decode cX7_findFault 47 = .ok (.iload_n 2, 1) := by decide +kernel
theorem dX7_findFault_48 : decode cX7_findFault 48 = .ok (.iconst 5, 1) := by decide +kernel
theorem dX7_findFault_49 : decode cX7_findFault 49 = .ok (.if_icmp .eq 5, 3) := by decide +kernel
theorem dX7_findFault_52 : decode cX7_findFault 52 = .ok (.iconst 0, 1) := by decide +kernel
theorem dX7_findFault_53 : decode cX7_findFault 53 = .ok (.ireturn, 1) := by decide +kernel
theorem dX7_findFault_54 : decode cX7_findFault 54 = .ok (.aload_n 0, 1) := by decide +kernel
theorem dX7_findFault_55 : decode cX7_findFault 55 = .ok (.aload_n 0, 1) := by decide +kernel
theorem dX7_findFault_56 : decode cX7_findFault 56 = .ok (.getfield 39, 3) := by decide +kernel
theorem dX7_findFault_59 : decode cX7_findFault 59 = .ok (.getfield 124, 3) := by decide +kernel
theorem dX7_findFault_62 : decode cX7_findFault 62 = .ok (.iload_n 1, 1) := by decide +kernel
theorem dX7_findFault_63 : decode cX7_findFault 63 = .ok (.invokevirtual 147, 3) := by decide +kernel
theorem dX7_findFault_66 : decode cX7_findFault 66 = .ok (.invokevirtual 159, 3) := by decide +kernel
theorem dX7_findFault_69 : decode cX7_findFault 69 = .ok (.bipush 8, 2) := by decide +kernel
theorem dX7_findFault_71 : decode cX7_findFault 71 = .ok (.if_icmp .ne 6, 3) := by decide +kernel
theorem dX7_findFault_74 : decode cX7_findFault 74 = .ok (.bipush 9, 2) := by decide +kernel
theorem dX7_findFault_76 : decode cX7_findFault 76 = .ok (.ireturn, 1) := by decide +kernel
theorem dX7_findFault_77 : decode cX7_findFault 77 = .ok (.aload_n 0, 1) := by decide +kernel
theorem dX7_findFault_78 : decode cX7_findFault 78 = .ok (.iload_n 1, 1) := by decide +kernel
theorem dX7_findFault_79 : decode cX7_findFault 79 = .ok (.invokevirtual 168, 3) := by decide +kernel
theorem dX7_findFault_82 : decode cX7_findFault 82 = .ok (.istore_n 3, 1) := by decide +kernel
theorem dX7_findFault_83 : decode cX7_findFault 83 = .ok (.iload_n 3, 1) := by decide +kernel
theorem dX7_findFault_84 : decode cX7_findFault 84 = .ok (.iconst (-1), 1) := by decide +kernel
theorem dX7_findFault_85 : decode cX7_findFault 85 = .ok (.if_icmp .ne 6, 3) := by decide +kernel
theorem dX7_findFault_88 : decode cX7_findFault 88 = .ok (.bipush 10, 2) := by decide +kernel
theorem dX7_findFault_90 : decode cX7_findFault 90 = .ok (.ireturn, 1) := by decide +kernel
theorem dX7_findFault_91 : decode cX7_findFault 91 = .ok (.iload_n 2, 1) := by decide +kernel
theorem dX7_findFault_92 : decode cX7_findFault 92 = .ok (.iconst 4, 1) := by decide +kernel
theorem dX7_findFault_93 : decode cX7_findFault 93 = .ok (.if_icmp .eq 12, 3) := by decide +kernel
theorem dX7_findFault_96 : decode cX7_findFault 96 = .ok (.aload_n 0, 1) := by decide +kernel
theorem dX7_findFault_97 : decode cX7_findFault 97 = .ok (.iload_n 1, 1) := by decide +kernel
theorem dX7_findFault_98 : decode cX7_findFault 98 = .ok (.iload_n 3, 1) := by decide +kernel
theorem dX7_findFault_99 : decode cX7_findFault 99 = .ok (.invokevirtual 171, 3) := by decide +kernel
theorem dX7_findFault_102 : decode cX7_findFault 102 = .ok (.ifCond .eq 7, 3) := by decide +kernel
theorem dX7_findFault_105 : decode cX7_findFault 105 = .ok (.iconst 0, 1) := by decide +kernel
theorem dX7_findFault_106 : decode cX7_findFault 106 = .ok (.goto 5, 3) := by decide +kernel
theorem dX7_findFault_109 : decode cX7_findFault 109 = .ok (.bipush 11, 2) := by decide +kernel
theorem dX7_findFault_111 : decode cX7_findFault 111 = .ok (.ireturn, 1) := by decide +kernel
set_option maxRecDepth 20000 in
theorem ggX7_usedMember_X1_kind : GoodIn wsX7_usedMember wsX1_kind := goodIn_r _ [7, 8, 9, 10, 11, 12, 13, 14, 61, 62, 63, 64, 65, 66, 67, 68] (by decide +kernel) (by decide +kernel)
set_option maxRecDepth 20000 in
theorem gX7_usedMember_X1_kind : GoodIn wsX7_usedMember (wsV RX7 162 RX1 yX1_kind wsX1_kind) := goodIn_app (goodIn_of _ (by decide +kernel)) ggX7_usedMember_X1_kind
set_option maxRecDepth 20000 in
theorem ggX7_usedMember_X1_object : GoodIn wsX7_usedMember wsX1_object := goodIn_r _ [18, 19, 9, 10, 11, 12, 13, 14, 61, 62, 63, 64, 65, 66, 67, 68] (by decide +kernel) (by decide +kernel)
set_option maxRecDepth 20000 in
theorem gX7_usedMember_X1_object : GoodIn wsX7_usedMember (wsV RX7 147 RX1 yX1_object wsX1_object) := goodIn_app (goodIn_of _ (by decide +kernel)) ggX7_usedMember_X1_object
set_option maxRecDepth 20000 in
theorem ggX7_usedMember_X7_typeHere : GoodIn wsX7_usedMember wsX7_typeHere := goodIn_r _ [24, 25, 26, 27, 28, 23, 29, 30, 10, 11, 12, 13, 14, 45, 46, 47, 48, 49, 50, 51, 52, 68] (by decide +kernel) (by decide +kernel)
set_option maxRecDepth 20000 in
theorem gX7_usedMember_X7_typeHere : GoodIn wsX7_usedMember (wsV RX7 159 RX7 yX7_typeHere wsX7_typeHere) := goodIn_app (goodIn_of _ (by decide +kernel)) ggX7_usedMember_X7_typeHere
set_option maxRecDepth 20000 in
theorem ggX7_usedMember_X1_detail : GoodIn wsX7_usedMember wsX1_detail := goodIn_r _ [34, 35, 9, 10, 11, 12, 13, 14, 61, 62, 63, 64, 65, 66, 67, 68] (by decide +kernel) (by decide +kernel)
set_option maxRecDepth 20000 in
theorem gX7_usedMember_X1_detail : GoodIn wsX7_usedMember (wsV RX7 165 RX1 yX1_detail wsX1_detail) := goodIn_app (goodIn_of _ (by decide +kernel)) ggX7_usedMember_X1_detail
set_option maxRecDepth 20000 in
theorem ggX7_usedMember_X7_lookUp : GoodIn wsX7_usedMember wsX7_lookUp := goodIn_r _ [39, 40, 41, 42, 43, 23, 44, 30, 10, 11, 12, 13, 14, 45, 46, 47, 48, 49, 50, 51, 52, 68] (by decide +kernel) (by decide +kernel)
set_option maxRecDepth 20000 in
theorem gX7_usedMember_X7_lookUp : GoodIn wsX7_usedMember (wsV RX7 174 RX7 yX7_lookUp wsX7_lookUp) := goodIn_app (goodIn_of _ (by decide +kernel)) ggX7_usedMember_X7_lookUp
theorem dX7_usedMember_0 : decode cX7_usedMember 0 = .ok (.aload_n 0, 1) := by decide +kernel
theorem dX7_usedMember_1 : decode cX7_usedMember 1 = .ok (.getfield 39, 3) := by decide +kernel
theorem dX7_usedMember_4 : decode cX7_usedMember 4 = .ok (.getfield 124, 3) := by decide +kernel
theorem dX7_usedMember_7 : decode cX7_usedMember 7 = .ok (.iload_n 1, 1) := by decide +kernel
theorem dX7_usedMember_8 : decode cX7_usedMember 8 = .ok (.invokevirtual 162, 3) := by decide +kernel
theorem dX7_usedMember_11 : decode cX7_usedMember 11 = .ok (.iconst 5, 1) := by decide +kernel
theorem dX7_usedMember_12 : decode cX7_usedMember 12 = .ok (.if_icmp .ne 7, 3) := by decide +kernel
theorem dX7_usedMember_15 : decode cX7_usedMember 15 = .ok (.iconst 1, 1) := by decide +kernel
theorem dX7_usedMember_16 : decode cX7_usedMember 16 = .ok (.goto 4, 3) := by decide +kernel
theorem dX7_usedMember_19 : decode cX7_usedMember 19 = .ok (.iconst 0, 1) := by decide +kernel
theorem dX7_usedMember_20 : decode cX7_usedMember 20 = .ok (.istore_n 2, 1) := by decide +kernel
theorem dX7_usedMember_21 : decode cX7_usedMember 21 = .ok (.aload_n 0, 1) := by decide +kernel
theorem dX7_usedMember_22 : decode cX7_usedMember 22 = .ok (.aload_n 0, 1) := by decide +kernel
theorem dX7_usedMember_23 : decode cX7_usedMember 23 = .ok (.aload_n 0, 1) := by decide +kernel
theorem dX7_usedMember_24 : decode cX7_usedMember 24 = .ok (.getfield 39, 3) := by decide +kernel
theorem dX7_usedMember_27 : decode cX7_usedMember 27 = .ok (.getfield 124, 3) := by decide +kernel
theorem dX7_usedMember_30 : decode cX7_usedMember 30 = .ok (.iload_n 1, 1) := by decide +kernel
theorem dX7_usedMember_31 : decode cX7_usedMember 31 = .ok (.invokevirtual 147, 3) := by decide +kernel
theorem dX7_usedMember_34 : decode cX7_usedMember 34 = .ok (.invokevirtual 159, 3) := by decide +kernel
theorem dX7_usedMember_37 : decode cX7_usedMember 37 = .ok (.aload_n 0, 1) := by decide +kernel
theorem dX7_usedMember_38 : decode cX7_usedMember 38 = .ok (.getfield 39, 3) := by decide +kernel
theorem dX7_usedMember_41 : decode cX7_usedMember 41 = .ok (.getfield 124, 3) := by decide +kernel
theorem dX7_usedMember_44 : decode cX7_usedMember 44 = .ok (.iload_n 1, 1) := by decide +kernel
theorem dX7_usedMember_45 : decode cX7_usedMember 45 = .ok (.invokevirtual 165, 3) := by decide +kernel
theorem dX7_usedMember_48 : decode cX7_usedMember 48 = .ok (.iload_n 2, 1) := by decide +kernel
theorem dX7_usedMember_49 : decode cX7_usedMember 49 = .ok (.invokevirtual 174, 3) := by decide +kernel
theorem dX7_usedMember_52 : decode cX7_usedMember 52 = .ok (.ireturn, 1) := by decide +kernel
set_option maxRecDepth 20000 in
theorem ggX7_doArgumentsFit_X1_first : GoodIn wsX7_doArgumentsFit wsX1_first := goodIn_r _ [8, 9, 10, 11, 12, 13, 14, 15, 68, 69, 70, 71, 72, 73, 74, 75] (by decide +kernel) (by decide +kernel)
set_option maxRecDepth 20000 in
theorem gX7_doArgumentsFit_X1_first : GoodIn wsX7_doArgumentsFit (wsV RX7 153 RX1 yX1_first wsX1_first) := goodIn_app (goodIn_of _ (by decide +kernel)) ggX7_doArgumentsFit_X1_first
set_option maxRecDepth 20000 in
theorem ggX7_doArgumentsFit_X3_parameter : GoodIn wsX7_doArgumentsFit wsX3_parameter := goodIn_r _ [20, 21, 22, 23, 11, 12, 13, 14, 15, 76, 77, 78, 79, 80, 81, 82, 75] (by decide +kernel) (by decide +kernel)
set_option maxRecDepth 20000 in
theorem gX7_doArgumentsFit_X3_parameter : GoodIn wsX7_doArgumentsFit (wsV RX7 177 RX3 yX3_parameter wsX3_parameter) := goodIn_app (goodIn_of _ (by decide +kernel)) ggX7_doArgumentsFit_X3_parameter
set_option maxRecDepth 20000 in
theorem ggX7_doArgumentsFit_X7_doesArgumentFit : GoodIn wsX7_doArgumentsFit wsX7_doesArgumentFit := goodIn_r _ [28, 29, 30, 31, 27, 32, 33, 34, 35, 36, 37, 38, 11, 12, 13, 14, 15, 39, 40, 41, 42, 43, 44, 45, 46, 52, 53, 54, 55, 56, 57, 58, 59, 75] (by decide +kernel) (by decide +kernel)
set_option maxRecDepth 20000 in
theorem gX7_doArgumentsFit_X7_doesArgumentFit : GoodIn wsX7_doArgumentsFit (wsV RX7 180 RX7 yX7_doesArgumentFit wsX7_doesArgumentFit) := goodIn_app (goodIn_of _ (by decide +kernel)) ggX7_doArgumentsFit_X7_doesArgumentFit
set_option maxRecDepth 20000 in
theorem ggX7_doArgumentsFit_X1_second : GoodIn wsX7_doArgumentsFit wsX1_second := goodIn_r _ [50, 51, 10, 11, 12, 13, 14, 15, 68, 69, 70, 71, 72, 73, 74, 75] (by decide +kernel) (by decide +kernel)
set_option maxRecDepth 20000 in
theorem gX7_doArgumentsFit_X1_second : GoodIn wsX7_doArgumentsFit (wsV RX7 156 RX1 yX1_second wsX1_second) := goodIn_app (goodIn_of _ (by decide +kernel)) ggX7_doArgumentsFit_X1_second
theorem dX7_doArgumentsFit_0 : decode cX7_doArgumentsFit 0 = .ok (.aload_n 0, 1) := by decide +kernel
theorem dX7_doArgumentsFit_1 : decode cX7_doArgumentsFit 1 = .ok (.aload_n 0, 1) := by decide +kernel
theorem dX7_doArgumentsFit_2 : decode cX7_doArgumentsFit 2 = .ok (.getfield 39, 3) := by decide +kernel
theorem dX7_doArgumentsFit_5 : decode cX7_doArgumentsFit 5 = .ok (.getfield 124, 3) := by decide +kernel
theorem dX7_doArgumentsFit_8 : decode cX7_doArgumentsFit 8 = .ok (.iload_n 1, 1) := by decide +kernel
theorem dX7_doArgumentsFit_9 : decode cX7_doArgumentsFit 9 = .ok (.invokevirtual 153, 3) := by decide +kernel
theorem dX7_doArgumentsFit_12 : decode cX7_doArgumentsFit 12 = .ok (.aload_n 0, 1) := by decide +kernel
theorem dX7_doArgumentsFit_13 : decode cX7_doArgumentsFit 13 = .ok (.getfield 39, 3) := by decide +kernel
theorem dX7_doArgumentsFit_16 : decode cX7_doArgumentsFit 16 = .ok (.getfield 97, 3) := by decide +kernel
theorem dX7_doArgumentsFit_19 : decode cX7_doArgumentsFit 19 = .ok (.iload_n 2, 1) := by decide +kernel
theorem dX7_doArgumentsFit_20 : decode cX7_doArgumentsFit 20 = .ok (.iconst 0, 1) := by decide +kernel
theorem dX7_doArgumentsFit_21 : decode cX7_doArgumentsFit 21 = .ok (.invokevirtual 177, 3) := by decide +kernel
theorem dX7_doArgumentsFit_24 : decode cX7_doArgumentsFit 24 = .ok (.invokevirtual 180, 3) := by decide +kernel
theorem dX7_doArgumentsFit_27 : decode cX7_doArgumentsFit 27 = .ok (.ifCond .eq 37, 3) := by decide +kernel
theorem dX7_doArgumentsFit_30 : decode cX7_doArgumentsFit 30 = .ok (.aload_n 0, 1) := by decide +kernel
theorem dX7_doArgumentsFit_31 : decode cX7_doArgumentsFit 31 = .ok (.aload_n 0, 1) := by decide +kernel
theorem dX7_doArgumentsFit_32 : decode cX7_doArgumentsFit 32 = .ok (.getfield 39, 3) := by decide +kernel
theorem dX7_doArgumentsFit_35 : decode cX7_doArgumentsFit 35 = .ok (.getfield 124, 3) := by decide +kernel
theorem dX7_doArgumentsFit_38 : decode cX7_doArgumentsFit 38 = .ok (.iload_n 1, 1) := by decide +kernel
theorem dX7_doArgumentsFit_39 : decode cX7_doArgumentsFit 39 = .ok (.invokevirtual 156, 3) := by decide +kernel
theorem dX7_doArgumentsFit_42 : decode cX7_doArgumentsFit 42 = .ok (.aload_n 0, 1) := by decide +kernel
theorem dX7_doArgumentsFit_43 : decode cX7_doArgumentsFit 43 = .ok (.getfield 39, 3) := by decide +kernel
theorem dX7_doArgumentsFit_46 : decode cX7_doArgumentsFit 46 = .ok (.getfield 97, 3) := by decide +kernel
theorem dX7_doArgumentsFit_49 : decode cX7_doArgumentsFit 49 = .ok (.iload_n 2, 1) := by decide +kernel
theorem dX7_doArgumentsFit_50 : decode cX7_doArgumentsFit 50 = .ok (.iconst 1, 1) := by decide +kernel
theorem dX7_doArgumentsFit_51 : decode cX7_doArgumentsFit 51 = .ok (.invokevirtual 177, 3) := by decide +kernel
theorem dX7_doArgumentsFit_54 : decode cX7_doArgumentsFit 54 = .ok (.invokevirtual 180, 3) := by decide +kernel
theorem dX7_doArgumentsFit_57 : decode cX7_doArgumentsFit 57 = .ok (.ifCond .eq 7, 3) := by decide +kernel
theorem dX7_doArgumentsFit_60 : decode cX7_doArgumentsFit 60 = .ok (.iconst 1, 1) := by decide +kernel
theorem dX7_doArgumentsFit_61 : decode cX7_doArgumentsFit 61 = .ok (.goto 4, 3) := by decide +kernel
theorem dX7_doArgumentsFit_64 : decode cX7_doArgumentsFit 64 = .ok (.iconst 0, 1) := by decide +kernel
theorem dX7_doArgumentsFit_65 : decode cX7_doArgumentsFit 65 = .ok (.ireturn, 1) := by decide +kernel
set_option maxRecDepth 20000 in
theorem ggX7_doesArgumentFit_X7_typeHere : GoodIn wsX7_doesArgumentFit wsX7_typeHere := goodIn_r _ [5, 6, 7, 8, 9, 4, 10, 11, 12, 13, 14, 15, 16, 25, 26, 27, 28, 29, 30, 31, 32, 33] (by decide +kernel) (by decide +kernel)
set_option maxRecDepth 20000 in
theorem gX7_doesArgumentFit_X7_typeHere : GoodIn wsX7_doesArgumentFit (wsV RX7 159 RX7 yX7_typeHere wsX7_typeHere) := goodIn_app (goodIn_of _ (by decide +kernel)) ggX7_doesArgumentFit_X7_typeHere
set_option maxRecDepth 20000 in
theorem ggX7_doesArgumentFit_X7_fits : GoodIn wsX7_doesArgumentFit wsX7_fits := goodIn_r _ [20, 21, 11, 12, 13, 14, 15, 16, 22, 23, 24, 25, 26, 27, 28, 29, 30, 31, 32, 33] (by decide +kernel) (by decide +kernel)
set_option maxRecDepth 20000 in
theorem gX7_doesArgumentFit_X7_fits : GoodIn wsX7_doesArgumentFit (wsV RX7 183 RX7 yX7_fits wsX7_fits) := goodIn_app (goodIn_of _ (by decide +kernel)) ggX7_doesArgumentFit_X7_fits
theorem dX7_doesArgumentFit_0 : decode cX7_doesArgumentFit 0 = .ok (.iload_n 1, 1) := by decide +kernel
theorem dX7_doesArgumentFit_1 : decode cX7_doesArgumentFit 1 = .ok (.iconst (-1), 1) := by decide +kernel
theorem dX7_doesArgumentFit_2 : decode cX7_doesArgumentFit 2 = .ok (.if_icmp .eq 8, 3) := by decide +kernel
theorem dX7_doesArgumentFit_5 : decode cX7_doesArgumentFit 5 = .ok (.iload_n 2, 1) := by decide +kernel
theorem dX7_doesArgumentFit_6 : decode cX7_doesArgumentFit 6 = .ok (.iconst (-1), 1) := by decide +kernel
theorem dX7_doesArgumentFit_7 : decode cX7_doesArgumentFit 7 = .ok (.if_icmp .ne 14, 3) := by decide +kernel
theorem dX7_doesArgumentFit_10 : decode cX7_doesArgumentFit 10 = .ok (.iload_n 1, 1) := by decide +kernel
theorem dX7_doesArgumentFit_11 : decode cX7_doesArgumentFit 11 = .ok (.iload_n 2, 1) := by decide +kernel
theorem dX7_doesArgumentFit_12 : decode cX7_doesArgumentFit 12 = .ok (.if_icmp .ne 7, 3) := by decide +kernel
theorem dX7_doesArgumentFit_15 : decode cX7_doesArgumentFit 15 = .ok (.iconst 1, 1) := by decide +kernel
theorem dX7_doesArgumentFit_16 : decode cX7_doesArgumentFit 16 = .ok (.goto 4, 3) := by decide +kernel
theorem dX7_doesArgumentFit_19 : decode cX7_doesArgumentFit 19 = .ok (.iconst 0, 1) := by decide +kernel
theorem dX7_doesArgumentFit_20 : decode cX7_doesArgumentFit 20 = .ok (.ireturn, 1) := by decide +kernel
theorem dX7_doesArgumentFit_21 : decode cX7_doesArgumentFit 21 = .ok (.aload_n 0, 1) := by decide +kernel
theorem dX7_doesArgumentFit_22 : decode cX7_doesArgumentFit 22 = .ok (.aload_n 0, 1) := by decide +kernel
theorem dX7_doesArgumentFit_23 : decode cX7_doesArgumentFit 23 = .ok (.iload_n 1, 1) := by decide +kernel
theorem dX7_doesArgumentFit_24 : decode cX7_doesArgumentFit 24 = .ok (.invokevirtual 159, 3) := by decide +kernel
theorem dX7_doesArgumentFit_27 : decode cX7_doesArgumentFit 27 = .ok (.iload_n 2, 1) := by decide +kernel
theorem dX7_doesArgumentFit_28 : decode cX7_doesArgumentFit 28 = .ok (.invokevirtual 183, 3) := by decide +kernel
theorem dX7_doesArgumentFit_31 : decode cX7_doesArgumentFit 31 = .ok (.ireturn, 1) := by decide +kernel
set_option maxRecDepth 20000 in
theorem ggX7_faultlessType_X1_method : GoodIn wsX7_faultlessType wsX1_method := goodIn_r _ [8, 9, 10, 11, 12, 13, 14, 15, 89, 90, 91, 92, 93, 94, 95, 96] (by decide +kernel) (by decide +kernel)
set_option maxRecDepth 20000 in
theorem gX7_faultlessType_X1_method : GoodIn wsX7_faultlessType (wsV RX7 131 RX1 yX1_method wsX1_method) := goodIn_app (goodIn_of _ (by decide +kernel)) ggX7_faultlessType_X1_method
set_option maxRecDepth 20000 in
theorem ggX7_faultlessType_X1_detail : GoodIn wsX7_faultlessType wsX1_detail := goodIn_r _ [19, 20, 10, 11, 12, 13, 14, 15, 89, 90, 91, 92, 93, 94, 95, 96] (by decide +kernel) (by decide +kernel)
set_option maxRecDepth 20000 in
theorem gX7_faultlessType_X1_detail : GoodIn wsX7_faultlessType (wsV RX7 165 RX1 yX1_detail wsX1_detail) := goodIn_app (goodIn_of _ (by decide +kernel)) ggX7_faultlessType_X1_detail
set_option maxRecDepth 20000 in
theorem ggX7_faultlessType_X1_kind : GoodIn wsX7_faultlessType wsX1_kind := goodIn_r _ [24, 25, 10, 11, 12, 13, 14, 15, 89, 90, 91, 92, 93, 94, 95, 96] (by decide +kernel) (by decide +kernel)
set_option maxRecDepth 20000 in
theorem gX7_faultlessType_X1_kind : GoodIn wsX7_faultlessType (wsV RX7 162 RX1 yX1_kind wsX1_kind) := goodIn_app (goodIn_of _ (by decide +kernel)) ggX7_faultlessType_X1_kind
set_option maxRecDepth 20000 in
theorem ggX7_faultlessType_X3_owner : GoodIn wsX7_faultlessType wsX3_owner := goodIn_r _ [30, 31, 32, 11, 12, 13, 14, 15, 97, 98, 99, 100, 101, 102, 103, 96] (by decide +kernel) (by decide +kernel)
set_option maxRecDepth 20000 in
theorem gX7_faultlessType_X3_owner : GoodIn wsX7_faultlessType (wsV RX7 104 RX3 yX3_owner wsX3_owner) := goodIn_app (goodIn_of _ (by decide +kernel)) ggX7_faultlessType_X3_owner
set_option maxRecDepth 20000 in
theorem ggX7_faultlessType_X3_parameter : GoodIn wsX7_faultlessType wsX3_parameter := goodIn_r _ [36, 37, 38, 32, 11, 12, 13, 14, 15, 97, 98, 99, 100, 101, 102, 103, 96] (by decide +kernel) (by decide +kernel)
set_option maxRecDepth 20000 in
theorem gX7_faultlessType_X3_parameter : GoodIn wsX7_faultlessType (wsV RX7 177 RX3 yX3_parameter wsX3_parameter) := goodIn_app (goodIn_of _ (by decide +kernel)) ggX7_faultlessType_X3_parameter
set_option maxRecDepth 20000 in
theorem ggX7_faultlessType_X7_usedMember : GoodIn wsX7_faultlessType wsX7_usedMember := goodIn_r _ [43, 1, 2, 21, 22, 23, 7, 24, 25, 10, 11, 12, 13, 14, 15, 44, 45, 46, 47, 48, 49, 50, 51, 42, 52, 53, 54, 55, 56, 57, 58, 16, 17, 18, 19, 20, 59, 60, 61, 62, 63, 64, 65, 66, 67, 73, 74, 75, 76, 77, 78, 79, 80, 81, 82, 83, 84, 85, 86, 87, 88, 89, 90, 91, 92, 93, 94, 95, 96] (by decide +kernel) (by decide +kernel)
set_option maxRecDepth 20000 in
theorem gX7_faultlessType_X7_usedMember : GoodIn wsX7_faultlessType (wsV RX7 168 RX7 yX7_usedMember wsX7_usedMember) := goodIn_app (goodIn_of _ (by decide +kernel)) ggX7_faultlessType_X7_usedMember
set_option maxRecDepth 20000 in
theorem ggX7_faultlessType_X3_type : GoodIn wsX7_faultlessType wsX3_type := goodIn_r _ [71, 72, 32, 11, 12, 13, 14, 15, 97, 98, 99, 100, 101, 102, 103, 96] (by decide +kernel) (by decide +kernel)
set_option maxRecDepth 20000 in
theorem gX7_faultlessType_X3_type : GoodIn wsX7_faultlessType (wsV RX7 186 RX3 yX3_type wsX3_type) := goodIn_app (goodIn_of _ (by decide +kernel)) ggX7_faultlessType_X3_type
theorem dX7_faultlessType_0 : decode cX7_faultlessType 0 = .ok (.aload_n 0, 1) := by decide +kernel
theorem dX7_faultlessType_1 : decode cX7_faultlessType 1 = .ok (.getfield 39, 3) := by decide +kernel
theorem dX7_faultlessType_4 : decode cX7_faultlessType 4 = .ok (.getfield 124, 3) := by decide +kernel
theorem dX7_faultlessType_7 : decode cX7_faultlessType 7 = .ok (.iload_n 1, 1) := by decide +kernel
theorem dX7_faultlessType_8 : decode cX7_faultlessType 8 = .ok (.invokevirtual 131, 3) := by decide +kernel
theorem dX7_faultlessType_11 : decode cX7_faultlessType 11 = .ok (.istore_n 2, 1) := by decide +kernel
theorem dX7_faultlessType_12 : decode cX7_faultlessType 12 = .ok (.aload_n 0, 1) := by decide +kernel
theorem dX7_faultlessType_13 : decode cX7_faultlessType 13 = .ok (.getfield 39, 3) := by decide +kernel
theorem dX7_faultlessType_16 : decode cX7_faultlessType 16 = .ok (.getfield 124, 3) := by decide +kernel
theorem dX7_faultlessType_19 : decode cX7_faultlessType 19 = .ok (.iload_n 1, 1) := by decide +kernel
theorem dX7_faultlessType_20 : decode cX7_faultlessType 20 = .ok (.invokevirtual 165, 3) := by decide +kernel
theorem dX7_faultlessType_23 : decode cX7_faultlessType 23 = .ok (.istore_n 3, 1) := by decide +kernel
theorem dX7_faultlessType_24 : decode cX7_faultlessType 24 = .ok (.aload_n 0, 1) := by decide +kernel
theorem dX7_faultlessType_25 : decode cX7_faultlessType 25 = .ok (.getfield 39, 3) := by decide +kernel
theorem dX7_faultlessType_28 : decode cX7_faultlessType 28 = .ok (.getfield 124, 3) := by decide +kernel
theorem dX7_faultlessType_31 : decode cX7_faultlessType 31 = .ok (.iload_n 1, 1) := by decide +kernel
theorem dX7_faultlessType_32 : decode cX7_faultlessType 32 = .ok (.invokevirtual 162, 3) := by decide +kernel
theorem dX7_faultlessType_35 : decode cX7_faultlessType 35 = .ok (.tableswitch 59 0 3 #[29, 31, 34, 46], 29) := by decide +kernel
theorem dX7_faultlessType_64 : decode cX7_faultlessType 64 = .ok (.iload_n 3, 1) := by decide +kernel
theorem dX7_faultlessType_65 : decode cX7_faultlessType 65 = .ok (.ireturn, 1) := by decide +kernel
theorem dX7_faultlessType_66 : decode cX7_faultlessType 66 = .ok (.bipush 8, 2) := by decide +kernel
theorem dX7_faultlessType_68 : decode cX7_faultlessType 68 = .ok (.ireturn, 1) := by decide +kernel
theorem dX7_faultlessType_69 : decode cX7_faultlessType 69 = .ok (.aload_n 0, 1) := by decide +kernel
theorem dX7_faultlessType_70 : decode cX7_faultlessType 70 = .ok (.getfield 39, 3) := by decide +kernel
theorem dX7_faultlessType_73 : decode cX7_faultlessType 73 = .ok (.getfield 97, 3) := by decide +kernel
theorem dX7_faultlessType_76 : decode cX7_faultlessType 76 = .ok (.iload_n 2, 1) := by decide +kernel
theorem dX7_faultlessType_77 : decode cX7_faultlessType 77 = .ok (.invokevirtual 104, 3) := by decide +kernel
theorem dX7_faultlessType_80 : decode cX7_faultlessType 80 = .ok (.ireturn, 1) := by decide +kernel
theorem dX7_faultlessType_81 : decode cX7_faultlessType 81 = .ok (.aload_n 0, 1) := by decide +kernel
theorem dX7_faultlessType_82 : decode cX7_faultlessType 82 = .ok (.getfield 39, 3) := by decide +kernel
theorem dX7_faultlessType_85 : decode cX7_faultlessType 85 = .ok (.getfield 97, 3) := by decide +kernel
theorem dX7_faultlessType_88 : decode cX7_faultlessType 88 = .ok (.iload_n 2, 1) := by decide +kernel
theorem dX7_faultlessType_89 : decode cX7_faultlessType 89 = .ok (.iload_n 3, 1) := by decide +kernel
theorem dX7_faultlessType_90 : decode cX7_faultlessType 90 = .ok (.invokevirtual 177, 3) := by decide +kernel
theorem dX7_faultlessType_93 : decode cX7_faultlessType 93 = .ok (.ireturn, 1) := by decide +kernel
theorem dX7_faultlessType_94 : decode cX7_faultlessType 94 = .ok (.aload_n 0, 1) := by decide +kernel
theorem dX7_faultlessType_95 : decode cX7_faultlessType 95 = .ok (.getfield 39, 3) := by decide +kernel
theorem dX7_faultlessType_98 : decode cX7_faultlessType 98 = .ok (.getfield 97, 3) := by decide +kernel
theorem dX7_faultlessType_101 : decode cX7_faultlessType 101 = .ok (.aload_n 0, 1) := by decide +kernel
theorem dX7_faultlessType_102 : decode cX7_faultlessType 102 = .ok (.iload_n 1, 1) := by decide +kernel
theorem dX7_faultlessType_103 : decode cX7_faultlessType 103 = .ok (.invokevirtual 168, 3) := by decide +kernel
theorem dX7_faultlessType_106 : decode cX7_faultlessType 106 = .ok (.invokevirtual 186, 3) := by decide +kernel
theorem dX7_faultlessType_109 : decode cX7_faultlessType 109 = .ok (.ireturn, 1) := by decide +kernel
theorem dX7_placeOf_0 : decode cX7_placeOf 0 = .ok (.iload_n 0, 1) := by decide +kernel
theorem dX7_placeOf_1 : decode cX7_placeOf 1 = .ok (.iconst 2, 1) := by decide +kernel
theorem dX7_placeOf_2 : decode cX7_placeOf 2 = .ok (.imul, 1) := by decide +kernel
theorem dX7_placeOf_3 : decode cX7_placeOf 3 = .ok (.iload_n 2, 1) := by decide +kernel
theorem dX7_placeOf_4 : decode cX7_placeOf 4 = .ok (.iadd, 1) := by decide +kernel
theorem dX7_placeOf_5 : decode cX7_placeOf 5 = .ok (.bipush 10, 2) := by decide +kernel
theorem dX7_placeOf_7 : decode cX7_placeOf 7 = .ok (.imul, 1) := by decide +kernel
theorem dX7_placeOf_8 : decode cX7_placeOf 8 = .ok (.iload_n 1, 1) := by decide +kernel
theorem dX7_placeOf_9 : decode cX7_placeOf 9 = .ok (.iadd, 1) := by decide +kernel
theorem dX7_placeOf_10 : decode cX7_placeOf 10 = .ok (.ireturn, 1) := by decide +kernel
theorem dX7_typePlace_0 : decode cX7_typePlace 0 = .ok (.iload_n 1, 1) := by decide +kernel
theorem dX7_typePlace_1 : decode cX7_typePlace 1 = .ok (.bipush 50, 2) := by decide +kernel
theorem dX7_typePlace_3 : decode cX7_typePlace 3 = .ok (.imul, 1) := by decide +kernel
theorem dX7_typePlace_4 : decode cX7_typePlace 4 = .ok (.iload_n 0, 1) := by decide +kernel
theorem dX7_typePlace_5 : decode cX7_typePlace 5 = .ok (.iadd, 1) := by decide +kernel
theorem dX7_typePlace_6 : decode cX7_typePlace 6 = .ok (.ireturn, 1) := by decide +kernel
set_option maxRecDepth 20000 in
theorem ggX8_init_X6_init : GoodIn wsX8_init wsX6_init := goodIn_r _ [21, 22, 2, 3, 23, 24, 25, 26, 27, 28, 29, 30, 31, 32, 33, 34, 35, 148, 119, 120, 121, 122] (by decide +kernel) (by decide +kernel)
set_option maxRecDepth 20000 in
theorem gX8_init_X6_init_n9 : GoodIn wsX8_init (wsX6_init) := ggX8_init_X6_init
set_option maxRecDepth 20000 in
theorem ggX8_init_X4_init : GoodIn wsX8_init wsX4_init := goodIn_r _ [37, 38, 2, 3, 39, 40, 41, 42, 43, 44, 24, 25, 45, 46, 47, 48, 49, 50, 51, 52, 53, 54, 55, 56, 57, 58, 59, 60, 61, 62, 63, 64, 65, 66, 31, 32, 33, 34, 35, 67, 68, 69, 70, 71, 72, 73, 74, 75, 76, 77, 78, 79, 80, 81, 82, 83, 84, 85, 86, 87, 88, 89, 90, 91, 92, 93, 149, 150, 151, 152, 127, 128, 129, 130, 131, 132, 133, 134, 148, 153, 154, 155, 156, 157, 158, 159, 160, 161, 162, 163, 164, 165, 166] (by decide +kernel) (by decide +kernel)
set_option maxRecDepth 20000 in
theorem gX8_init_X4_init_n18 : GoodIn wsX8_init (wsX4_init) := ggX8_init_X4_init
set_option maxRecDepth 20000 in
theorem ggX8_init_X7_init : GoodIn wsX8_init wsX7_init := goodIn_r _ [96, 97, 2, 3, 98, 24, 25, 99, 100, 101, 102, 103, 104, 105, 106, 107, 31, 32, 33, 34, 35, 148, 135, 136, 137, 138, 139, 140, 141, 142] (by decide +kernel) (by decide +kernel)
set_option maxRecDepth 20000 in
theorem gX8_init_X7_init : GoodIn wsX8_init (wsX7_init) := ggX8_init_X7_init
set_option maxRecDepth 20000 in
theorem ggX8_init_X2_init : GoodIn wsX8_init wsX2_init := goodIn_r _ [110, 111, 2, 3, 112, 24, 25, 113, 114, 115, 116, 117, 118, 31, 32, 33, 34, 35, 148, 143, 144, 145, 146, 147] (by decide +kernel) (by decide +kernel)
set_option maxRecDepth 20000 in
theorem gX8_init_X2_init : GoodIn wsX8_init (wsX2_init) := ggX8_init_X2_init
theorem dX8_init_0 : decode cX8_init 0 = .ok (.aload_n 0, 1) := by decide +kernel
theorem dX8_init_1 : decode cX8_init 1 = .ok (.invokespecial 1, 3) := by decide +kernel
theorem dX8_init_4 : decode cX8_init 4 = .ok (.aload_n 0, 1) := by decide +kernel
theorem dX8_init_5 : decode cX8_init 5 = .ok (.new 7, 3) := by decide +kernel
theorem dX8_init_8 : decode cX8_init 8 = .ok (.dup, 1) := by decide +kernel
theorem dX8_init_9 : decode cX8_init 9 = .ok (.invokespecial 9, 3) := by decide +kernel
theorem dX8_init_12 : decode cX8_init 12 = .ok (.putfield 10, 3) := by decide +kernel
theorem dX8_init_15 : decode cX8_init 15 = .ok (.aload_n 0, 1) := by decide +kernel
theorem dX8_init_16 : decode cX8_init 16 = .ok (.new 16, 3) := by decide +kernel
theorem dX8_init_19 : decode cX8_init 19 = .ok (.dup, 1) := by decide +kernel
theorem dX8_init_20 : decode cX8_init 20 = .ok (.invokespecial 18, 3) := by decide +kernel
theorem dX8_init_23 : decode cX8_init 23 = .ok (.putfield 19, 3) := by decide +kernel
theorem dX8_init_26 : decode cX8_init 26 = .ok (.aload_n 0, 1) := by decide +kernel
theorem dX8_init_27 : decode cX8_init 27 = .ok (.new 23, 3) := by decide +kernel
theorem dX8_init_30 : decode cX8_init 30 = .ok (.dup, 1) := by decide +kernel
theorem dX8_init_31 : decode cX8_init 31 = .ok (.aload_n 0, 1) := by decide +kernel
theorem dX8_init_32 : decode cX8_init 32 = .ok (.getfield 19, 3) := by decide +kernel
theorem dX8_init_35 : decode cX8_init 35 = .ok (.invokespecial 25, 3) := by decide +kernel
theorem dX8_init_38 : decode cX8_init 38 = .ok (.putfield 28, 3) := by decide +kernel
theorem dX8_init_41 : decode cX8_init 41 = .ok (.aload_n 0, 1) := by decide +kernel
theorem dX8_init_42 : decode cX8_init 42 = .ok (.new 32, 3) := by decide +kernel
theorem dX8_init_45 : decode cX8_init 45 = .ok (.dup, 1) := by decide +kernel
theorem dX8_init_46 : decode cX8_init 46 = .ok (.aload_n 0, 1) := by decide +kernel
theorem dX8_init_47 : decode cX8_init 47 = .ok (.getfield 19, 3) := by decide +kernel
theorem dX8_init_50 : decode cX8_init 50 = .ok (.aload_n 0, 1) := by decide +kernel
theorem dX8_init_51 : decode cX8_init 51 = .ok (.getfield 28, 3) := by decide +kernel
theorem dX8_init_54 : decode cX8_init 54 = .ok (.invokespecial 34, 3) := by decide +kernel
theorem dX8_init_57 : decode cX8_init 57 = .ok (.putfield 37, 3) := by decide +kernel
theorem dX8_init_60 : decode cX8_init 60 = .ok (.return_, 1) := by decide +kernel
set_option maxRecDepth 20000 in
theorem ggX8_addRule_X8_isFeature : GoodIn wsX8_addRule wsX8_isFeature := goodIn_r _ [9] (by decide +kernel) (by decide +kernel)
set_option maxRecDepth 20000 in
theorem gX8_addRule_X8_isFeature : GoodIn wsX8_addRule (va_wsS RX8 41 yX8_isFeature wsX8_isFeature) := goodIn_app (goodIn_of _ (by decide +kernel)) ggX8_addRule_X8_isFeature
set_option maxRecDepth 20000 in
theorem ggX8_addRule_X6_size : GoodIn wsX8_addRule wsX6_size := goodIn_r _ [14, 15, 33, 34, 35, 36] (by decide +kernel) (by decide +kernel)
set_option maxRecDepth 20000 in
theorem gX8_addRule_X6_size : GoodIn wsX8_addRule (wsV RX8 52 RX6 yX6_size wsX6_size) := goodIn_app (goodIn_of _ (by decide +kernel)) ggX8_addRule_X6_size
set_option maxRecDepth 20000 in
theorem ggX8_addRule_X6_append : GoodIn wsX8_addRule wsX6_append := goodIn_r _ [19, 20, 15, 21, 22, 23, 24, 25, 26, 27, 28, 33, 34, 35, 36, 37] (by decide +kernel) (by decide +kernel)
set_option maxRecDepth 20000 in
theorem gX8_addRule_X6_append : GoodIn wsX8_addRule (wsV RX8 61 RX6 yX6_append wsX6_append) := goodIn_app (goodIn_of _ (by decide +kernel)) ggX8_addRule_X6_append
theorem dX8_addRule_0 : decode cX8_addRule 0 = .ok (.iload_n 1, 1) := by decide +kernel
theorem dX8_addRule_1 : decode cX8_addRule 1 = .ok (.ifCond .eq 8, 3) := by decide +kernel
theorem dX8_addRule_4 : decode cX8_addRule 4 = .ok (.iload_n 1, 1) := by decide +kernel
theorem dX8_addRule_5 : decode cX8_addRule 5 = .ok (.iconst 1, 1) := by decide +kernel
theorem dX8_addRule_6 : decode cX8_addRule 6 = .ok (.if_icmp .ne 17, 3) := by decide +kernel
theorem dX8_addRule_9 : decode cX8_addRule 9 = .ok (.iload_n 2, 1) := by decide +kernel
theorem dX8_addRule_10 : decode cX8_addRule 10 = .ok (.invokestatic 41, 3) := by decide +kernel
theorem dX8_addRule_13 : decode cX8_addRule 13 = .ok (.ifCond .eq 10, 3) := by decide +kernel
theorem dX8_addRule_16 : decode cX8_addRule 16 = .ok (.iload_n 3, 1) := by decide +kernel
theorem dX8_addRule_17 : decode cX8_addRule 17 = .ok (.invokestatic 41, 3) := by decide +kernel
theorem dX8_addRule_20 : decode cX8_addRule 20 = .ok (.ifCond .ne 13, 3) := by decide +kernel
theorem dX8_addRule_23 : decode cX8_addRule 23 = .ok (.new 45, 3) := by decide +kernel
theorem dX8_addRule_26 : decode cX8_addRule 26 = .ok (.dup, 1) := by decide +kernel
theorem dX8_addRule_27 : decode cX8_addRule 27 = .ok (.ldc 47, 2) := by decide +kernel
theorem dX8_addRule_29 : decode cX8_addRule 29 = .ok (.invokespecial 49, 3) := by decide +kernel
theorem dX8_addRule_32 : decode cX8_addRule 32 = .ok (.athrow, 1) := by decide +kernel
theorem dX8_addRule_33 : decode cX8_addRule 33 = .ok (.aload_n 0, 1) := by decide +kernel
theorem dX8_addRule_34 : decode cX8_addRule 34 = .ok (.getfield 10, 3) := by decide +kernel
theorem dX8_addRule_37 : decode cX8_addRule 37 = .ok (.invokevirtual 52, 3) := by decide +kernel
theorem dX8_addRule_40 : decode cX8_addRule 40 = .ok (.bipush 8, 2) := by decide +kernel
theorem dX8_addRule_42 : decode cX8_addRule 42 = .ok (.if_icmp .lt 13, 3) := by decide +kernel
theorem dX8_addRule_45 : decode cX8_addRule 45 = .ok (.new 56, 3) := by decide +kernel
theorem dX8_addRule_48 : decode cX8_addRule 48 = .ok (.dup, 1) := by decide +kernel
theorem dX8_addRule_49 : decode cX8_addRule 49 = .ok (.ldc 58, 2) := by decide +kernel
theorem dX8_addRule_51 : decode cX8_addRule 51 = .ok (.invokespecial 60, 3) := by decide +kernel
theorem dX8_addRule_54 : decode cX8_addRule 54 = .ok (.athrow, 1) := by decide +kernel
theorem dX8_addRule_55 : decode cX8_addRule 55 = .ok (.aload_n 0, 1) := by decide +kernel
theorem dX8_addRule_56 : decode cX8_addRule 56 = .ok (.getfield 10, 3) := by decide +kernel
theorem dX8_addRule_59 : decode cX8_addRule 59 = .ok (.iload_n 1, 1) := by decide +kernel
theorem dX8_addRule_60 : decode cX8_addRule 60 = .ok (.iload_n 2, 1) := by decide +kernel
theorem dX8_addRule_61 : decode cX8_addRule 61 = .ok (.iload_n 3, 1) := by decide +kernel
theorem dX8_addRule_62 : decode cX8_addRule 62 = .ok (.invokevirtual 61, 3) := by decide +kernel
theorem dX8_addRule_65 : decode cX8_addRule 65 = .ok (.aload_n 0, 1) := by decide +kernel
theorem dX8_addRule_66 : decode cX8_addRule 66 = .ok (.getfield 10, 3) := by decide +kernel
theorem dX8_addRule_69 : decode cX8_addRule 69 = .ok (.invokevirtual 52, 3) := by decide +kernel
theorem dX8_addRule_72 : decode cX8_addRule 72 = .ok (.ireturn, 1) := by decide +kernel
set_option maxRecDepth 20000 in
theorem ggX8_products_X6_allowed : GoodIn wsX8_products wsX6_allowed := goodIn_r _ [6, 7, 8, 9, 5, 10, 11, 12, 13, 14, 15, 16, 17, 18, 19, 20, 21, 22, 23, 28, 29, 30, 31, 32] (by decide +kernel) (by decide +kernel)
set_option maxRecDepth 20000 in
theorem gX8_products_X6_allowed : GoodIn wsX8_products (wsV RX8 70 RX6 yX6_allowed wsX6_allowed) := goodIn_app (goodIn_of _ (by decide +kernel)) ggX8_products_X6_allowed
theorem dX8_products_0 : decode cX8_products 0 = .ok (.aload_n 0, 1) := by decide +kernel
theorem dX8_products_1 : decode cX8_products 1 = .ok (.getfield 10, 3) := by decide +kernel
theorem dX8_products_4 : decode cX8_products 4 = .ok (.invokevirtual 70, 3) := by decide +kernel
theorem dX8_products_7 : decode cX8_products 7 = .ok (.ireturn, 1) := by decide +kernel
set_option maxRecDepth 20000 in
theorem ggX8_addClass_X8_isCondition : GoodIn wsX8_addClass wsX8_isCondition := goodIn_r _ [10] (by decide +kernel) (by decide +kernel)
set_option maxRecDepth 20000 in
theorem gX8_addClass_X8_isCondition : GoodIn wsX8_addClass (va_wsS RX8 73 yX8_isCondition wsX8_isCondition) := goodIn_app (goodIn_of _ (by decide +kernel)) ggX8_addClass_X8_isCondition
set_option maxRecDepth 20000 in
theorem ggX8_addClass_X0_size : GoodIn wsX8_addClass wsX0_size := goodIn_r _ [15, 16, 48, 49, 50, 51] (by decide +kernel) (by decide +kernel)
set_option maxRecDepth 20000 in
theorem gX8_addClass_X0_size : GoodIn wsX8_addClass (wsV RX8 83 RX0 yX0_size wsX0_size) := goodIn_app (goodIn_of _ (by decide +kernel)) ggX8_addClass_X0_size
set_option maxRecDepth 20000 in
theorem ggX8_addClass_X0_append : GoodIn wsX8_addClass wsX0_append := goodIn_r _ [20, 16, 21, 22, 23, 14, 24, 25, 26, 27, 28, 29, 30, 31, 32, 33, 34, 9, 35, 48, 49, 50, 51, 52] (by decide +kernel) (by decide +kernel)
set_option maxRecDepth 20000 in
theorem gX8_addClass_X0_append : GoodIn wsX8_addClass (wsV RX8 88 RX0 yX0_append wsX0_append) := goodIn_app (goodIn_of _ (by decide +kernel)) ggX8_addClass_X0_append
theorem dX8_addClass_0 : decode cX8_addClass 0 = .ok (.iload_n 1, 1) := by decide +kernel
theorem dX8_addClass_1 : decode cX8_addClass 1 = .ok (.iload_n 2, 1) := by decide +kernel
theorem dX8_addClass_2 : decode cX8_addClass 2 = .ok (.invokestatic 73, 3) := by decide +kernel
theorem dX8_addClass_5 : decode cX8_addClass 5 = .ok (.ifCond .ne 13, 3) := by decide +kernel
theorem dX8_addClass_8 : decode cX8_addClass 8 = .ok (.new 45, 3) := by decide +kernel
theorem dX8_addClass_11 : decode cX8_addClass 11 = .ok (.dup, 1) := by decide +kernel
theorem dX8_addClass_12 : decode cX8_addClass 12 = .ok (.ldc 77, 2) := by decide +kernel
theorem dX8_addClass_14 : decode cX8_addClass 14 = .ok (.invokespecial 49, 3) := by decide +kernel
theorem dX8_addClass_17 : decode cX8_addClass 17 = .ok (.athrow, 1) := by decide +kernel
theorem dX8_addClass_18 : decode cX8_addClass 18 = .ok (.aload_n 0, 1) := by decide +kernel
theorem dX8_addClass_19 : decode cX8_addClass 19 = .ok (.getfield 19, 3) := by decide +kernel
theorem dX8_addClass_22 : decode cX8_addClass 22 = .ok (.getfield 79, 3) := by decide +kernel
theorem dX8_addClass_25 : decode cX8_addClass 25 = .ok (.invokevirtual 83, 3) := by decide +kernel
theorem dX8_addClass_28 : decode cX8_addClass 28 = .ok (.bipush 8, 2) := by decide +kernel
theorem dX8_addClass_30 : decode cX8_addClass 30 = .ok (.if_icmp .lt 13, 3) := by decide +kernel
theorem dX8_addClass_33 : decode cX8_addClass 33 = .ok (.new 56, 3) := by decide +kernel
theorem dX8_addClass_36 : decode cX8_addClass 36 = .ok (.dup, 1) := by decide +kernel
theorem dX8_addClass_37 : decode cX8_addClass 37 = .ok (.ldc 86, 2) := by decide +kernel
theorem dX8_addClass_39 : decode cX8_addClass 39 = .ok (.invokespecial 60, 3) := by decide +kernel
theorem dX8_addClass_42 : decode cX8_addClass 42 = .ok (.athrow, 1) := by decide +kernel
theorem dX8_addClass_43 : decode cX8_addClass 43 = .ok (.aload_n 0, 1) := by decide +kernel
theorem dX8_addClass_44 : decode cX8_addClass 44 = .ok (.getfield 19, 3) := by decide +kernel
theorem dX8_addClass_47 : decode cX8_addClass 47 = .ok (.getfield 79, 3) := by decide +kernel
theorem dX8_addClass_50 : decode cX8_addClass 50 = .ok (.iload_n 1, 1) := by decide +kernel
theorem dX8_addClass_51 : decode cX8_addClass 51 = .ok (.iload_n 2, 1) := by decide +kernel
theorem dX8_addClass_52 : decode cX8_addClass 52 = .ok (.invokevirtual 88, 3) := by decide +kernel
theorem dX8_addClass_55 : decode cX8_addClass 55 = .ok (.ireturn, 1) := by decide +kernel
set_option maxRecDepth 20000 in
theorem ggX8_addLink_X0_has : GoodIn wsX8_addLink wsX0_has := goodIn_r _ [14, 15, 64, 65, 66, 67] (by decide +kernel) (by decide +kernel)
set_option maxRecDepth 20000 in
theorem gX8_addLink_X0_has : GoodIn wsX8_addLink (wsV RX8 91 RX0 yX0_has wsX0_has) := goodIn_app (goodIn_of _ (by decide +kernel)) ggX8_addLink_X0_has
set_option maxRecDepth 20000 in
theorem ggX8_addLink_X8_isCondition : GoodIn wsX8_addLink wsX8_isCondition := goodIn_r _ [19] (by decide +kernel) (by decide +kernel)
set_option maxRecDepth 20000 in
theorem gX8_addLink_X8_isCondition : GoodIn wsX8_addLink (va_wsS RX8 73 yX8_isCondition wsX8_isCondition) := goodIn_app (goodIn_of _ (by decide +kernel)) ggX8_addLink_X8_isCondition
set_option maxRecDepth 20000 in
theorem ggX8_addLink_X0_size : GoodIn wsX8_addLink wsX0_size := goodIn_r _ [23, 15, 64, 65, 66, 67] (by decide +kernel) (by decide +kernel)
set_option maxRecDepth 20000 in
theorem gX8_addLink_X0_size : GoodIn wsX8_addLink (wsV RX8 83 RX0 yX0_size wsX0_size) := goodIn_app (goodIn_of _ (by decide +kernel)) ggX8_addLink_X0_size
set_option maxRecDepth 20000 in
theorem ggX8_addLink_X4_appendLink : GoodIn wsX8_addLink wsX4_appendLink := goodIn_r _ [28, 29, 30, 31, 32, 33, 34, 13, 35, 15, 36, 37, 38, 39, 40, 41, 42, 43, 44, 45, 46, 47, 48, 49, 18, 50, 51, 56, 57, 58, 59, 60, 61, 62, 63, 64, 65, 66, 67, 68] (by decide +kernel) (by decide +kernel)
set_option maxRecDepth 20000 in
theorem gX8_addLink_X4_appendLink : GoodIn wsX8_addLink (wsV RX8 104 RX4 yX4_appendLink wsX4_appendLink) := goodIn_app (goodIn_of _ (by decide +kernel)) ggX8_addLink_X4_appendLink
theorem dX8_addLink_0 : decode cX8_addLink 0 = .ok (.aload_n 0, 1) := by decide +kernel
theorem dX8_addLink_1 : decode cX8_addLink 1 = .ok (.getfield 19, 3) := by decide +kernel
theorem dX8_addLink_4 : decode cX8_addLink 4 = .ok (.getfield 79, 3) := by decide +kernel
theorem dX8_addLink_7 : decode cX8_addLink 7 = .ok (.iload_n 1, 1) := by decide +kernel
theorem dX8_addLink_8 : decode cX8_addLink 8 = .ok (.invokevirtual 91, 3) := by decide +kernel
theorem dX8_addLink_11 : decode cX8_addLink 11 = .ok (.ifCond .eq 17, 3) := by decide +kernel
theorem dX8_addLink_14 : decode cX8_addLink 14 = .ok (.aload_n 0, 1) := by decide +kernel
theorem dX8_addLink_15 : decode cX8_addLink 15 = .ok (.getfield 19, 3) := by decide +kernel
theorem dX8_addLink_18 : decode cX8_addLink 18 = .ok (.getfield 79, 3) := by decide +kernel
theorem dX8_addLink_21 : decode cX8_addLink 21 = .ok (.iload_n 2, 1) := by decide +kernel
theorem dX8_addLink_22 : decode cX8_addLink 22 = .ok (.invokevirtual 91, 3) := by decide +kernel
theorem dX8_addLink_25 : decode cX8_addLink 25 = .ok (.ifCond .ne 13, 3) := by decide +kernel
theorem dX8_addLink_28 : decode cX8_addLink 28 = .ok (.new 94, 3) := by decide +kernel
theorem dX8_addLink_31 : decode cX8_addLink 31 = .ok (.dup, 1) := by decide +kernel
theorem dX8_addLink_32 : decode cX8_addLink 32 = .ok (.ldc 96, 2) := by decide +kernel
theorem dX8_addLink_34 : decode cX8_addLink 34 = .ok (.invokespecial 98, 3) := by decide +kernel
theorem dX8_addLink_37 : decode cX8_addLink 37 = .ok (.athrow, 1) := by decide +kernel
theorem dX8_addLink_38 : decode cX8_addLink 38 = .ok (.iload_n 3, 1) := by decide +kernel
theorem dX8_addLink_39 : decode cX8_addLink 39 = .ok (.iload 4, 2) := by decide +kernel
theorem dX8_addLink_41 : decode cX8_addLink 41 = .ok (.invokestatic 73, 3) := by decide +kernel
theorem dX8_addLink_44 : decode cX8_addLink 44 = .ok (.ifCond .ne 13, 3) := by decide +kernel
theorem dX8_addLink_47 : decode cX8_addLink 47 = .ok (.new 45, 3) := by decide +kernel
theorem dX8_addLink_50 : decode cX8_addLink 50 = .ok (.dup, 1) := by decide +kernel
theorem dX8_addLink_51 : decode cX8_addLink 51 = .ok (.ldc 77, 2) := by decide +kernel
theorem dX8_addLink_53 : decode cX8_addLink 53 = .ok (.invokespecial 49, 3) := by decide +kernel
theorem dX8_addLink_56 : decode cX8_addLink 56 = .ok (.athrow, 1) := by decide +kernel
theorem dX8_addLink_57 : decode cX8_addLink 57 = .ok (.aload_n 0, 1) := by decide +kernel
theorem dX8_addLink_58 : decode cX8_addLink 58 = .ok (.getfield 19, 3) := by decide +kernel
theorem dX8_addLink_61 : decode cX8_addLink 61 = .ok (.getfield 99, 3) := by decide +kernel
theorem dX8_addLink_64 : decode cX8_addLink 64 = .ok (.invokevirtual 83, 3) := by decide +kernel
theorem dX8_addLink_67 : decode cX8_addLink 67 = .ok (.bipush 12, 2) := by decide +kernel
theorem dX8_addLink_69 : decode cX8_addLink 69 = .ok (.if_icmp .lt 13, 3) := by decide +kernel
theorem dX8_addLink_72 : decode cX8_addLink 72 = .ok (.new 56, 3) := by decide +kernel
theorem dX8_addLink_75 : decode cX8_addLink 75 = .ok (.dup, 1) := by decide +kernel
theorem dX8_addLink_76 : decode cX8_addLink 76 = .ok (.ldc 102, 2) := by decide +kernel
theorem dX8_addLink_78 : decode cX8_addLink 78 = .ok (.invokespecial 60, 3) := by decide +kernel
theorem dX8_addLink_81 : decode cX8_addLink 81 = .ok (.athrow, 1) := by decide +kernel
theorem dX8_addLink_82 : decode cX8_addLink 82 = .ok (.aload_n 0, 1) := by decide +kernel
theorem dX8_addLink_83 : decode cX8_addLink 83 = .ok (.getfield 19, 3) := by decide +kernel
theorem dX8_addLink_86 : decode cX8_addLink 86 = .ok (.iload_n 1, 1) := by decide +kernel
theorem dX8_addLink_87 : decode cX8_addLink 87 = .ok (.iload_n 2, 1) := by decide +kernel
theorem dX8_addLink_88 : decode cX8_addLink 88 = .ok (.iload_n 3, 1) := by decide +kernel
theorem dX8_addLink_89 : decode cX8_addLink 89 = .ok (.iload 4, 2) := by decide +kernel
theorem dX8_addLink_91 : decode cX8_addLink 91 = .ok (.invokevirtual 104, 3) := by decide +kernel
theorem dX8_addLink_94 : decode cX8_addLink 94 = .ok (.ireturn, 1) := by decide +kernel
set_option maxRecDepth 20000 in
theorem ggX8_addField_X0_has : GoodIn wsX8_addField wsX0_has := goodIn_r _ [14, 15, 86, 87, 88, 89] (by decide +kernel) (by decide +kernel)
set_option maxRecDepth 20000 in
theorem gX8_addField_X0_has : GoodIn wsX8_addField (wsV RX8 91 RX0 yX0_has wsX0_has) := goodIn_app (goodIn_of _ (by decide +kernel)) ggX8_addField_X0_has
set_option maxRecDepth 20000 in
theorem ggX8_addField_X8_isName : GoodIn wsX8_addField wsX8_isName := goodIn_r _ [19] (by decide +kernel) (by decide +kernel)
set_option maxRecDepth 20000 in
theorem gX8_addField_X8_isName : GoodIn wsX8_addField (va_wsS RX8 108 yX8_isName wsX8_isName) := goodIn_app (goodIn_of _ (by decide +kernel)) ggX8_addField_X8_isName
set_option maxRecDepth 20000 in
theorem ggX8_addField_X4_hasType : GoodIn wsX8_addField wsX4_hasType := goodIn_r _ [24, 25, 26, 11, 12, 13, 14, 15, 78, 79, 80, 81, 82, 83, 84, 85, 86, 87, 88, 89] (by decide +kernel) (by decide +kernel)
set_option maxRecDepth 20000 in
theorem gX8_addField_X4_hasType : GoodIn wsX8_addField (wsV RX8 111 RX4 yX4_hasType wsX4_hasType) := goodIn_app (goodIn_of _ (by decide +kernel)) ggX8_addField_X4_hasType
set_option maxRecDepth 20000 in
theorem ggX8_addField_X8_isCondition : GoodIn wsX8_addField wsX8_isCondition := goodIn_r _ [29] (by decide +kernel) (by decide +kernel)
set_option maxRecDepth 20000 in
theorem gX8_addField_X8_isCondition : GoodIn wsX8_addField (va_wsS RX8 73 yX8_isCondition wsX8_isCondition) := goodIn_app (goodIn_of _ (by decide +kernel)) ggX8_addField_X8_isCondition
set_option maxRecDepth 20000 in
theorem ggX8_addField_X3_size : GoodIn wsX8_addField wsX3_size := goodIn_r _ [34, 35, 36, 37, 38, 13, 39, 15, 90, 91, 92, 93, 94, 95, 96, 86, 87, 88, 89] (by decide +kernel) (by decide +kernel)
set_option maxRecDepth 20000 in
theorem gX8_addField_X3_size : GoodIn wsX8_addField (wsV RX8 120 RX3 yX3_size wsX3_size) := goodIn_app (goodIn_of _ (by decide +kernel)) ggX8_addField_X3_size
set_option maxRecDepth 20000 in
theorem ggX8_addField_X3_append : GoodIn wsX8_addField wsX3_append := goodIn_r _ [43, 35, 44, 45, 46, 47, 48, 49, 13, 50, 15, 51, 52, 53, 54, 55, 56, 57, 58, 59, 60, 61, 62, 63, 64, 18, 65, 66, 90, 91, 92, 93, 94, 95, 96, 86, 87, 88, 89, 97] (by decide +kernel) (by decide +kernel)
set_option maxRecDepth 20000 in
theorem gX8_addField_X3_append : GoodIn wsX8_addField (wsV RX8 125 RX3 yX3_append wsX3_append) := goodIn_app (goodIn_of _ (by decide +kernel)) ggX8_addField_X3_append
set_option maxRecDepth 20000 in
theorem ggX8_addField_X3_setTypes : GoodIn wsX8_addField wsX3_setTypes := goodIn_r _ [70, 71, 72, 73, 66, 59, 60, 61, 62, 63, 90, 91, 92, 93, 94, 95, 96, 97] (by decide +kernel) (by decide +kernel)
set_option maxRecDepth 20000 in
theorem gX8_addField_X3_setTypes : GoodIn wsX8_addField (wsV RX8 128 RX3 yX3_setTypes wsX3_setTypes) := goodIn_app (goodIn_of _ (by decide +kernel)) ggX8_addField_X3_setTypes
theorem dX8_addField_0 : decode cX8_addField 0 = .ok (.aload_n 0, 1) := by decide +kernel
theorem dX8_addField_1 : decode cX8_addField 1 = .ok (.getfield 19, 3) := by decide +kernel
theorem dX8_addField_4 : decode cX8_addField 4 = .ok (.getfield 79, 3) := by decide +kernel
theorem dX8_addField_7 : decode cX8_addField 7 = .ok (.iload_n 1, 1) := by decide +kernel
theorem dX8_addField_8 : decode cX8_addField 8 = .ok (.invokevirtual 91, 3) := by decide +kernel
theorem dX8_addField_11 : decode cX8_addField 11 = .ok (.ifCond .ne 13, 3) := by decide +kernel
theorem dX8_addField_14 : decode cX8_addField 14 = .ok (.new 94, 3) := by decide +kernel
theorem dX8_addField_17 : decode cX8_addField 17 = .ok (.dup, 1) := by decide +kernel
theorem dX8_addField_18 : decode cX8_addField 18 = .ok (.ldc 96, 2) := by decide +kernel
theorem dX8_addField_20 : decode cX8_addField 20 = .ok (.invokespecial 98, 3) := by decide +kernel
theorem dX8_addField_23 : decode cX8_addField 23 = .ok (.athrow, 1) := by decide +kernel
theorem dX8_addField_24 : decode cX8_addField 24 = .ok (.iload_n 2, 1) := by decide +kernel
theorem dX8_addField_25 : decode cX8_addField 25 = .ok (.invokestatic 108, 3) := by decide +kernel
theorem dX8_addField_28 : decode cX8_addField 28 = .ok (.ifCond .eq 24, 3) := by decide +kernel
theorem dX8_addField_31 : decode cX8_addField 31 = .ok (.aload_n 0, 1) := by decide +kernel
theorem dX8_addField_32 : decode cX8_addField 32 = .ok (.getfield 19, 3) := by decide +kernel
theorem dX8_addField_35 : decode cX8_addField 35 = .ok (.iload_n 3, 1) := by decide +kernel
theorem dX8_addField_36 : decode cX8_addField 36 = .ok (.invokevirtual 111, 3) := by decide +kernel
theorem dX8_addField_39 : decode cX8_addField 39 = .ok (.ifCond .eq 13, 3) := by decide +kernel
theorem dX8_addField_42 : decode cX8_addField 42 = .ok (.iload 4, 2) := by decide +kernel
theorem dX8_addField_44 : decode cX8_addField 44 = .ok (.iload 5, 2) := by decide +kernel
theorem dX8_addField_46 : decode cX8_addField 46 = .ok (.invokestatic 73, 3) := by decide +kernel
theorem dX8_addField_49 : decode cX8_addField 49 = .ok (.ifCond .ne 13, 3) := by decide +kernel
theorem dX8_addField_52 : decode cX8_addField 52 = .ok (.new 45, 3) := by decide +kernel
theorem dX8_addField_55 : decode cX8_addField 55 = .ok (.dup, 1) := by decide +kernel
theorem dX8_addField_56 : decode cX8_addField 56 = .ok (.ldc 114, 2) := by decide +kernel
theorem dX8_addField_58 : decode cX8_addField 58 = .ok (.invokespecial 49, 3) := by decide +kernel
theorem dX8_addField_61 : decode cX8_addField 61 = .ok (.athrow, 1) := by decide +kernel
theorem dX8_addField_62 : decode cX8_addField 62 = .ok (.aload_n 0, 1) := by decide +kernel
theorem dX8_addField_63 : decode cX8_addField 63 = .ok (.getfield 19, 3) := by decide +kernel
theorem dX8_addField_66 : decode cX8_addField 66 = .ok (.getfield 116, 3) := by decide +kernel
theorem dX8_addField_69 : decode cX8_addField 69 = .ok (.invokevirtual 120, 3) := by decide +kernel
theorem dX8_addField_72 : decode cX8_addField 72 = .ok (.bipush 24, 2) := by decide +kernel
theorem dX8_addField_74 : decode cX8_addField 74 = .ok (.if_icmp .lt 13, 3) := by decide +kernel
theorem dX8_addField_77 : decode cX8_addField 77 = .ok (.new 56, 3) := by decide +kernel
theorem dX8_addField_80 : decode cX8_addField 80 = .ok (.dup, 1) := by decide +kernel
theorem dX8_addField_81 : decode cX8_addField 81 = .ok (.ldc 123, 2) := by decide +kernel
theorem dX8_addField_83 : decode cX8_addField 83 = .ok (.invokespecial 60, 3) := by decide +kernel
theorem dX8_addField_86 : decode cX8_addField 86 = .ok (.athrow, 1) := by decide +kernel
theorem dX8_addField_87 : decode cX8_addField 87 = .ok (.aload_n 0, 1) := by decide +kernel
theorem dX8_addField_88 : decode cX8_addField 88 = .ok (.getfield 19, 3) := by decide +kernel
theorem dX8_addField_91 : decode cX8_addField 91 = .ok (.getfield 116, 3) := by decide +kernel
theorem dX8_addField_94 : decode cX8_addField 94 = .ok (.iconst 0, 1) := by decide +kernel
theorem dX8_addField_95 : decode cX8_addField 95 = .ok (.iload_n 1, 1) := by decide +kernel
theorem dX8_addField_96 : decode cX8_addField 96 = .ok (.iload_n 2, 1) := by decide +kernel
theorem dX8_addField_97 : decode cX8_addField 97 = .ok (.iload 4, 2) := by decide +kernel
theorem dX8_addField_99 : decode cX8_addField 99 = .ok (.iload 5, 2) := by decide +kernel
theorem dX8_addField_101 : decode cX8_addField 101 = .ok (.invokevirtual 125, 3) := by decide +kernel
theorem dX8_addField_104 : decode cX8_addField 104 = .ok (.istore 6, 2) := by decide +kernel
theorem dX8_addField_106 : decode cX8_addField 106 = .ok (.aload_n 0, 1) := by decide +kernel
theorem dX8_addField_107 : decode cX8_addField 107 = .ok (.getfield 19, 3) := by decide +kernel
theorem dX8_addField_110 : decode cX8_addField 110 = .ok (.getfield 116, 3) := by decide +kernel
theorem dX8_addField_113 : decode cX8_addField 113 = .ok (.iload 6, 2) := by decide +kernel
theorem dX8_addField_115 : decode cX8_addField 115 = .ok (.iload_n 3, 1) := by decide +kernel
theorem dX8_addField_116 : decode cX8_addField 116 = .ok (.iconst (-1), 1) := by decide +kernel
theorem dX8_addField_117 : decode cX8_addField 117 = .ok (.iconst (-1), 1) := by decide +kernel
theorem dX8_addField_118 : decode cX8_addField 118 = .ok (.invokevirtual 128, 3) := by decide +kernel
theorem dX8_addField_121 : decode cX8_addField 121 = .ok (.iload 6, 2) := by decide +kernel
theorem dX8_addField_123 : decode cX8_addField 123 = .ok (.ireturn, 1) := by decide +kernel
set_option maxRecDepth 20000 in
theorem ggX8_addMethod_X0_has : GoodIn wsX8_addMethod wsX0_has := goodIn_r _ [14, 15, 91, 92, 93, 94] (by decide +kernel) (by decide +kernel)
set_option maxRecDepth 20000 in
theorem gX8_addMethod_X0_has : GoodIn wsX8_addMethod (wsV RX8 91 RX0 yX0_has wsX0_has) := goodIn_app (goodIn_of _ (by decide +kernel)) ggX8_addMethod_X0_has
set_option maxRecDepth 20000 in
theorem ggX8_addMethod_X8_isName : GoodIn wsX8_addMethod wsX8_isName := goodIn_r _ [19] (by decide +kernel) (by decide +kernel)
set_option maxRecDepth 20000 in
theorem gX8_addMethod_X8_isName : GoodIn wsX8_addMethod (va_wsS RX8 108 yX8_isName wsX8_isName) := goodIn_app (goodIn_of _ (by decide +kernel)) ggX8_addMethod_X8_isName
set_option maxRecDepth 20000 in
theorem ggX8_addMethod_X4_hasType : GoodIn wsX8_addMethod wsX4_hasType := goodIn_r _ [24, 25, 26, 11, 12, 13, 14, 15, 83, 84, 85, 86, 87, 88, 89, 90, 91, 92, 93, 94] (by decide +kernel) (by decide +kernel)
set_option maxRecDepth 20000 in
theorem gX8_addMethod_X4_hasType : GoodIn wsX8_addMethod (wsV RX8 111 RX4 yX4_hasType wsX4_hasType) := goodIn_app (goodIn_of _ (by decide +kernel)) ggX8_addMethod_X4_hasType
set_option maxRecDepth 20000 in
theorem ggX8_addMethod_X4_hasParameters : GoodIn wsX8_addMethod wsX4_hasParameters := goodIn_r _ [30, 31, 21, 22, 23, 24, 25, 26, 11, 12, 13, 14, 15, 83, 84, 85, 86, 87, 88, 89, 90, 91, 92, 93, 94] (by decide +kernel) (by decide +kernel)
set_option maxRecDepth 20000 in
theorem gX8_addMethod_X4_hasParameters : GoodIn wsX8_addMethod (wsV RX8 132 RX4 yX4_hasParameters wsX4_hasParameters) := goodIn_app (goodIn_of _ (by decide +kernel)) ggX8_addMethod_X4_hasParameters
set_option maxRecDepth 20000 in
theorem ggX8_addMethod_X8_isCondition : GoodIn wsX8_addMethod wsX8_isCondition := goodIn_r _ [34] (by decide +kernel) (by decide +kernel)
set_option maxRecDepth 20000 in
theorem gX8_addMethod_X8_isCondition : GoodIn wsX8_addMethod (va_wsS RX8 73 yX8_isCondition wsX8_isCondition) := goodIn_app (goodIn_of _ (by decide +kernel)) ggX8_addMethod_X8_isCondition
set_option maxRecDepth 20000 in
theorem ggX8_addMethod_X3_size : GoodIn wsX8_addMethod wsX3_size := goodIn_r _ [39, 40, 41, 42, 43, 13, 44, 15, 95, 96, 97, 98, 99, 100, 101, 91, 92, 93, 94] (by decide +kernel) (by decide +kernel)
set_option maxRecDepth 20000 in
theorem gX8_addMethod_X3_size : GoodIn wsX8_addMethod (wsV RX8 120 RX3 yX3_size wsX3_size) := goodIn_app (goodIn_of _ (by decide +kernel)) ggX8_addMethod_X3_size
set_option maxRecDepth 20000 in
theorem ggX8_addMethod_X3_append : GoodIn wsX8_addMethod wsX3_append := goodIn_r _ [48, 40, 49, 50, 51, 52, 53, 54, 13, 55, 15, 56, 57, 58, 59, 60, 61, 62, 63, 64, 65, 66, 67, 68, 69, 18, 70, 71, 95, 96, 97, 98, 99, 100, 101, 91, 92, 93, 94, 102] (by decide +kernel) (by decide +kernel)
set_option maxRecDepth 20000 in
theorem gX8_addMethod_X3_append : GoodIn wsX8_addMethod (wsV RX8 125 RX3 yX3_append wsX3_append) := goodIn_app (goodIn_of _ (by decide +kernel)) ggX8_addMethod_X3_append
set_option maxRecDepth 20000 in
theorem ggX8_addMethod_X3_setTypes : GoodIn wsX8_addMethod wsX3_setTypes := goodIn_r _ [75, 76, 77, 78, 71, 64, 65, 66, 67, 68, 95, 96, 97, 98, 99, 100, 101, 102] (by decide +kernel) (by decide +kernel)
set_option maxRecDepth 20000 in
theorem gX8_addMethod_X3_setTypes : GoodIn wsX8_addMethod (wsV RX8 128 RX3 yX3_setTypes wsX3_setTypes) := goodIn_app (goodIn_of _ (by decide +kernel)) ggX8_addMethod_X3_setTypes
theorem dX8_addMethod_0 : decode cX8_addMethod 0 = .ok (.aload_n 0, 1) := by decide +kernel
theorem dX8_addMethod_1 : decode cX8_addMethod 1 = .ok (.getfield 19, 3) := by decide +kernel
theorem dX8_addMethod_4 : decode cX8_addMethod 4 = .ok (.getfield 79, 3) := by decide +kernel
theorem dX8_addMethod_7 : decode cX8_addMethod 7 = .ok (.iload_n 1, 1) := by decide +kernel
theorem dX8_addMethod_8 : decode cX8_addMethod 8 = .ok (.invokevirtual 91, 3) := by decide +kernel
theorem dX8_addMethod_11 : decode cX8_addMethod 11 = .ok (.ifCond .ne 13, 3) := by decide +kernel
theorem dX8_addMethod_14 : decode cX8_addMethod 14 = .ok (.new 94, 3) := by decide +kernel
theorem dX8_addMethod_17 : decode cX8_addMethod 17 = .ok (.dup, 1) := by decide +kernel
theorem dX8_addMethod_18 : decode cX8_addMethod 18 = .ok (.ldc 96, 2) := by decide +kernel
theorem dX8_addMethod_20 : decode cX8_addMethod 20 = .ok (.invokespecial 98, 3) := by decide +kernel
theorem dX8_addMethod_23 : decode cX8_addMethod 23 = .ok (.athrow, 1) := by decide +kernel
theorem dX8_addMethod_24 : decode cX8_addMethod 24 = .ok (.iload_n 2, 1) := by decide +kernel
theorem dX8_addMethod_25 : decode cX8_addMethod 25 = .ok (.invokestatic 108, 3) := by decide +kernel
theorem dX8_addMethod_28 : decode cX8_addMethod 28 = .ok (.ifCond .eq 38, 3) := by decide +kernel
theorem dX8_addMethod_31 : decode cX8_addMethod 31 = .ok (.aload_n 0, 1) := by decide +kernel
theorem dX8_addMethod_32 : decode cX8_addMethod 32 = .ok (.getfield 19, 3) := by decide +kernel
theorem dX8_addMethod_35 : decode cX8_addMethod 35 = .ok (.iload_n 3, 1) := by decide +kernel
theorem dX8_addMethod_36 : decode cX8_addMethod 36 = .ok (.invokevirtual 111, 3) := by decide +kernel
theorem dX8_addMethod_39 : decode cX8_addMethod 39 = .ok (.ifCond .eq 27, 3) := by decide +kernel
theorem dX8_addMethod_42 : decode cX8_addMethod 42 = .ok (.aload_n 0, 1) := by decide +kernel
theorem dX8_addMethod_43 : decode cX8_addMethod 43 = .ok (.getfield 19, 3) := by decide +kernel
theorem dX8_addMethod_46 : decode cX8_addMethod 46 = .ok (.iload 4, 2) := by decide +kernel
theorem dX8_addMethod_48 : decode cX8_addMethod 48 = .ok (.iload 5, 2) := by decide +kernel
theorem dX8_addMethod_50 : decode cX8_addMethod 50 = .ok (.invokevirtual 132, 3) := by decide +kernel
theorem dX8_addMethod_53 : decode cX8_addMethod 53 = .ok (.ifCond .eq 13, 3) := by decide +kernel
theorem dX8_addMethod_56 : decode cX8_addMethod 56 = .ok (.iload 6, 2) := by decide +kernel
theorem dX8_addMethod_58 : decode cX8_addMethod 58 = .ok (.iload 7, 2) := by decide +kernel
theorem dX8_addMethod_60 : decode cX8_addMethod 60 = .ok (.invokestatic 73, 3) := by decide +kernel
theorem dX8_addMethod_63 : decode cX8_addMethod 63 = .ok (.ifCond .ne 13, 3) := by decide +kernel
theorem dX8_addMethod_66 : decode cX8_addMethod 66 = .ok (.new 45, 3) := by decide +kernel
theorem dX8_addMethod_69 : decode cX8_addMethod 69 = .ok (.dup, 1) := by decide +kernel
theorem dX8_addMethod_70 : decode cX8_addMethod 70 = .ok (.ldc 114, 2) := by decide +kernel
theorem dX8_addMethod_72 : decode cX8_addMethod 72 = .ok (.invokespecial 49, 3) := by decide +kernel
theorem dX8_addMethod_75 : decode cX8_addMethod 75 = .ok (.athrow, 1) := by decide +kernel
theorem dX8_addMethod_76 : decode cX8_addMethod 76 = .ok (.aload_n 0, 1) := by decide +kernel
theorem dX8_addMethod_77 : decode cX8_addMethod 77 = .ok (.getfield 19, 3) := by decide +kernel
theorem dX8_addMethod_80 : decode cX8_addMethod 80 = .ok (.getfield 116, 3) := by decide +kernel
theorem dX8_addMethod_83 : decode cX8_addMethod 83 = .ok (.invokevirtual 120, 3) := by decide +kernel
theorem dX8_addMethod_86 : decode cX8_addMethod 86 = .ok (.bipush 24, 2) := by decide +kernel
theorem dX8_addMethod_88 : decode cX8_addMethod 88 = .ok (.if_icmp .lt 13, 3) := by decide +kernel
theorem dX8_addMethod_91 : decode cX8_addMethod 91 = .ok (.new 56, 3) := by decide +kernel
theorem dX8_addMethod_94 : decode cX8_addMethod 94 = .ok (.dup, 1) := by decide +kernel
theorem dX8_addMethod_95 : decode cX8_addMethod 95 = .ok (.ldc 123, 2) := by decide +kernel
theorem dX8_addMethod_97 : decode cX8_addMethod 97 = .ok (.invokespecial 60, 3) := by decide +kernel
theorem dX8_addMethod_100 : decode cX8_addMethod 100 = .ok (.athrow, 1) := by decide +kernel
theorem dX8_addMethod_101 : decode cX8_addMethod 101 = .ok (.aload_n 0, 1) := by decide +kernel
theorem dX8_addMethod_102 : decode cX8_addMethod 102 = .ok (.getfield 19, 3) := by decide +kernel
theorem dX8_addMethod_105 : decode cX8_addMethod 105 = .ok (.getfield 116, 3) := by decide +kernel
theorem dX8_addMethod_108 : decode cX8_addMethod 108 = .ok (.iconst 1, 1) := by decide +kernel
theorem dX8_addMethod_109 : decode cX8_addMethod 109 = .ok (.iload_n 1, 1) := by decide +kernel
theorem dX8_addMethod_110 : decode cX8_addMethod 110 = .ok (.iload_n 2, 1) := by decide +kernel
theorem dX8_addMethod_111 : decode cX8_addMethod 111 = .ok (.iload 6, 2) := by decide +kernel
theorem dX8_addMethod_113 : decode cX8_addMethod 113 = .ok (.iload 7, 2) := by decide +kernel
theorem dX8_addMethod_115 : decode cX8_addMethod 115 = .ok (.invokevirtual 125, 3) := by decide +kernel
theorem dX8_addMethod_118 : decode cX8_addMethod 118 = .ok (.istore 8, 2) := by decide +kernel
theorem dX8_addMethod_120 : decode cX8_addMethod 120 = .ok (.aload_n 0, 1) := by decide +kernel
theorem dX8_addMethod_121 : decode cX8_addMethod 121 = .ok (.getfield 19, 3) := by decide +kernel
theorem dX8_addMethod_124 : decode cX8_addMethod 124 = .ok (.getfield 116, 3) := by decide +kernel
theorem dX8_addMethod_127 : decode cX8_addMethod 127 = .ok (.iload 8, 2) := by decide +kernel
theorem dX8_addMethod_129 : decode cX8_addMethod 129 = .ok (.iload_n 3, 1) := by decide +kernel
theorem dX8_addMethod_130 : decode cX8_addMethod 130 = .ok (.iload 4, 2) := by decide +kernel
theorem dX8_addMethod_132 : decode cX8_addMethod 132 = .ok (.iload 5, 2) := by decide +kernel
theorem dX8_addMethod_134 : decode cX8_addMethod 134 = .ok (.invokevirtual 128, 3) := by decide +kernel
theorem dX8_addMethod_137 : decode cX8_addMethod 137 = .ok (.iload 8, 2) := by decide +kernel
theorem dX8_addMethod_139 : decode cX8_addMethod 139 = .ok (.ireturn, 1) := by decide +kernel
set_option maxRecDepth 20000 in
theorem ggX8_addNew_X3_hasMethod : GoodIn wsX8_addNew wsX3_hasMethod := goodIn_r _ [13, 14, 15, 16, 17, 18, 19, 20, 21, 22, 23, 24, 25, 26, 27, 65, 66, 67, 68, 69, 70, 71, 72, 73, 74, 75, 76] (by decide +kernel) (by decide +kernel)
set_option maxRecDepth 20000 in
theorem gX8_addNew_X3_hasMethod : GoodIn wsX8_addNew (wsV RX8 135 RX3 yX3_hasMethod wsX3_hasMethod) := goodIn_app (goodIn_of _ (by decide +kernel)) ggX8_addNew_X3_hasMethod
set_option maxRecDepth 20000 in
theorem ggX8_addNew_X0_has : GoodIn wsX8_addNew wsX0_has := goodIn_r _ [20, 21, 72, 73, 74, 75] (by decide +kernel) (by decide +kernel)
set_option maxRecDepth 20000 in
theorem gX8_addNew_X0_has : GoodIn wsX8_addNew (wsV RX8 91 RX0 yX0_has wsX0_has) := goodIn_app (goodIn_of _ (by decide +kernel)) ggX8_addNew_X0_has
set_option maxRecDepth 20000 in
theorem ggX8_addNew_X1_size : GoodIn wsX8_addNew wsX1_size := goodIn_r _ [33, 34, 77, 78, 79, 80, 81, 82, 83] (by decide +kernel) (by decide +kernel)
set_option maxRecDepth 20000 in
theorem gX8_addNew_X1_size : GoodIn wsX8_addNew (wsV RX8 144 RX1 yX1_size wsX1_size) := goodIn_app (goodIn_of _ (by decide +kernel)) ggX8_addNew_X1_size
set_option maxRecDepth 20000 in
theorem ggX8_addNew_X1_append : GoodIn wsX8_addNew wsX1_append := goodIn_r _ [38, 34, 39, 40, 41, 42, 43, 44, 25, 45, 27, 46, 47, 48, 32, 49, 50, 51, 52, 77, 78, 79, 80, 81, 82, 83, 76] (by decide +kernel) (by decide +kernel)
set_option maxRecDepth 20000 in
theorem gX8_addNew_X1_append : GoodIn wsX8_addNew (wsV RX8 149 RX1 yX1_append wsX1_append) := goodIn_app (goodIn_of _ (by decide +kernel)) ggX8_addNew_X1_append
theorem dX8_addNew_0 : decode cX8_addNew 0 = .ok (.aload_n 0, 1) := by decide +kernel
theorem dX8_addNew_1 : decode cX8_addNew 1 = .ok (.getfield 19, 3) := by decide +kernel
theorem dX8_addNew_4 : decode cX8_addNew 4 = .ok (.getfield 116, 3) := by decide +kernel
theorem dX8_addNew_7 : decode cX8_addNew 7 = .ok (.iload_n 1, 1) := by decide +kernel
theorem dX8_addNew_8 : decode cX8_addNew 8 = .ok (.invokevirtual 135, 3) := by decide +kernel
theorem dX8_addNew_11 : decode cX8_addNew 11 = .ok (.ifCond .eq 17, 3) := by decide +kernel
theorem dX8_addNew_14 : decode cX8_addNew 14 = .ok (.aload_n 0, 1) := by decide +kernel
theorem dX8_addNew_15 : decode cX8_addNew 15 = .ok (.getfield 19, 3) := by decide +kernel
theorem dX8_addNew_18 : decode cX8_addNew 18 = .ok (.getfield 79, 3) := by decide +kernel
theorem dX8_addNew_21 : decode cX8_addNew 21 = .ok (.iload_n 2, 1) := by decide +kernel
theorem dX8_addNew_22 : decode cX8_addNew 22 = .ok (.invokevirtual 91, 3) := by decide +kernel
theorem dX8_addNew_25 : decode cX8_addNew 25 = .ok (.ifCond .ne 13, 3) := by decide +kernel
theorem dX8_addNew_28 : decode cX8_addNew 28 = .ok (.new 94, 3) := by decide +kernel
theorem dX8_addNew_31 : decode cX8_addNew 31 = .ok (.dup, 1) := by decide +kernel
theorem dX8_addNew_32 : decode cX8_addNew 32 = .ok (.ldc 138, 2) := by decide +kernel
theorem dX8_addNew_34 : decode cX8_addNew 34 = .ok (.invokespecial 98, 3) := by decide +kernel
theorem dX8_addNew_37 : decode cX8_addNew 37 = .ok (.athrow, 1) := by decide +kernel
theorem dX8_addNew_38 : decode cX8_addNew 38 = .ok (.aload_n 0, 1) := by decide +kernel
theorem dX8_addNew_39 : decode cX8_addNew 39 = .ok (.getfield 19, 3) := by decide +kernel
theorem dX8_addNew_42 : decode cX8_addNew 42 = .ok (.getfield 140, 3) := by decide +kernel
theorem dX8_addNew_45 : decode cX8_addNew 45 = .ok (.invokevirtual 144, 3) := by decide +kernel
theorem dX8_addNew_48 : decode cX8_addNew 48 = .ok (.bipush 50, 2) := by decide +kernel
theorem dX8_addNew_50 : decode cX8_addNew 50 = .ok (.if_icmp .lt 13, 3) := by decide +kernel
theorem dX8_addNew_53 : decode cX8_addNew 53 = .ok (.new 56, 3) := by decide +kernel
theorem dX8_addNew_56 : decode cX8_addNew 56 = .ok (.dup, 1) := by decide +kernel
theorem dX8_addNew_57 : decode cX8_addNew 57 = .ok (.ldc 147, 2) := by decide +kernel
theorem dX8_addNew_59 : decode cX8_addNew 59 = .ok (.invokespecial 60, 3) := by decide +kernel
theorem dX8_addNew_62 : decode cX8_addNew 62 = .ok (.athrow, 1) := by decide +kernel
theorem dX8_addNew_63 : decode cX8_addNew 63 = .ok (.aload_n 0, 1) := by decide +kernel
theorem dX8_addNew_64 : decode cX8_addNew 64 = .ok (.getfield 19, 3) := by decide +kernel
theorem dX8_addNew_67 : decode cX8_addNew 67 = .ok (.getfield 140, 3) := by decide +kernel
theorem dX8_addNew_70 : decode cX8_addNew 70 = .ok (.iconst 0, 1) := by decide +kernel
theorem dX8_addNew_71 : decode cX8_addNew 71 = .ok (.iload_n 1, 1) := by decide +kernel
theorem dX8_addNew_72 : decode cX8_addNew 72 = .ok (.iload_n 2, 1) := by decide +kernel
theorem dX8_addNew_73 : decode cX8_addNew 73 = .ok (.invokevirtual 149, 3) := by decide +kernel
theorem dX8_addNew_76 : decode cX8_addNew 76 = .ok (.ireturn, 1) := by decide +kernel
set_option maxRecDepth 20000 in
theorem ggX8_addPlain_X3_hasMethod : GoodIn wsX8_addPlain wsX3_hasMethod := goodIn_r _ [12, 13, 14, 15, 16, 17, 18, 19, 20, 21, 22, 23, 24, 25, 26, 63, 64, 65, 66, 67, 68, 69, 70, 71, 72, 73, 74] (by decide +kernel) (by decide +kernel)
set_option maxRecDepth 20000 in
theorem gX8_addPlain_X3_hasMethod : GoodIn wsX8_addPlain (wsV RX8 135 RX3 yX3_hasMethod wsX3_hasMethod) := goodIn_app (goodIn_of _ (by decide +kernel)) ggX8_addPlain_X3_hasMethod
set_option maxRecDepth 20000 in
theorem ggX8_addPlain_X1_size : GoodIn wsX8_addPlain wsX1_size := goodIn_r _ [31, 32, 75, 76, 77, 78, 79, 80, 81] (by decide +kernel) (by decide +kernel)
set_option maxRecDepth 20000 in
theorem gX8_addPlain_X1_size : GoodIn wsX8_addPlain (wsV RX8 144 RX1 yX1_size wsX1_size) := goodIn_app (goodIn_of _ (by decide +kernel)) ggX8_addPlain_X1_size
set_option maxRecDepth 20000 in
theorem ggX8_addPlain_X1_append : GoodIn wsX8_addPlain wsX1_append := goodIn_r _ [36, 32, 37, 38, 39, 40, 41, 42, 24, 43, 26, 44, 45, 46, 30, 47, 48, 49, 50, 75, 76, 77, 78, 79, 80, 81, 74] (by decide +kernel) (by decide +kernel)
set_option maxRecDepth 20000 in
theorem gX8_addPlain_X1_append : GoodIn wsX8_addPlain (wsV RX8 149 RX1 yX1_append wsX1_append) := goodIn_app (goodIn_of _ (by decide +kernel)) ggX8_addPlain_X1_append
theorem dX8_addPlain_0 : decode cX8_addPlain 0 = .ok (.aload_n 0, 1) := by decide +kernel
theorem dX8_addPlain_1 : decode cX8_addPlain 1 = .ok (.getfield 19, 3) := by decide +kernel
theorem dX8_addPlain_4 : decode cX8_addPlain 4 = .ok (.getfield 116, 3) := by decide +kernel
theorem dX8_addPlain_7 : decode cX8_addPlain 7 = .ok (.iload_n 1, 1) := by decide +kernel
theorem dX8_addPlain_8 : decode cX8_addPlain 8 = .ok (.invokevirtual 135, 3) := by decide +kernel
theorem dX8_addPlain_11 : decode cX8_addPlain 11 = .ok (.ifCond .ne 13, 3) := by decide +kernel
theorem dX8_addPlain_14 : decode cX8_addPlain 14 = .ok (.new 94, 3) := by decide +kernel
theorem dX8_addPlain_17 : decode cX8_addPlain 17 = .ok (.dup, 1) := by decide +kernel
theorem dX8_addPlain_18 : decode cX8_addPlain 18 = .ok (.ldc 152, 2) := by decide +kernel
theorem dX8_addPlain_20 : decode cX8_addPlain 20 = .ok (.invokespecial 98, 3) := by decide +kernel
theorem dX8_addPlain_23 : decode cX8_addPlain 23 = .ok (.athrow, 1) := by decide +kernel
theorem dX8_addPlain_24 : decode cX8_addPlain 24 = .ok (.aload_n 0, 1) := by decide +kernel
theorem dX8_addPlain_25 : decode cX8_addPlain 25 = .ok (.getfield 19, 3) := by decide +kernel
theorem dX8_addPlain_28 : decode cX8_addPlain 28 = .ok (.getfield 140, 3) := by decide +kernel
theorem dX8_addPlain_31 : decode cX8_addPlain 31 = .ok (.invokevirtual 144, 3) := by decide +kernel
theorem dX8_addPlain_34 : decode cX8_addPlain 34 = .ok (.bipush 50, 2) := by decide +kernel
theorem dX8_addPlain_36 : decode cX8_addPlain 36 = .ok (.if_icmp .lt 13, 3) := by decide +kernel
theorem dX8_addPlain_39 : decode cX8_addPlain 39 = .ok (.new 56, 3) := by decide +kernel
theorem dX8_addPlain_42 : decode cX8_addPlain 42 = .ok (.dup, 1) := by decide +kernel
theorem dX8_addPlain_43 : decode cX8_addPlain 43 = .ok (.ldc 147, 2) := by decide +kernel
theorem dX8_addPlain_45 : decode cX8_addPlain 45 = .ok (.invokespecial 60, 3) := by decide +kernel
theorem dX8_addPlain_48 : decode cX8_addPlain 48 = .ok (.athrow, 1) := by decide +kernel
theorem dX8_addPlain_49 : decode cX8_addPlain 49 = .ok (.aload_n 0, 1) := by decide +kernel
theorem dX8_addPlain_50 : decode cX8_addPlain 50 = .ok (.getfield 19, 3) := by decide +kernel
theorem dX8_addPlain_53 : decode cX8_addPlain 53 = .ok (.getfield 140, 3) := by decide +kernel
theorem dX8_addPlain_56 : decode cX8_addPlain 56 = .ok (.iload_n 2, 1) := by decide +kernel
theorem dX8_addPlain_57 : decode cX8_addPlain 57 = .ok (.ifCond .eq 7, 3) := by decide +kernel
theorem dX8_addPlain_60 : decode cX8_addPlain 60 = .ok (.iconst 2, 1) := by decide +kernel
theorem dX8_addPlain_61 : decode cX8_addPlain 61 = .ok (.goto 4, 3) := by decide +kernel
theorem dX8_addPlain_64 : decode cX8_addPlain 64 = .ok (.iconst 1, 1) := by decide +kernel
theorem dX8_addPlain_65 : decode cX8_addPlain 65 = .ok (.iload_n 1, 1) := by decide +kernel
theorem dX8_addPlain_66 : decode cX8_addPlain 66 = .ok (.iconst (-1), 1) := by decide +kernel
theorem dX8_addPlain_67 : decode cX8_addPlain 67 = .ok (.invokevirtual 149, 3) := by decide +kernel
theorem dX8_addPlain_70 : decode cX8_addPlain 70 = .ok (.ireturn, 1) := by decide +kernel
set_option maxRecDepth 20000 in
theorem ggX8_addArgument_X3_hasMethod : GoodIn wsX8_addArgument wsX3_hasMethod := goodIn_r _ [12, 13, 14, 15, 16, 17, 18, 19, 20, 21, 22, 23, 24, 25, 26, 69, 70, 71, 72, 73, 74, 75, 76, 77, 78, 79, 80] (by decide +kernel) (by decide +kernel)
set_option maxRecDepth 20000 in
theorem gX8_addArgument_X3_hasMethod : GoodIn wsX8_addArgument (wsV RX8 135 RX3 yX3_hasMethod wsX3_hasMethod) := goodIn_app (goodIn_of _ (by decide +kernel)) ggX8_addArgument_X3_hasMethod
set_option maxRecDepth 20000 in
theorem ggX8_addArgument_X3_parameter : GoodIn wsX8_addArgument wsX3_parameter := goodIn_r _ [30, 31, 32, 21, 22, 23, 24, 25, 26, 69, 70, 71, 72, 73, 74, 75, 80] (by decide +kernel) (by decide +kernel)
set_option maxRecDepth 20000 in
theorem gX8_addArgument_X3_parameter : GoodIn wsX8_addArgument (wsV RX8 154 RX3 yX3_parameter wsX3_parameter) := goodIn_app (goodIn_of _ (by decide +kernel)) ggX8_addArgument_X3_parameter
set_option maxRecDepth 20000 in
theorem ggX8_addArgument_X1_size : GoodIn wsX8_addArgument wsX1_size := goodIn_r _ [37, 38, 81, 82, 83, 84, 85, 86, 87] (by decide +kernel) (by decide +kernel)
set_option maxRecDepth 20000 in
theorem gX8_addArgument_X1_size : GoodIn wsX8_addArgument (wsV RX8 144 RX1 yX1_size wsX1_size) := goodIn_app (goodIn_of _ (by decide +kernel)) ggX8_addArgument_X1_size
set_option maxRecDepth 20000 in
theorem ggX8_addArgument_X1_append : GoodIn wsX8_addArgument wsX1_append := goodIn_r _ [42, 38, 43, 44, 45, 46, 47, 48, 24, 49, 26, 50, 51, 52, 36, 53, 54, 55, 56, 81, 82, 83, 84, 85, 86, 87, 80] (by decide +kernel) (by decide +kernel)
set_option maxRecDepth 20000 in
theorem gX8_addArgument_X1_append : GoodIn wsX8_addArgument (wsV RX8 149 RX1 yX1_append wsX1_append) := goodIn_app (goodIn_of _ (by decide +kernel)) ggX8_addArgument_X1_append
theorem dX8_addArgument_0 : decode cX8_addArgument 0 = .ok (.aload_n 0, 1) := by decide +kernel
theorem dX8_addArgument_1 : decode cX8_addArgument 1 = .ok (.getfield 19, 3) := by decide +kernel
theorem dX8_addArgument_4 : decode cX8_addArgument 4 = .ok (.getfield 116, 3) := by decide +kernel
theorem dX8_addArgument_7 : decode cX8_addArgument 7 = .ok (.iload_n 1, 1) := by decide +kernel
theorem dX8_addArgument_8 : decode cX8_addArgument 8 = .ok (.invokevirtual 135, 3) := by decide +kernel
theorem dX8_addArgument_11 : decode cX8_addArgument 11 = .ok (.ifCond .eq 19, 3) := by decide +kernel
theorem dX8_addArgument_14 : decode cX8_addArgument 14 = .ok (.aload_n 0, 1) := by decide +kernel
theorem dX8_addArgument_15 : decode cX8_addArgument 15 = .ok (.getfield 19, 3) := by decide +kernel
theorem dX8_addArgument_18 : decode cX8_addArgument 18 = .ok (.getfield 116, 3) := by decide +kernel
theorem dX8_addArgument_21 : decode cX8_addArgument 21 = .ok (.iload_n 1, 1) := by decide +kernel
theorem dX8_addArgument_22 : decode cX8_addArgument 22 = .ok (.iload_n 2, 1) := by decide +kernel
theorem dX8_addArgument_23 : decode cX8_addArgument 23 = .ok (.invokevirtual 154, 3) := by decide +kernel
theorem dX8_addArgument_26 : decode cX8_addArgument 26 = .ok (.iconst (-1), 1) := by decide +kernel
theorem dX8_addArgument_27 : decode cX8_addArgument 27 = .ok (.if_icmp .ne 13, 3) := by decide +kernel
theorem dX8_addArgument_30 : decode cX8_addArgument 30 = .ok (.new 94, 3) := by decide +kernel
theorem dX8_addArgument_33 : decode cX8_addArgument 33 = .ok (.dup, 1) := by decide +kernel
theorem dX8_addArgument_34 : decode cX8_addArgument 34 = .ok (.ldc 157, 2) := by decide +kernel
theorem dX8_addArgument_36 : decode cX8_addArgument 36 = .ok (.invokespecial 98, 3) := by decide +kernel
theorem dX8_addArgument_39 : decode cX8_addArgument 39 = .ok (.athrow, 1) := by decide +kernel
theorem dX8_addArgument_40 : decode cX8_addArgument 40 = .ok (.aload_n 0, 1) := by decide +kernel
theorem dX8_addArgument_41 : decode cX8_addArgument 41 = .ok (.getfield 19, 3) := by decide +kernel
theorem dX8_addArgument_44 : decode cX8_addArgument 44 = .ok (.getfield 140, 3) := by decide +kernel
theorem dX8_addArgument_47 : decode cX8_addArgument 47 = .ok (.invokevirtual 144, 3) := by decide +kernel
theorem dX8_addArgument_50 : decode cX8_addArgument 50 = .ok (.bipush 50, 2) := by decide +kernel
theorem dX8_addArgument_52 : decode cX8_addArgument 52 = .ok (.if_icmp .lt 13, 3) := by decide +kernel
theorem dX8_addArgument_55 : decode cX8_addArgument 55 = .ok (.new 56, 3) := by decide +kernel
theorem dX8_addArgument_58 : decode cX8_addArgument 58 = .ok (.dup, 1) := by decide +kernel
theorem dX8_addArgument_59 : decode cX8_addArgument 59 = .ok (.ldc 147, 2) := by decide +kernel
theorem dX8_addArgument_61 : decode cX8_addArgument 61 = .ok (.invokespecial 60, 3) := by decide +kernel
theorem dX8_addArgument_64 : decode cX8_addArgument 64 = .ok (.athrow, 1) := by decide +kernel
theorem dX8_addArgument_65 : decode cX8_addArgument 65 = .ok (.aload_n 0, 1) := by decide +kernel
theorem dX8_addArgument_66 : decode cX8_addArgument 66 = .ok (.getfield 19, 3) := by decide +kernel
theorem dX8_addArgument_69 : decode cX8_addArgument 69 = .ok (.getfield 140, 3) := by decide +kernel
theorem dX8_addArgument_72 : decode cX8_addArgument 72 = .ok (.iconst 3, 1) := by decide +kernel
theorem dX8_addArgument_73 : decode cX8_addArgument 73 = .ok (.iload_n 1, 1) := by decide +kernel
theorem dX8_addArgument_74 : decode cX8_addArgument 74 = .ok (.iload_n 2, 1) := by decide +kernel
theorem dX8_addArgument_75 : decode cX8_addArgument 75 = .ok (.invokevirtual 149, 3) := by decide +kernel
theorem dX8_addArgument_78 : decode cX8_addArgument 78 = .ok (.ireturn, 1) := by decide +kernel
set_option maxRecDepth 20000 in
theorem ggX8_addFieldOf_X1_has : GoodIn wsX8_addFieldOf wsX1_has := goodIn_r _ [13, 14, 64, 65, 66, 67, 68, 69, 70] (by decide +kernel) (by decide +kernel)
set_option maxRecDepth 20000 in
theorem gX8_addFieldOf_X1_has : GoodIn wsX8_addFieldOf (wsV RX8 159 RX1 yX1_has wsX1_has) := goodIn_app (goodIn_of _ (by decide +kernel)) ggX8_addFieldOf_X1_has
set_option maxRecDepth 20000 in
theorem ggX8_addFieldOf_X8_isName : GoodIn wsX8_addFieldOf wsX8_isName := goodIn_r _ [18] (by decide +kernel) (by decide +kernel)
set_option maxRecDepth 20000 in
theorem gX8_addFieldOf_X8_isName : GoodIn wsX8_addFieldOf (va_wsS RX8 108 yX8_isName wsX8_isName) := goodIn_app (goodIn_of _ (by decide +kernel)) ggX8_addFieldOf_X8_isName
set_option maxRecDepth 20000 in
theorem ggX8_addFieldOf_X1_size : GoodIn wsX8_addFieldOf wsX1_size := goodIn_r _ [22, 14, 64, 65, 66, 67, 68, 69, 70] (by decide +kernel) (by decide +kernel)
set_option maxRecDepth 20000 in
theorem gX8_addFieldOf_X1_size : GoodIn wsX8_addFieldOf (wsV RX8 144 RX1 yX1_size wsX1_size) := goodIn_app (goodIn_of _ (by decide +kernel)) ggX8_addFieldOf_X1_size
set_option maxRecDepth 20000 in
theorem ggX8_addFieldOf_X1_method : GoodIn wsX8_addFieldOf wsX1_method := goodIn_r _ [26, 27, 28, 29, 30, 31, 32, 33, 64, 65, 66, 67, 68, 69, 70, 71] (by decide +kernel) (by decide +kernel)
set_option maxRecDepth 20000 in
theorem gX8_addFieldOf_X1_method : GoodIn wsX8_addFieldOf (wsV RX8 164 RX1 yX1_method wsX1_method) := goodIn_app (goodIn_of _ (by decide +kernel)) ggX8_addFieldOf_X1_method
set_option maxRecDepth 20000 in
theorem ggX8_addFieldOf_X1_append : GoodIn wsX8_addFieldOf wsX1_append := goodIn_r _ [37, 14, 38, 27, 39, 40, 41, 42, 31, 43, 33, 44, 45, 46, 12, 47, 48, 49, 50, 64, 65, 66, 67, 68, 69, 70, 71] (by decide +kernel) (by decide +kernel)
set_option maxRecDepth 20000 in
theorem gX8_addFieldOf_X1_append : GoodIn wsX8_addFieldOf (wsV RX8 149 RX1 yX1_append wsX1_append) := goodIn_app (goodIn_of _ (by decide +kernel)) ggX8_addFieldOf_X1_append
set_option maxRecDepth 20000 in
theorem ggX8_addFieldOf_X1_setParts : GoodIn wsX8_addFieldOf wsX1_setParts := goodIn_r _ [47, 48, 49, 50, 40, 41, 42, 31, 43, 33, 64, 65, 66, 67, 68, 69, 70, 71] (by decide +kernel) (by decide +kernel)
set_option maxRecDepth 20000 in
theorem gX8_addFieldOf_X1_setParts : GoodIn wsX8_addFieldOf (wsV RX8 168 RX1 yX1_setParts wsX1_setParts) := goodIn_app (goodIn_of _ (by decide +kernel)) ggX8_addFieldOf_X1_setParts
theorem dX8_addFieldOf_0 : decode cX8_addFieldOf 0 = .ok (.aload_n 0, 1) := by decide +kernel
theorem dX8_addFieldOf_1 : decode cX8_addFieldOf 1 = .ok (.getfield 19, 3) := by decide +kernel
theorem dX8_addFieldOf_4 : decode cX8_addFieldOf 4 = .ok (.getfield 140, 3) := by decide +kernel
theorem dX8_addFieldOf_7 : decode cX8_addFieldOf 7 = .ok (.iload_n 1, 1) := by decide +kernel
theorem dX8_addFieldOf_8 : decode cX8_addFieldOf 8 = .ok (.invokevirtual 159, 3) := by decide +kernel
theorem dX8_addFieldOf_11 : decode cX8_addFieldOf 11 = .ok (.ifCond .ne 13, 3) := by decide +kernel
theorem dX8_addFieldOf_14 : decode cX8_addFieldOf 14 = .ok (.new 94, 3) := by decide +kernel
theorem dX8_addFieldOf_17 : decode cX8_addFieldOf 17 = .ok (.dup, 1) := by decide +kernel
theorem dX8_addFieldOf_18 : decode cX8_addFieldOf 18 = .ok (.ldc 160, 2) := by decide +kernel
theorem dX8_addFieldOf_20 : decode cX8_addFieldOf 20 = .ok (.invokespecial 98, 3) := by decide +kernel
theorem dX8_addFieldOf_23 : decode cX8_addFieldOf 23 = .ok (.athrow, 1) := by decide +kernel
theorem dX8_addFieldOf_24 : decode cX8_addFieldOf 24 = .ok (.iload_n 2, 1) := by decide +kernel
theorem dX8_addFieldOf_25 : decode cX8_addFieldOf 25 = .ok (.invokestatic 108, 3) := by decide +kernel
theorem dX8_addFieldOf_28 : decode cX8_addFieldOf 28 = .ok (.ifCond .ne 13, 3) := by decide +kernel
theorem dX8_addFieldOf_31 : decode cX8_addFieldOf 31 = .ok (.new 45, 3) := by decide +kernel
theorem dX8_addFieldOf_34 : decode cX8_addFieldOf 34 = .ok (.dup, 1) := by decide +kernel
theorem dX8_addFieldOf_35 : decode cX8_addFieldOf 35 = .ok (.ldc 162, 2) := by decide +kernel
theorem dX8_addFieldOf_37 : decode cX8_addFieldOf 37 = .ok (.invokespecial 49, 3) := by decide +kernel
theorem dX8_addFieldOf_40 : decode cX8_addFieldOf 40 = .ok (.athrow, 1) := by decide +kernel
theorem dX8_addFieldOf_41 : decode cX8_addFieldOf 41 = .ok (.aload_n 0, 1) := by decide +kernel
theorem dX8_addFieldOf_42 : decode cX8_addFieldOf 42 = .ok (.getfield 19, 3) := by decide +kernel
theorem dX8_addFieldOf_45 : decode cX8_addFieldOf 45 = .ok (.getfield 140, 3) := by decide +kernel
theorem dX8_addFieldOf_48 : decode cX8_addFieldOf 48 = .ok (.invokevirtual 144, 3) := by decide +kernel
theorem dX8_addFieldOf_51 : decode cX8_addFieldOf 51 = .ok (.bipush 50, 2) := by decide +kernel
theorem dX8_addFieldOf_53 : decode cX8_addFieldOf 53 = .ok (.if_icmp .lt 13, 3) := by decide +kernel
theorem dX8_addFieldOf_56 : decode cX8_addFieldOf 56 = .ok (.new 56, 3) := by decide +kernel
theorem dX8_addFieldOf_59 : decode cX8_addFieldOf 59 = .ok (.dup, 1) := by decide +kernel
theorem dX8_addFieldOf_60 : decode cX8_addFieldOf 60 = .ok (.ldc 147, 2) := by decide +kernel
theorem dX8_addFieldOf_62 : decode cX8_addFieldOf 62 = .ok (.invokespecial 60, 3) := by decide +kernel
theorem dX8_addFieldOf_65 : decode cX8_addFieldOf 65 = .ok (.athrow, 1) := by decide +kernel
theorem dX8_addFieldOf_66 : decode cX8_addFieldOf 66 = .ok (.aload_n 0, 1) := by decide +kernel
theorem dX8_addFieldOf_67 : decode cX8_addFieldOf 67 = .ok (.getfield 19, 3) := by decide +kernel
theorem dX8_addFieldOf_70 : decode cX8_addFieldOf 70 = .ok (.getfield 140, 3) := by decide +kernel
theorem dX8_addFieldOf_73 : decode cX8_addFieldOf 73 = .ok (.iconst 4, 1) := by decide +kernel
theorem dX8_addFieldOf_74 : decode cX8_addFieldOf 74 = .ok (.aload_n 0, 1) := by decide +kernel
theorem dX8_addFieldOf_75 : decode cX8_addFieldOf 75 = .ok (.getfield 19, 3) := by decide +kernel
theorem dX8_addFieldOf_78 : decode cX8_addFieldOf 78 = .ok (.getfield 140, 3) := by decide +kernel
theorem dX8_addFieldOf_81 : decode cX8_addFieldOf 81 = .ok (.iload_n 1, 1) := by decide +kernel
theorem dX8_addFieldOf_82 : decode cX8_addFieldOf 82 = .ok (.invokevirtual 164, 3) := by decide +kernel
theorem dX8_addFieldOf_85 : decode cX8_addFieldOf 85 = .ok (.iload_n 2, 1) := by decide +kernel
theorem dX8_addFieldOf_86 : decode cX8_addFieldOf 86 = .ok (.invokevirtual 149, 3) := by decide +kernel
theorem dX8_addFieldOf_89 : decode cX8_addFieldOf 89 = .ok (.istore_n 3, 1) := by decide +kernel
theorem dX8_addFieldOf_90 : decode cX8_addFieldOf 90 = .ok (.aload_n 0, 1) := by decide +kernel
theorem dX8_addFieldOf_91 : decode cX8_addFieldOf 91 = .ok (.getfield 19, 3) := by decide +kernel
theorem dX8_addFieldOf_94 : decode cX8_addFieldOf 94 = .ok (.getfield 140, 3) := by decide +kernel
theorem dX8_addFieldOf_97 : decode cX8_addFieldOf 97 = .ok (.iload_n 3, 1) := by decide +kernel
theorem dX8_addFieldOf_98 : decode cX8_addFieldOf 98 = .ok (.iload_n 1, 1) := by decide +kernel
theorem dX8_addFieldOf_99 : decode cX8_addFieldOf 99 = .ok (.iconst (-1), 1) := by decide +kernel
theorem dX8_addFieldOf_100 : decode cX8_addFieldOf 100 = .ok (.iconst (-1), 1) := by decide +kernel
theorem dX8_addFieldOf_101 : decode cX8_addFieldOf 101 = .ok (.invokevirtual 168, 3) := by decide +kernel
theorem dX8_addFieldOf_104 : decode cX8_addFieldOf 104 = .ok (.iload_n 3, 1) := by decide +kernel
theorem dX8_addFieldOf_105 : decode cX8_addFieldOf 105 = .ok (.ireturn, 1) := by decide +kernel
set_option maxRecDepth 20000 in
theorem ggX8_addCall_X1_has : GoodIn wsX8_addCall wsX1_has := goodIn_r _ [13, 14, 73, 74, 75, 76, 77, 78, 79] (by decide +kernel) (by decide +kernel)
set_option maxRecDepth 20000 in
theorem gX8_addCall_X1_has : GoodIn wsX8_addCall (wsV RX8 159 RX1 yX1_has wsX1_has) := goodIn_app (goodIn_of _ (by decide +kernel)) ggX8_addCall_X1_has
set_option maxRecDepth 20000 in
theorem ggX8_addCall_X1_hasOrNone : GoodIn wsX8_addCall wsX1_hasOrNone := goodIn_r _ [18, 19, 10, 11, 12, 13, 14, 73, 74, 75, 76, 77, 78, 79] (by decide +kernel) (by decide +kernel)
set_option maxRecDepth 20000 in
theorem gX8_addCall_X1_hasOrNone : GoodIn wsX8_addCall (wsV RX8 171 RX1 yX1_hasOrNone wsX1_hasOrNone) := goodIn_app (goodIn_of _ (by decide +kernel)) ggX8_addCall_X1_hasOrNone
set_option maxRecDepth 20000 in
theorem ggX8_addCall_X8_isName : GoodIn wsX8_addCall wsX8_isName := goodIn_r _ [23] (by decide +kernel) (by decide +kernel)
set_option maxRecDepth 20000 in
theorem gX8_addCall_X8_isName : GoodIn wsX8_addCall (va_wsS RX8 108 yX8_isName wsX8_isName) := goodIn_app (goodIn_of _ (by decide +kernel)) ggX8_addCall_X8_isName
set_option maxRecDepth 20000 in
theorem ggX8_addCall_X1_areTogether : GoodIn wsX8_addCall wsX1_areTogether := goodIn_r _ [27, 28, 29, 30, 31, 32, 33, 34, 73, 74, 75, 76, 77, 78, 79, 80] (by decide +kernel) (by decide +kernel)
set_option maxRecDepth 20000 in
theorem gX8_addCall_X1_areTogether : GoodIn wsX8_addCall (wsV RX8 174 RX1 yX1_areTogether wsX1_areTogether) := goodIn_app (goodIn_of _ (by decide +kernel)) ggX8_addCall_X1_areTogether
set_option maxRecDepth 20000 in
theorem ggX8_addCall_X1_size : GoodIn wsX8_addCall wsX1_size := goodIn_r _ [38, 14, 73, 74, 75, 76, 77, 78, 79] (by decide +kernel) (by decide +kernel)
set_option maxRecDepth 20000 in
theorem gX8_addCall_X1_size : GoodIn wsX8_addCall (wsV RX8 144 RX1 yX1_size wsX1_size) := goodIn_app (goodIn_of _ (by decide +kernel)) ggX8_addCall_X1_size
set_option maxRecDepth 20000 in
theorem ggX8_addCall_X1_method : GoodIn wsX8_addCall wsX1_method := goodIn_r _ [42, 28, 29, 30, 31, 32, 33, 34, 73, 74, 75, 76, 77, 78, 79, 80] (by decide +kernel) (by decide +kernel)
set_option maxRecDepth 20000 in
theorem gX8_addCall_X1_method : GoodIn wsX8_addCall (wsV RX8 164 RX1 yX1_method wsX1_method) := goodIn_app (goodIn_of _ (by decide +kernel)) ggX8_addCall_X1_method
set_option maxRecDepth 20000 in
theorem ggX8_addCall_X1_append : GoodIn wsX8_addCall wsX1_append := goodIn_r _ [46, 14, 47, 28, 48, 49, 50, 51, 32, 52, 34, 53, 54, 55, 12, 56, 57, 58, 59, 73, 74, 75, 76, 77, 78, 79, 80] (by decide +kernel) (by decide +kernel)
set_option maxRecDepth 20000 in
theorem gX8_addCall_X1_append : GoodIn wsX8_addCall (wsV RX8 149 RX1 yX1_append wsX1_append) := goodIn_app (goodIn_of _ (by decide +kernel)) ggX8_addCall_X1_append
set_option maxRecDepth 20000 in
theorem ggX8_addCall_X1_setParts : GoodIn wsX8_addCall wsX1_setParts := goodIn_r _ [56, 57, 58, 59, 49, 50, 51, 32, 52, 34, 73, 74, 75, 76, 77, 78, 79, 80] (by decide +kernel) (by decide +kernel)
set_option maxRecDepth 20000 in
theorem gX8_addCall_X1_setParts : GoodIn wsX8_addCall (wsV RX8 168 RX1 yX1_setParts wsX1_setParts) := goodIn_app (goodIn_of _ (by decide +kernel)) ggX8_addCall_X1_setParts
theorem dX8_addCall_0 : decode cX8_addCall 0 = .ok (.aload_n 0, 1) := by decide +kernel
theorem dX8_addCall_1 : decode cX8_addCall 1 = .ok (.getfield 19, 3) := by decide +kernel
theorem dX8_addCall_4 : decode cX8_addCall 4 = .ok (.getfield 140, 3) := by decide +kernel
theorem dX8_addCall_7 : decode cX8_addCall 7 = .ok (.iload_n 1, 1) := by decide +kernel
theorem dX8_addCall_8 : decode cX8_addCall 8 = .ok (.invokevirtual 159, 3) := by decide +kernel
theorem dX8_addCall_11 : decode cX8_addCall 11 = .ok (.ifCond .eq 32, 3) := by decide +kernel
theorem dX8_addCall_14 : decode cX8_addCall 14 = .ok (.aload_n 0, 1) := by decide +kernel
theorem dX8_addCall_15 : decode cX8_addCall 15 = .ok (.getfield 19, 3) := by decide +kernel
theorem dX8_addCall_18 : decode cX8_addCall 18 = .ok (.getfield 140, 3) := by decide +kernel
theorem dX8_addCall_21 : decode cX8_addCall 21 = .ok (.iload_n 3, 1) := by decide +kernel
theorem dX8_addCall_22 : decode cX8_addCall 22 = .ok (.invokevirtual 171, 3) := by decide +kernel
